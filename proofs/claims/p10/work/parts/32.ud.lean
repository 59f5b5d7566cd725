def LVx (N B x : Nat) : Prop := x = 48 ∨ x < 2 * N ∨ (20 ≤ x ∧ x < 20 + 3 * B)
def SR (o N B : Nat) (st W : Nat → Int32) : Prop := ∀ x : Nat, LVx N B x → st (o + x) = W x
def CR (N B : Nat) (d : Int32) (f1 f2 f4 f5 f6 W : Nat → Int32) : Prop := W 48 = d - 5 ∧ (∀ i : Nat, i < N → W (2 * i) = f1 i ∧ W (2 * i + 1) = f2 i) ∧ (∀ i : Nat, i < B → W (20 + 3 * i) = f4 i ∧ W (20 + 3 * i + 1) = f5 i ∧ W (20 + 3 * i + 2) = f6 i)
theorem LVx.b {N B x : Nat} (h : LVx N B x) (hN : N ≤ 10) (hB : B ≤ 6) : x < 49 ∧ ¬ (38 ≤ x ∧ x < 48) := by
  unfold LVx at h
  omega
theorem ck_lt {i : Int32} {N : Nat} (h : 0 ≤ i.toInt ∧ i.toInt < ((N : Nat) : Int)) : i.toNatClampNeg < N := by
  have e : i.toNatClampNeg = i.toInt.toNat := rfl
  omega
-- the pages
theorem SR.no3 {o N B : Nat} {st st' W : Nat → Int32} (h : SR o N B st W) (g : NO3 st st') (hN : N ≤ 10) (hB : B ≤ 6) (ho : o = 0 ∨ (49 ≤ o ∧ o ≤ 98)) : SR o N B st' W := by
  intro x hx
  have b := hx.b hN hB
  exact (g (o + x) (by omega) (by omega)).trans (h x hx)
theorem SR.up {N B y : Nat} {v : Int32} {st W : Nat → Int32} (h : SR 0 N B st W) : SR 0 N B (upd st y v) (upd W y v) := by
  intro x hx
  have h' := h x hx
  rw [Nat.zero_add] at h' ⊢
  show (if x = y then v else st x) = (if x = y then v else W x)
  rw [h']
theorem SR.set {N B y : Nat} {v : Int32} {st W : Nat → Int32} {C : Prop} [Decidable C] (h : SR 0 N B st W) : SR 0 N B (if C then upd st y v else st) (if C then upd W y v else W) := by
  split
  · exact h.up
  · exact h
theorem SR.oth {o N B y : Nat} {v : Int32} {st W : Nat → Int32} {C : Prop} [Decidable C] (h : SR o N B st W) (ho : 49 ≤ o) (hy : C → y < 49) : SR o N B (if C then upd st y v else st) W := by
  split
  · rename_i c
    intro x hx
    have := hy c
    exact (if_neg (by omega)).trans (h x hx)
  · exact h
theorem cpj_in {fr tt x : Nat} {st : Nat → Int32} (h : x < 49) : cpj fr tt 49 st (tt + x) = st (fr + x) := by
  show (if tt ≤ tt + x ∧ tt + x < tt + 49 then st (fr + (tt + x - tt)) else st (tt + x)) = _
  rw [if_pos (by omega), Nat.add_sub_cancel_left]
theorem cpj_out {fr tt x : Nat} {st : Nat → Int32} (h : ¬ (tt ≤ x ∧ x < tt + 49)) : cpj fr tt 49 st x = st x := if_neg h
theorem SR.kp0 {N B : Nat} {k : Int32} {st W : Nat → Int32} (h : SR 0 N B st W) (hN : N ≤ 10) (hB : B ≤ 6) : SR 0 N B (if 0 ≤ k.toInt ∧ k.toInt < 2 then cpj 0 (49 * (k.toNatClampNeg + 1)) 49 st else st) W := by
  split
  · intro x hx
    have b := hx.b hN hB
    exact (cpj_out (by omega)).trans (h x hx)
  · exact h
theorem SR.kp1 {N B N1 B1 : Nat} {k : Int32} {st W W1 : Nat → Int32} (h : SR 0 N B st W) (h1 : SR 49 N1 B1 st W1) (hN : N ≤ 10) (hB : B ≤ 6) (hN1 : N1 ≤ 10) (hB1 : B1 ≤ 6) : SR 49 (if k = 0 then N else N1) (if k = 0 then B else B1) (if 0 ≤ k.toInt ∧ k.toInt < 2 then cpj 0 (49 * (k.toNatClampNeg + 1)) 49 st else st) (if k = 0 then W else W1) := by
  by_cases c : 0 ≤ k.toInt ∧ k.toInt < 2
  · rw [if_pos c]
    rcases k01 c with e | e
    · subst e
      rw [if_pos rfl, if_pos rfl, if_pos rfl]
      intro x hx
      have b := hx.b hN hB
      have q : cpj 0 (49 * ((0 : Int32).toNatClampNeg + 1)) 49 st (49 + x) = st (0 + x) := cpj_in b.1
      exact q.trans (h x hx)
    · subst e
      rw [if_neg (by decide), if_neg (by decide), if_neg (by decide)]
      intro x hx
      have b := hx.b hN1 hB1
      have q : cpj 0 (49 * ((1 : Int32).toNatClampNeg + 1)) 49 st (49 + x) = st (49 + x) := cpj_out (by have e1 : (1 : Int32).toNatClampNeg = 1 := by decide
                                                                                                        rw [e1]; omega)
      exact q.trans (h1 x hx)
  · have n0 : ¬ k = 0 := fun e => c (by rw [e]; decide)
    rw [if_neg c, if_neg n0, if_neg n0, if_neg n0]
    exact h1
theorem SR.kp2 {N B N2 B2 : Nat} {k : Int32} {st W W2 : Nat → Int32} (h : SR 0 N B st W) (h2 : SR 98 N2 B2 st W2) (hN : N ≤ 10) (hB : B ≤ 6) (hN2 : N2 ≤ 10) (hB2 : B2 ≤ 6) : SR 98 (if k = 1 then N else N2) (if k = 1 then B else B2) (if 0 ≤ k.toInt ∧ k.toInt < 2 then cpj 0 (49 * (k.toNatClampNeg + 1)) 49 st else st) (if k = 1 then W else W2) := by
  by_cases c : 0 ≤ k.toInt ∧ k.toInt < 2
  · rw [if_pos c]
    rcases k01 c with e | e
    · subst e
      rw [if_neg (by decide), if_neg (by decide), if_neg (by decide)]
      intro x hx
      have b := hx.b hN2 hB2
      have q : cpj 0 (49 * ((0 : Int32).toNatClampNeg + 1)) 49 st (98 + x) = st (98 + x) := cpj_out (by have e1 : (0 : Int32).toNatClampNeg = 0 := by decide
                                                                                                        rw [e1]; omega)
      exact q.trans (h2 x hx)
    · subst e
      rw [if_pos rfl, if_pos rfl, if_pos rfl]
      intro x hx
      have b := hx.b hN hB
      have q : cpj 0 (49 * ((1 : Int32).toNatClampNeg + 1)) 49 st (98 + x) = st (0 + x) := cpj_in b.1
      exact q.trans (h x hx)
  · have n0 : ¬ k = 1 := fun e => c (by rw [e]; decide)
    rw [if_neg c, if_neg n0, if_neg n0, if_neg n0]
    exact h2
def bkW (k : Int32) (K W W1 W2 : Nat → Int32) : Nat → Int32 := if k = 0 ∧ ¬ K 0 = 0 then W1 else if k = 1 ∧ ¬ K 1 = 0 then W2 else W
theorem SR.bk0 {N B N1 B1 N2 B2 : Nat} {k : Int32} {K st W W1 W2 : Nat → Int32} (h : SR 0 N B st W) (h1 : SR 49 N1 B1 st W1) (h2 : SR 98 N2 B2 st W2) (hX : XIN N B K N1 B1 N2 B2) (hN : N ≤ 10) (hB : B ≤ 6) : SR 0 N B (if (0 ≤ k.toInt ∧ k.toInt < 2) ∧ ¬ K k.toNatClampNeg = 0 then cpj (49 * (k.toNatClampNeg + 1)) 0 49 st else st) (bkW k K W W1 W2) := by
  unfold bkW
  by_cases c : 0 ≤ k.toInt ∧ k.toInt < 2
  · rcases k01 c with e | e
    · subst e
      have e0 : (0 : Int32).toNatClampNeg = 0 := by decide
      by_cases d : K 0 = 0
      · rw [if_neg (fun z => z.2 (by rw [e0]; exact d)), if_neg (fun z => z.2 d), if_neg (fun z => absurd z.1 (by decide))]
        exact h
      · rw [if_pos ⟨c, by rw [e0]; exact d⟩, if_pos ⟨rfl, d⟩]
        obtain ⟨a1, a2⟩ := hX.1.resolve_left d
        subst a1 a2
        intro x hx
        have b := hx.b hN hB
        have q : cpj (49 * ((0 : Int32).toNatClampNeg + 1)) 0 49 st (0 + x) = st (49 * ((0 : Int32).toNatClampNeg + 1) + x) := cpj_in b.1
        exact q.trans (h1 x hx)
    · subst e
      have e0 : (1 : Int32).toNatClampNeg = 1 := by decide
      by_cases d : K 1 = 0
      · rw [if_neg (fun z => z.2 (by rw [e0]; exact d)), if_neg (fun z => absurd z.1 (by decide)), if_neg (fun z => z.2 d)]
        exact h
      · rw [if_pos ⟨c, by rw [e0]; exact d⟩, if_neg (fun z => absurd z.1 (by decide)), if_pos ⟨rfl, d⟩]
        obtain ⟨a1, a2⟩ := hX.2.resolve_left d
        subst a1 a2
        intro x hx
        have b := hx.b hN hB
        have q : cpj (49 * ((1 : Int32).toNatClampNeg + 1)) 0 49 st (0 + x) = st (49 * ((1 : Int32).toNatClampNeg + 1) + x) := cpj_in b.1
        exact q.trans (h2 x hx)
  · rw [if_neg (fun z => c z.1), if_neg (fun z => c (by rw [z.1]; decide)), if_neg (fun z => c (by rw [z.1]; decide))]
    exact h
theorem SR.bko {o N B : Nat} {k : Int32} {K st W : Nat → Int32} (h : SR o N B st W) (ho : 49 ≤ o) : SR o N B (if (0 ≤ k.toInt ∧ k.toInt < 2) ∧ ¬ K k.toNatClampNeg = 0 then cpj (49 * (k.toNatClampNeg + 1)) 0 49 st else st) W := by
  split
  · intro x hx
    exact (cpj_out (by omega)).trans (h x hx)
  · exact h
-- the rows
theorem CR.set1 {N B : Nat} {d v i : Int32} {f1 f2 f4 f5 f6 W : Nat → Int32} (h : CR N B d f1 f2 f4 f5 f6 W) (hN : N ≤ 10) : CR N B d (if ((0 ≤ i.toInt ∧ i.toInt < ((N : Nat) : Int)) ∧ 0 ≤ v.toInt ∧ v.toInt ≤ 9) then upd f1 i.toNatClampNeg v else f1) f2 f4 f5 f6 (if ((0 ≤ i.toInt ∧ i.toInt < ((N : Nat) : Int)) ∧ 0 ≤ v.toInt ∧ v.toInt ≤ 9) then upd W (2 * i.toNatClampNeg) v else W) := by
  split
  · rename_i c
    have hj := ck_lt c.1
    generalize i.toNatClampNeg = j at hj
    refine ⟨(upd_n (by omega)).trans h.1, fun x hx => ⟨?_, (upd_n (by omega)).trans (h.2.1 x hx).2⟩, fun x hx => ⟨(upd_n (by omega)).trans (h.2.2 x hx).1, (upd_n (by omega)).trans (h.2.2 x hx).2.1, (upd_n (by omega)).trans (h.2.2 x hx).2.2⟩⟩
    by_cases e : x = j
    · rw [e, upd_y, upd_y]
    · rw [upd_n (by omega), upd_n e]; exact (h.2.1 x hx).1
  · exact h
theorem CR.set2 {N B : Nat} {d v i : Int32} {f1 f2 f4 f5 f6 W : Nat → Int32} (h : CR N B d f1 f2 f4 f5 f6 W) (hN : N ≤ 10) : CR N B d f1 (if ((0 ≤ i.toInt ∧ i.toInt < ((N : Nat) : Int)) ∧ 0 ≤ v.toInt ∧ v.toInt ≤ 9) then upd f2 i.toNatClampNeg v else f2) f4 f5 f6 (if ((0 ≤ i.toInt ∧ i.toInt < ((N : Nat) : Int)) ∧ 0 ≤ v.toInt ∧ v.toInt ≤ 9) then upd W (2 * i.toNatClampNeg + 1) v else W) := by
  split
  · rename_i c
    have hj := ck_lt c.1
    generalize i.toNatClampNeg = j at hj
    refine ⟨(upd_n (by omega)).trans h.1, fun x hx => ⟨(upd_n (by omega)).trans (h.2.1 x hx).1, ?_⟩, fun x hx => ⟨(upd_n (by omega)).trans (h.2.2 x hx).1, (upd_n (by omega)).trans (h.2.2 x hx).2.1, (upd_n (by omega)).trans (h.2.2 x hx).2.2⟩⟩
    by_cases e : x = j
    · rw [e, upd_y, upd_y]
    · rw [upd_n (by omega), upd_n e]; exact (h.2.1 x hx).2
  · exact h
theorem CR.set5 {N B : Nat} {d v i : Int32} {f1 f2 f4 f5 f6 W : Nat → Int32} (h : CR N B d f1 f2 f4 f5 f6 W) (hN : N ≤ 10) (hB : B ≤ 6) : CR N B d f1 f2 f4 (if ((0 ≤ i.toInt ∧ i.toInt < ((B : Nat) : Int)) ∧ 0 ≤ v.toInt ∧ v.toInt ≤ 9) then upd f5 i.toNatClampNeg v else f5) f6 (if ((0 ≤ i.toInt ∧ i.toInt < ((B : Nat) : Int)) ∧ 0 ≤ v.toInt ∧ v.toInt ≤ 9) then upd W (20 + 3 * i.toNatClampNeg + 1) v else W) := by
  split
  · rename_i c
    have hj := ck_lt c.1
    generalize i.toNatClampNeg = j at hj
    refine ⟨(upd_n (by omega)).trans h.1, fun x hx => ⟨(upd_n (by omega)).trans (h.2.1 x hx).1, (upd_n (by omega)).trans (h.2.1 x hx).2⟩, fun x hx => ⟨(upd_n (by omega)).trans (h.2.2 x hx).1, ?_, (upd_n (by omega)).trans (h.2.2 x hx).2.2⟩⟩
    by_cases e : x = j
    · rw [e, upd_y, upd_y]
    · rw [upd_n (by omega), upd_n e]; exact (h.2.2 x hx).2.1
  · exact h
theorem CR.set6 {N B : Nat} {d v i : Int32} {f1 f2 f4 f5 f6 W : Nat → Int32} (h : CR N B d f1 f2 f4 f5 f6 W) (hN : N ≤ 10) (hB : B ≤ 6) : CR N B d f1 f2 f4 f5 (if ((0 ≤ i.toInt ∧ i.toInt < ((B : Nat) : Int)) ∧ 0 ≤ v.toInt ∧ v.toInt ≤ 9) then upd f6 i.toNatClampNeg v else f6) (if ((0 ≤ i.toInt ∧ i.toInt < ((B : Nat) : Int)) ∧ 0 ≤ v.toInt ∧ v.toInt ≤ 9) then upd W (20 + 3 * i.toNatClampNeg + 2) v else W) := by
  split
  · rename_i c
    have hj := ck_lt c.1
    generalize i.toNatClampNeg = j at hj
    refine ⟨(upd_n (by omega)).trans h.1, fun x hx => ⟨(upd_n (by omega)).trans (h.2.1 x hx).1, (upd_n (by omega)).trans (h.2.1 x hx).2⟩, fun x hx => ⟨(upd_n (by omega)).trans (h.2.2 x hx).1, (upd_n (by omega)).trans (h.2.2 x hx).2.1, ?_⟩⟩
    by_cases e : x = j
    · rw [e, upd_y, upd_y]
    · rw [upd_n (by omega), upd_n e]; exact (h.2.2 x hx).2.2
  · exact h
theorem CR.setD {N B D : Nat} {v : Int32} {f1 f2 f4 f5 f6 W : Nat → Int32} (h : CR N B (nI D) f1 f2 f4 f5 f6 W) (hN : N ≤ 10) (hB : B ≤ 6) : CR N B (nI (if (1 ≤ v.toInt ∧ v.toInt ≤ 9) then v.toNatClampNeg else D)) f1 f2 f4 f5 f6 (if (1 ≤ v.toInt ∧ v.toInt ≤ 9) then upd W 48 (v - 5) else W) := by
  split
  · rename_i c
    refine ⟨by rw [upd_y, cl_nI (by omega)], fun x hx => ⟨(upd_n (by omega)).trans (h.2.1 x hx).1, (upd_n (by omega)).trans (h.2.1 x hx).2⟩, fun x hx => ⟨(upd_n (by omega)).trans (h.2.2 x hx).1, (upd_n (by omega)).trans (h.2.2 x hx).2.1, (upd_n (by omega)).trans (h.2.2 x hx).2.2⟩⟩
  · exact h
theorem cpy_i {z f : Nat → Int32} {n i : Nat} (h : i < n) : va_cpy z f 0 0 n i = z i := by
  show (if 0 ≤ i ∧ i < 0 + n then z (0 + (i - 0)) else f i) = z i
  rw [if_pos (by omega), Nat.sub_zero, Nat.zero_add]
theorem CR.cpy {N B : Nat} {d : Int32} {f1 f2 f4 f5 f6 e1 e2 e4 e5 e6 W : Nat → Int32} (h : CR N B d f1 f2 f4 f5 f6 W) (hN : N ≤ 10) (hB : B ≤ 6) : CR N B d (va_cpy f1 e1 0 0 10) (va_cpy f2 e2 0 0 10) (va_cpy f4 e4 0 0 6) (va_cpy f5 e5 0 0 6) (va_cpy f6 e6 0 0 6) W :=
  ⟨h.1, fun i hi => ⟨(h.2.1 i hi).1.trans (cpy_i (by omega)).symm, (h.2.1 i hi).2.trans (cpy_i (by omega)).symm⟩, fun i hi => ⟨(h.2.2 i hi).1.trans (cpy_i (by omega)).symm, (h.2.2 i hi).2.1.trans (cpy_i (by omega)).symm, (h.2.2 i hi).2.2.trans (cpy_i (by omega)).symm⟩⟩
theorem CR.kp {N B D N1 B1 D1 : Nat} {k c : Int32} {f1 f2 f4 f5 f6 e1 e2 e4 e5 e6 W W1 : Nat → Int32} (h : CR N B (nI D) f1 f2 f4 f5 f6 W) (h1 : CR N1 B1 (nI D1) e1 e2 e4 e5 e6 W1) (hN : N ≤ 10) (hB : B ≤ 6) : CR (if k = c then N else N1) (if k = c then B else B1) (nI (if k = c then D else D1)) (if k = c then va_cpy f1 e1 0 0 10 else e1) (if k = c then va_cpy f2 e2 0 0 10 else e2) (if k = c then va_cpy f4 e4 0 0 6 else e4) (if k = c then va_cpy f5 e5 0 0 6 else e5) (if k = c then va_cpy f6 e6 0 0 6 else e6) (if k = c then W else W1) := by
  by_cases e : k = c
  · rw [if_pos e, if_pos e, if_pos e, if_pos e, if_pos e, if_pos e, if_pos e, if_pos e, if_pos e]; exact h.cpy hN hB
  · rw [if_neg e, if_neg e, if_neg e, if_neg e, if_neg e, if_neg e, if_neg e, if_neg e, if_neg e]; exact h1
theorem CR.bk {N B D N1 B1 D1 N2 B2 D2 : Nat} {k : Int32} {K f1 f2 f4 f5 f6 a1 a2 a4 a5 a6 b1 b2 b4 b5 b6 W W1 W2 : Nat → Int32} (h : CR N B (nI D) f1 f2 f4 f5 f6 W) (h1 : CR N1 B1 (nI D1) a1 a2 a4 a5 a6 W1) (h2 : CR N2 B2 (nI D2) b1 b2 b4 b5 b6 W2) (hX : XIN N B K N1 B1 N2 B2) (hN : N ≤ 10) (hB : B ≤ 6) : CR N B (nI (if k = 0 ∧ ¬ K 0 = 0 then D1 else if k = 1 ∧ ¬ K 1 = 0 then D2 else D)) (if k = 0 ∧ ¬ K 0 = 0 then va_cpy a1 f1 0 0 10 else if k = 1 ∧ ¬ K 1 = 0 then va_cpy b1 f1 0 0 10 else f1) (if k = 0 ∧ ¬ K 0 = 0 then va_cpy a2 f2 0 0 10 else if k = 1 ∧ ¬ K 1 = 0 then va_cpy b2 f2 0 0 10 else f2) (if k = 0 ∧ ¬ K 0 = 0 then va_cpy a4 f4 0 0 6 else if k = 1 ∧ ¬ K 1 = 0 then va_cpy b4 f4 0 0 6 else f4) (if k = 0 ∧ ¬ K 0 = 0 then va_cpy a5 f5 0 0 6 else if k = 1 ∧ ¬ K 1 = 0 then va_cpy b5 f5 0 0 6 else f5) (if k = 0 ∧ ¬ K 0 = 0 then va_cpy a6 f6 0 0 6 else if k = 1 ∧ ¬ K 1 = 0 then va_cpy b6 f6 0 0 6 else f6) (bkW k K W W1 W2) := by
  unfold bkW
  by_cases e : k = 0 ∧ ¬ K 0 = 0
  · rw [if_pos e, if_pos e, if_pos e, if_pos e, if_pos e, if_pos e, if_pos e]
    obtain ⟨q1, q2⟩ := hX.1.resolve_left e.2
    subst q1 q2
    exact h1.cpy hN hB
  · rw [if_neg e, if_neg e, if_neg e, if_neg e, if_neg e, if_neg e, if_neg e]
    by_cases e : k = 1 ∧ ¬ K 1 = 0
    · rw [if_pos e, if_pos e, if_pos e, if_pos e, if_pos e, if_pos e, if_pos e]
      obtain ⟨q1, q2⟩ := hX.2.resolve_left e.2
      subst q1 q2
      exact h2.cpy hN hB
    · rw [if_neg e, if_neg e, if_neg e, if_neg e, if_neg e, if_neg e, if_neg e]
      exact h

def txW (f : Nat → Int32) (T : Nat) (W : Nat → Int32) : Nat → Int32 := if 0 < (txF f T).toInt then W else (TQ f T).1.2.2.2.2.2.2.2
theorem CR.text {f : Nat → Int32} {T N B D : Nat} {f1 f2 f4 f5 f6 W : Nat → Int32} (h3 : T ≤ 320) {x3 : Int32} {g1 g2 g3 g4 g5 g6 : Nat → Int32} (h : CR N B (nI D) f1 f2 f4 f5 f6 W) : CR (txN f T N) (txB f T B) (nI (if (cFN T (cRA f T x3 g1 g2 g3 g4 g5 g6).1).1 = 0 then (cRA f T x3 g1 g2 g3 g4 g5 g6).1.2.2.2.2.2.2.2.1 else D)) (if (cFN T (cRA f T x3 g1 g2 g3 g4 g5 g6).1).1 = 0 then va_cpy ((cRA f T x3 g1 g2 g3 g4 g5 g6).1.2.2.2.2.2.2.2.2.1) f1 0 0 10 else f1) (if (cFN T (cRA f T x3 g1 g2 g3 g4 g5 g6).1).1 = 0 then va_cpy ((cRA f T x3 g1 g2 g3 g4 g5 g6).1.2.2.2.2.2.2.2.2.2.1) f2 0 0 10 else f2) (if (cFN T (cRA f T x3 g1 g2 g3 g4 g5 g6).1).1 = 0 then va_cpy ((cRA f T x3 g1 g2 g3 g4 g5 g6).1.2.2.2.2.2.2.2.2.2.2.2.1) f4 0 0 6 else f4) (if (cFN T (cRA f T x3 g1 g2 g3 g4 g5 g6).1).1 = 0 then va_cpy ((cRA f T x3 g1 g2 g3 g4 g5 g6).1.2.2.2.2.2.2.2.2.2.2.2.2.1) f5 0 0 6 else f5) (if (cFN T (cRA f T x3 g1 g2 g3 g4 g5 g6).1).1 = 0 then va_cpy ((cRA f T x3 g1 g2 g3 g4 g5 g6).1.2.2.2.2.2.2.2.2.2.2.2.2.2) f6 0 0 6 else f6) (txW f T W) := by
  have ts := text_sim (f := f) h3 x3 g1 g2 g3 g4 g5 g6 0 0 0 0 (fun _ => 0)
  unfold txN txB txW txF TQ
  generalize cRA f T x3 g1 g2 g3 g4 g5 g6 = Q at ts ⊢
  generalize txQ f T 0 0 0 0 (fun _ => 0) = X at ts ⊢
  rcases ts with ⟨p, q, _, w, _⟩ | g
  · rw [if_pos p, if_pos p, if_pos p, if_pos p, if_pos p, if_pos p, q, if_neg (by decide), if_neg (by decide), if_neg (by decide)]
    obtain ⟨⟨w1, w2, w3, w4, w5, w6⟩, w7, w8, w9, w10, w11⟩ := w
    rw [← w5, ← w6]
    exact CR.cpy ⟨w8, w9, w11⟩ w7.1 w7.2.1
  · rw [if_neg g.m, if_neg g.m, if_neg g.m, if_neg g.m, if_neg g.m, if_neg g.m, if_pos g.pos, if_pos g.pos, if_pos g.pos]
    exact h
theorem RW2.fp {q : CW2} {L L' : LS2} (w : RW2 q L) (w' : RW2 q L') {x : Nat} (hx : LVx L.1 L.2.1 x) : L'.2.2.2.2.2.2 x = L.2.2.2.2.2.2 x := by
  obtain ⟨⟨w1, w2, w3, w4, w5, w6⟩, w7, w8, w9, w10, w11⟩ := w
  obtain ⟨⟨v1, v2, v3, v4, v5, v6⟩, v7, v8, v9, v10, v11⟩ := w'
  rcases hx with e | e | e
  · rw [e, v8, w8]
  · have hl : x / 2 < q.2.2.2.2.1 := by rw [w5]; omega
    rcases (show x = 2 * (x / 2) ∨ x = 2 * (x / 2) + 1 by omega) with z | z
    · rw [z]; exact (v9 _ hl).1.trans (w9 _ hl).1.symm
    · rw [z]; exact (v9 _ hl).2.trans (w9 _ hl).2.symm
  · have hl : (x - 20) / 3 < q.2.2.2.2.2.1 := by rw [w6]; omega
    rcases (show x = 20 + 3 * ((x - 20) / 3) ∨ x = 20 + 3 * ((x - 20) / 3) + 1 ∨ x = 20 + 3 * ((x - 20) / 3) + 2 by omega) with z | z | z
    · rw [z]; exact (v11 _ hl).1.trans (w11 _ hl).1.symm
    · rw [z]; exact (v11 _ hl).2.1.trans (w11 _ hl).2.1.symm
    · rw [z]; exact (v11 _ hl).2.2.trans (w11 _ hl).2.2.symm
theorem SR.text {f : Nat → Int32} {T N B : Nat} {st W : Nat → Int32} (h3 : T ≤ 320) {ba : Int32} {he : Nat} {tk va : Int32} {fp : Nat → Int32} (h : SR 0 N B st W) : SR 0 (txN f T N) (txB f T B) (if 0 < (txE (txQ f T ba he tk va fp).1).1.toInt then st else cpF 49 (txQ f T ba he tk va fp).1.2.2.2.2.2.2.2 st) (txW f T W) := by
  have ta := text_sim (f := f) h3 0 (fun _ => 0) (fun _ => 0) (fun _ => 0) (fun _ => 0) (fun _ => 0) (fun _ => 0) 0 0 0 0 (fun _ => 0)
  have tb := text_sim (f := f) h3 0 (fun _ => 0) (fun _ => 0) (fun _ => 0) (fun _ => 0) (fun _ => 0) (fun _ => 0) ba he tk va fp
  unfold txN txB txW txF TQ
  generalize cRA f T 0 (fun _ => 0) (fun _ => 0) (fun _ => 0) (fun _ => 0) (fun _ => 0) (fun _ => 0) = Q at ta tb ⊢
  generalize txQ f T 0 0 0 0 (fun _ => 0) = X0 at ta ⊢
  generalize txQ f T ba he tk va fp = X at tb ⊢
  rcases ta with ⟨p, q, _, w, _⟩ | g
  · rcases tb with ⟨p', q', _, w', _⟩ | g'
    · rw [q, q', if_neg (by decide), if_neg (by decide), if_neg (by decide), if_neg (by decide)]
      intro x hx
      have b := hx.b (by have := w.2.1.1; rw [w.1.2.2.2.2.1] at this; exact this) (by have := w.2.1.2.1; rw [w.1.2.2.2.2.2] at this; exact this)
      rw [Nat.zero_add]
      show (if x < 49 then X.1.2.2.2.2.2.2.2 x else st x) = _
      rw [if_pos b.1]
      exact RW2.fp w w' hx
    · exact absurd p g'.m
  · rcases tb with ⟨p', q', _, w', _⟩ | g'
    · exact absurd p' g.m
    · rw [if_pos g.pos, if_pos g.pos, if_pos g.pos, if_pos g'.pos]
      exact h
theorem SR.texto {o N B : Nat} {st fp W : Nat → Int32} {C : Prop} [Decidable C] (h : SR o N B st W) (ho : 49 ≤ o) : SR o N B (if C then st else cpF 49 fp st) W := by
  split
  · exact h
  · intro x hx
    exact (if_neg (by omega)).trans (h x hx)
-- answers
theorem cr_get {C : Prop} [Decidable C] {a b : Int32} (h : C → a = b) : (if C then a else -1) = (if C then b else -1) := by
  split
  · rename_i c; exact h c
  · rfl
theorem SR.g {N B x : Nat} {st W : Nat → Int32} (h : SR 0 N B st W) (hx : LVx N B x) : st x = W x := by
  have e := h x hx
  rw [Nat.zero_add] at e
  exact e
theorem ru_c {what d : Int32} {N B : Nat} {f1 f2 f4 f5 f6 W : Nat → Int32} (h : CR N B d f1 f2 f4 f5 f6 W) : ruF what N B d = ruF what N B (W 48 + 5) := by
  rw [h.1, Int32.sub_add_cancel]
theorem ru_r {what : Int32} {N B : Nat} {st W : Nat → Int32} (h : SR 0 N B st W) : ruF what N B (st 48 + 5) = ruF what N B (W 48 + 5) := by
  rw [h.g (Or.inl rfl)]
theorem be_c {i what d : Int32} {N B : Nat} {f1 f2 f4 f5 f6 W : Nat → Int32} (h : CR N B d f1 f2 f4 f5 f6 W) : (if (0 ≤ i.toInt ∧ i.toInt < ((B : Nat) : Int)) then beF what (f4 i.toNatClampNeg) (f5 i.toNatClampNeg) (f6 i.toNatClampNeg) else -1) = (if (0 ≤ i.toInt ∧ i.toInt < ((B : Nat) : Int)) then beF what (W (20 + 3 * i.toNatClampNeg)) (W (20 + 3 * i.toNatClampNeg + 1)) (W (20 + 3 * i.toNatClampNeg + 2)) else -1) :=
  cr_get (fun c => by obtain ⟨a, b, e⟩ := h.2.2 _ (ck_lt c); rw [a, b, e])
theorem be_r {i what : Int32} {N B : Nat} {st W : Nat → Int32} (h : SR 0 N B st W) : (if (0 ≤ i.toInt ∧ i.toInt < ((B : Nat) : Int)) ∧ 0 ≤ what.toInt ∧ what.toInt ≤ 2 then st (20 + 3 * i.toNatClampNeg + what.toNatClampNeg) else -1) = (if (0 ≤ i.toInt ∧ i.toInt < ((B : Nat) : Int)) then beF what (W (20 + 3 * i.toNatClampNeg)) (W (20 + 3 * i.toNatClampNeg + 1)) (W (20 + 3 * i.toNatClampNeg + 2)) else -1) := by
  by_cases c : 0 ≤ i.toInt ∧ i.toInt < ((B : Nat) : Int)
  · have hj := ck_lt c
    rw [if_pos c]
    by_cases d : 0 ≤ what.toInt ∧ what.toInt ≤ 2
    · rw [if_pos ⟨c, d⟩]
      rcases (show what.toInt = 0 ∨ what.toInt = 1 ∨ what.toInt = 2 by omega) with e | e | e
      · have e' : what = 0 := Int32.toInt_inj.mp (by rw [e]; rfl)
        subst e'
        exact h.g (Or.inr (Or.inr (by have z : (0 : Int32).toNatClampNeg = 0 := by decide
                                      rw [z]; omega)))
      · have e' : what = 1 := Int32.toInt_inj.mp (by rw [e]; rfl)
        subst e'
        exact h.g (Or.inr (Or.inr (by have z : (1 : Int32).toNatClampNeg = 1 := by decide
                                      rw [z]; omega)))
      · have e' : what = 2 := Int32.toInt_inj.mp (by rw [e]; rfl)
        subst e'
        exact h.g (Or.inr (Or.inr (by have z : (2 : Int32).toNatClampNeg = 2 := by decide
                                      rw [z]; omega)))
    · rw [if_neg (fun z => d z.2)]
      unfold beF
      rw [if_neg (fun z => d (by rw [z]; decide)), if_neg (fun z => d (by rw [z]; decide)), if_neg (fun z => d (by rw [z]; decide))]
  · rw [if_neg c, if_neg (fun z => c z.1)]
theorem sd_c {C : Prop} [Decidable C] {d : Int32} {N B : Nat} {f1 f2 f4 f5 f6 W : Nat → Int32} (h : CR N B d f1 f2 f4 f5 f6 W) : (if C then d else -1) = (if C then W 48 + 5 else -1) := cr_get (fun _ => by rw [h.1, Int32.sub_add_cancel])
theorem sd_r {C : Prop} [Decidable C] {N B : Nat} {st W : Nat → Int32} (h : SR 0 N B st W) : (if C then 5 + st 48 else -1) = (if C then W 48 + 5 else -1) := cr_get (fun _ => by rw [h.g (Or.inl rfl), Int32.add_comm])
theorem n1_c {i v d : Int32} {N B : Nat} {f1 f2 f4 f5 f6 W : Nat → Int32} (h : CR N B d f1 f2 f4 f5 f6 W) : (if ((0 ≤ i.toInt ∧ i.toInt < ((N : Nat) : Int)) ∧ 0 ≤ v.toInt ∧ v.toInt ≤ 9) then f1 i.toNatClampNeg else -1) = (if ((0 ≤ i.toInt ∧ i.toInt < ((N : Nat) : Int)) ∧ 0 ≤ v.toInt ∧ v.toInt ≤ 9) then W (2 * i.toNatClampNeg) else -1) := cr_get (fun c => (h.2.1 _ (ck_lt c.1)).1.symm)
theorem n2_c {i v d : Int32} {N B : Nat} {f1 f2 f4 f5 f6 W : Nat → Int32} (h : CR N B d f1 f2 f4 f5 f6 W) : (if ((0 ≤ i.toInt ∧ i.toInt < ((N : Nat) : Int)) ∧ 0 ≤ v.toInt ∧ v.toInt ≤ 9) then f2 i.toNatClampNeg else -1) = (if ((0 ≤ i.toInt ∧ i.toInt < ((N : Nat) : Int)) ∧ 0 ≤ v.toInt ∧ v.toInt ≤ 9) then W (2 * i.toNatClampNeg + 1) else -1) := cr_get (fun c => (h.2.1 _ (ck_lt c.1)).2.symm)
theorem n5_c {i v d : Int32} {N B : Nat} {f1 f2 f4 f5 f6 W : Nat → Int32} (h : CR N B d f1 f2 f4 f5 f6 W) : (if ((0 ≤ i.toInt ∧ i.toInt < ((B : Nat) : Int)) ∧ 0 ≤ v.toInt ∧ v.toInt ≤ 9) then f5 i.toNatClampNeg else -1) = (if ((0 ≤ i.toInt ∧ i.toInt < ((B : Nat) : Int)) ∧ 0 ≤ v.toInt ∧ v.toInt ≤ 9) then W (20 + 3 * i.toNatClampNeg + 1) else -1) := cr_get (fun c => (h.2.2 _ (ck_lt c.1)).2.1.symm)
theorem n6_c {i v d : Int32} {N B : Nat} {f1 f2 f4 f5 f6 W : Nat → Int32} (h : CR N B d f1 f2 f4 f5 f6 W) : (if ((0 ≤ i.toInt ∧ i.toInt < ((B : Nat) : Int)) ∧ 0 ≤ v.toInt ∧ v.toInt ≤ 9) then f6 i.toNatClampNeg else -1) = (if ((0 ≤ i.toInt ∧ i.toInt < ((B : Nat) : Int)) ∧ 0 ≤ v.toInt ∧ v.toInt ≤ 9) then W (20 + 3 * i.toNatClampNeg + 2) else -1) := cr_get (fun c => (h.2.2 _ (ck_lt c.1)).2.2.symm)
theorem nN_r {i v : Int32} {N B y : Nat} {st W : Nat → Int32} (h : SR 0 N B st W) (hy : i.toNatClampNeg < N → LVx N B y) : (if ((0 ≤ i.toInt ∧ i.toInt < ((N : Nat) : Int)) ∧ 0 ≤ v.toInt ∧ v.toInt ≤ 9) then st y else -1) = (if ((0 ≤ i.toInt ∧ i.toInt < ((N : Nat) : Int)) ∧ 0 ≤ v.toInt ∧ v.toInt ≤ 9) then W y else -1) := cr_get (fun c => h.g (hy (ck_lt c.1)))
theorem nB_r {i v : Int32} {N B y : Nat} {st W : Nat → Int32} (h : SR 0 N B st W) (hy : i.toNatClampNeg < B → LVx N B y) : (if ((0 ≤ i.toInt ∧ i.toInt < ((B : Nat) : Int)) ∧ 0 ≤ v.toInt ∧ v.toInt ≤ 9) then st y else -1) = (if ((0 ≤ i.toInt ∧ i.toInt < ((B : Nat) : Int)) ∧ 0 ≤ v.toInt ∧ v.toInt ≤ 9) then W y else -1) := cr_get (fun c => h.g (hy (ck_lt c.1)))
-- harm
theorem mx0 (x : Int32) : mx 0 x = hPos x := by
  unfold mx hPos
  have z : (0 : Int32).toInt = 0 := by decide
  by_cases c : x ≤ 0
  · have c' := Int32.le_iff_toInt_le.mp c
    rw [if_pos c, if_neg (by omega)]
  · have c' : ¬ x.toInt ≤ (0 : Int32).toInt := fun h => c (Int32.le_iff_toInt_le.mpr h)
    rw [if_neg c, if_pos (by omega)]
theorem mn20 (x : Int32) : mn 20 x = hTop x := by
  unfold mn hTop
  have z : (20 : Int32).toInt = 20 := by decide
  by_cases c : x ≤ 20
  · have c' := Int32.le_iff_toInt_le.mp c
    rw [if_pos c]
    split
    · rfl
    · exact Int32.toInt_inj.mp (by omega)
  · have c' : ¬ x.toInt ≤ (20 : Int32).toInt := fun h => c (Int32.le_iff_toInt_le.mpr h)
    rw [if_neg c, if_neg (by omega)]
theorem ab_e (x : Int32) : ab x = hAbs x := by
  unfold ab hAbs
  have z : (0 : Int32).toInt = 0 := by decide
  by_cases c : 0 ≤ x
  · have c' := Int32.le_iff_toInt_le.mp c
    rw [if_pos c, if_neg (by omega)]
  · have c' : ¬ (0 : Int32).toInt ≤ x.toInt := fun h => c (Int32.le_iff_toInt_le.mpr h)
    rw [if_neg c, if_pos (by omega)]
def haW (N B : Nat) (W : Nat → Int32) (i g k : Int32) : Int32 := if (0 ≤ i.toInt ∧ i.toInt < ((N : Nat) : Int)) ∧ (g.toInt = -4 ∨ (0 ≤ g.toInt ∧ g.toInt < ((B : Nat) : Int))) ∧ (0 ≤ k.toInt ∧ k.toInt < ((B : Nat) : Int)) then (if g = -4 then rhN W i.toNatClampNeg k.toNatClampNeg 0 else rhB W i.toNatClampNeg g.toNatClampNeg k.toNatClampNeg 0) else -1
theorem m4J {x : Int32} (h : x.toInt = -4) : x = -4 := Int32.toInt_inj.mp (by rw [h]; rfl)
theorem ha_r {i g k : Int32} {N B : Nat} {st W : Nat → Int32} (h : SR 0 N B st W) : (if (0 ≤ i.toInt ∧ i.toInt < ((N : Nat) : Int)) ∧ (g.toInt = -4 ∨ (0 ≤ g.toInt ∧ g.toInt < ((B : Nat) : Int))) ∧ (0 ≤ k.toInt ∧ k.toInt < ((B : Nat) : Int)) then (if g = -4 then rhN st i.toNatClampNeg k.toNatClampNeg 0 else rhB st i.toNatClampNeg g.toNatClampNeg k.toNatClampNeg 0) else -1) = haW N B W i g k := by
  unfold haW
  refine cr_get (fun c => ?_)
  have hi := ck_lt c.1
  have hk := ck_lt c.2.2
  have e1 : st (2 * i.toNatClampNeg) = W (2 * i.toNatClampNeg) := h.g (Or.inr (Or.inl (by omega)))
  have e2 : st (2 * i.toNatClampNeg + 1) = W (2 * i.toNatClampNeg + 1) := h.g (Or.inr (Or.inl (by omega)))
  have e3 : st (20 + 3 * k.toNatClampNeg) = W (20 + 3 * k.toNatClampNeg) := h.g (Or.inr (Or.inr (by omega)))
  have e4 : st (20 + 3 * k.toNatClampNeg + 1) = W (20 + 3 * k.toNatClampNeg + 1) := h.g (Or.inr (Or.inr (by omega)))
  have e5 : st (20 + 3 * k.toNatClampNeg + 2) = W (20 + 3 * k.toNatClampNeg + 2) := h.g (Or.inr (Or.inr (by omega)))
  have es : rhS st i.toNatClampNeg k.toNatClampNeg 0 = rhS W i.toNatClampNeg k.toNatClampNeg 0 := by
    unfold rhS hQt
    rw [e1, e2, e3, e5]
  by_cases e : g = -4
  · rw [if_pos e, if_pos e]
    unfold rhN
    rw [es]
  · rw [if_neg e, if_neg e]
    have hg := ck_lt (c.2.1.resolve_left (fun z => e (m4J z)))
    have e6 : st (20 + 3 * g.toNatClampNeg) = W (20 + 3 * g.toNatClampNeg) := h.g (Or.inr (Or.inr (by omega)))
    have e7 : st (20 + 3 * g.toNatClampNeg + 1) = W (20 + 3 * g.toNatClampNeg + 1) := h.g (Or.inr (Or.inr (by omega)))
    unfold rhB
    rw [es, e3, e4, e6, e7]
theorem ha_c {i g k d : Int32} {N B : Nat} {f1 f2 f4 f5 f6 W : Nat → Int32} (h : CR N B d f1 f2 f4 f5 f6 W) (hB : B ≤ 6) : (if (0 ≤ i.toInt ∧ i.toInt < ((N : Nat) : Int)) ∧ (g.toInt = -4 ∨ (0 ≤ g.toInt ∧ g.toInt < ((B : Nat) : Int))) ∧ (0 ≤ k.toInt ∧ k.toInt < ((B : Nat) : Int)) then hmF N B f1 f2 f4 f5 f6 i g k else -1) = haW N B W i g k := by
  unfold haW
  refine cr_get (fun c => ?_)
  have hi := ck_lt c.1
  have hk := ck_lt c.2.2
  obtain ⟨a1, a2⟩ := h.2.1 _ hi
  obtain ⟨b4, b5, b6⟩ := h.2.2 _ hk
  have key : nzF (f1 i.toNatClampNeg) (f4 k.toNatClampNeg) + cdF (f2 i.toNatClampNeg) (f6 k.toNatClampNeg) (f4 k.toNatClampNeg) = rhS W i.toNatClampNeg k.toNatClampNeg 0 := by
    unfold nzF cdF rhS hQt hK' hTr
    rw [if_pos rfl, a1, a2, b4, b6, mx0, mx0, Int32.add_assoc]
  unfold hmF
  rw [if_pos c, key, mn20]
  by_cases e : g = -4
  · rw [if_pos e]
    unfold jlF rhN
    rw [if_pos e, Int32.add_zero]
  · rw [if_neg e]
    have hg0 := c.2.1.resolve_left (fun z => e (m4J z))
    have hg := ck_lt hg0
    obtain ⟨d4, d5, d6⟩ := h.2.2 _ hg
    unfold rhB jlF
    rw [if_neg e, b4, b5, d4, d5]
    by_cases q1 : g = nI k.toNatClampNeg
    · have q1' : g.toNatClampNeg = k.toNatClampNeg := by
        rw [q1, nI_clamp (by omega)]
      rw [if_pos q1, if_pos (Or.inl q1'), Int32.add_zero]
    · have n1 : ¬ g.toNatClampNeg = k.toNatClampNeg := fun z => q1 (by rw [← z]; exact (cl_nI hg0.1).symm)
      rw [if_neg q1]
      by_cases q2 : f4 g.toNatClampNeg = 4 ∧ f4 k.toNatClampNeg = 4
      · rw [if_pos q2, if_pos (Or.inr ⟨q2.2, q2.1⟩), Int32.add_zero]
      · rw [if_neg q2, if_neg (show ¬ (g.toNatClampNeg = k.toNatClampNeg ∨ (f4 k.toNatClampNeg = 4 ∧ f4 g.toNatClampNeg = 4)) from fun z => z.elim n1 (fun y => q2 ⟨y.2, y.1⟩)), ab_e]
        unfold hJo
        by_cases c5 : f4 k.toNatClampNeg = 5
        · rw [if_pos c5]
        · rw [if_neg c5]

set_option maxHeartbeats 1000000 in
set_option maxRecDepth 100000 in
theorem c_X10_ruleE (l : Launch) (dC : Nat → ClassId) (dI : Nat → Nat → Nat) (G : Nat → ClassId) (sz : Nat) (h0 rd wy tr im kp od ch cr le mk tl sh a1 a2 a3 a4 a5 a6 N B D : Nat) (tf rf what : Int32) (hN_N : N ≤ 10) (hB_B : B ≤ 6) (hD_D : 1 ≤ D ∧ D ≤ 9) : Met l yX10_rule (Cond.code yX10_rule cX10_rule 2 (some .int) :: GT) ({ frames := 0, cells := 0, slots := 0, locals := 0 } : Room) (PcR [.ref h0, .int what] dC dI G [(h0, .inr (10, [.ref rd, .ref wy, .ref tr, .ref im, .ref kp, .ref od, .ref ch, .ref cr, .ref le, .ref mk, .ref tl, .ref sh, .int tf, .int rf])), (wy, .inr (9, [.int (nI N), .int (nI B), .int (nI D), .ref a1, .ref a2, .ref a3, .ref a4, .ref a5, .ref a6]))] sz) (va_Qi (fun (r : Int32) (u : Unit) => match u with | _ => (r = ruF what N B (nI D)) ∧ True) (fun _ _ => True) (fun q : Nat => sz ≤ q)) 0 0 (fun q : Nat => sz ≤ q) := by
  refine Met.ofW (cc := cX10_rule) (maxL := 2) (ret := (some .int)) (by decide) rfl ?_
  intro p e s m args below meth c s₁ Bd hml hv
  obtain ⟨rfl, hsz, hP, hK⟩ := hv
  have hx := Bd.exec
  have hb := Bd.bytes
  have hr := Bd.returns
  have hg : ∀ w ∈ GT, w.before ([.ref h0, .int what] : List Value).toArray s = true := fun w h => atoms_spec (ws := Cond.code yX10_rule cX10_rule 2 (some .int) :: GT) Bd.pre w (List.mem_cons_of_mem _ h)
  have hown : s.vm.findClass RX10 = some m.cls := findClass_of_methodNamed Bd.named
  have hlocks := Bd.notSynchronized
  subst hsz
  have hA : ∀ q : Nat, s.heap.size ≤ q → (fun q : Nat => s.heap.size ≤ q) q := fun _ h => h
  have hS : va_S (fun q : Nat => s.heap.size ≤ q) s.heap s.heap [] := va_S.rf
  have hl := lv_entry ([.ref h0, .int what]) (n := 2) (Nat.le_of_ble_eq_true rfl)
  rw [lg_entry_eq]
  generalize (lg_sl ([.ref h0, .int what]) ++ List.replicate (2 - (lg_sl ([.ref h0, .int what])).length) Slot.unset).toArray = ls at hl ⊢
  have hl : lv_has ls 2 [(0, .ref h0), (1, .int what)] := hl
  refine lv_iload_n hx hb dX10_rule_0 rfl (lv_at hl 1 rfl) ?_
  by_cases c1 : what = 0
  · skip
    refine lv_cg c1 ?_
    refine lv_tableIn (tgt := 28) hx hb dX10_rule_1 (by decide) (by decide) rfl (by decide) ?_
    refine lv_aload_n hx hb dX10_rule_28 rfl (lv_at hl 0 rfl) ?_
    refine va_get (D := (dC, dI)) (ci := 10) (v := .ref wy) (C := RX10) (T := TX10) (N := 14) hx hb hg inG10 hown hK.1 hP 0 rfl rfl 1 (by decide) (hg _ wt_303) (fun _ h9 => h9) rfl dX10_rule_29 ?_
    refine va_getN (D := (dC, dI)) (ci := 9) (v := .int (nI N)) (C := RX9) (T := TX9) (N := 9) hx hb hg inG9 hown hK.1 hP 1 rfl rfl 0 (by decide) (hK.nest wn_60) (fun _ h9 => h9) rfl dX10_rule_32 ?_
    have hpost : (nI N : Int32) = ruF what N B (nI D) := by
      have tn2583_ : nIT N := fun _ => nI_toInt (by omega)
      have tn2584_ : nIT B := fun _ => nI_toInt (by omega)
      have tn2585_ : nIT D := fun _ => nI_toInt (by omega)
      unfold ruF
      (try (repeat (first | rw [if_pos (by assumption)] | rw [if_neg (by assumption)] | rw [if_pos (by (have t_c1 := eqI c1; have : (0 : Int32).toInt = 0 := qI_0; have t_n0 : (nI N).toInt = (N : Int) := tn2583_ (); have t_n1 : (nI B).toInt = (B : Int) := tn2584_ (); have t_n2 : (nI D).toInt = (D : Int) := tn2585_ (); have z0 : (0 : Int32).toInt = 0 := qI_0; have z1 : (1 : Int32).toInt = 1 := qI_1; have z2 : (2 : Int32).toInt = 2 := qI_2; have z3 : (3 : Int32).toInt = 3 := qI_3; have z5 : (5 : Int32).toInt = 5 := qI_5; have z9 : (9 : Int32).toInt = 9 := qI_9; have z20 : (20 : Int32).toInt = 20 := qI_20; have z4 : (-4 : Int32).toInt = -4 := (by decide); have z10 : (10 : Int32).toInt = 10 := qI_10; omega))] | rw [if_neg (by (have t_c1 := eqI c1; have : (0 : Int32).toInt = 0 := qI_0; have t_n0 : (nI N).toInt = (N : Int) := tn2583_ (); have t_n1 : (nI B).toInt = (B : Int) := tn2584_ (); have t_n2 : (nI D).toInt = (D : Int) := tn2585_ (); have z0 : (0 : Int32).toInt = 0 := qI_0; have z1 : (1 : Int32).toInt = 1 := qI_1; have z2 : (2 : Int32).toInt = 2 := qI_2; have z3 : (3 : Int32).toInt = 3 := qI_3; have z5 : (5 : Int32).toInt = 5 := qI_5; have z9 : (9 : Int32).toInt = 9 := qI_9; have z20 : (20 : Int32).toInt = 20 := qI_20; have z4 : (-4 : Int32).toInt = -4 := (by decide); have z10 : (10 : Int32).toInt = 10 := qI_10; omega))] | rw [if_pos (by decide)] | rw [if_neg (by decide)])))
      all_goals rfl
    refine W.widen (k := 0) (n := 0) (Nat.le_of_ble_eq_true rfl) (Nat.le_of_ble_eq_true rfl) ?_
    exact W.iret (v := nI N) hx hb hr (fun t ht hW => ⟨⟨nI N, (), rfl, ⟨hpost, trivial⟩, trivial⟩, hS.F ht⟩) hS.2.2 dX10_rule_35
  · skip
    by_cases c2 : what = 1
    · skip
      refine lv_cg c2 ?_
      refine lv_tableIn (tgt := 36) hx hb dX10_rule_1 (by decide) (by decide) rfl (by decide) ?_
      refine lv_aload_n hx hb dX10_rule_36 rfl (lv_at hl 0 rfl) ?_
      refine va_get (D := (dC, dI)) (ci := 10) (v := .ref wy) (C := RX10) (T := TX10) (N := 14) hx hb hg inG10 hown hK.1 hP 0 rfl rfl 1 (by decide) (hg _ wt_303) (fun _ h9 => h9) rfl dX10_rule_37 ?_
      refine va_getN (D := (dC, dI)) (ci := 9) (v := .int (nI B)) (C := RX9) (T := TX9) (N := 9) hx hb hg inG9 hown hK.1 hP 1 rfl rfl 1 (by decide) (hK.nest wn_64) (fun _ h9 => h9) rfl dX10_rule_40 ?_
      have hpost : (nI B : Int32) = ruF what N B (nI D) := by
        have tn2586_ : nIT N := fun _ => nI_toInt (by omega)
        have tn2587_ : nIT B := fun _ => nI_toInt (by omega)
        have tn2588_ : nIT D := fun _ => nI_toInt (by omega)
        unfold ruF
        (try (repeat (first | rw [if_pos (by assumption)] | rw [if_neg (by assumption)] | rw [if_pos (by (have t_c1 := neI c1; have t_c2 := eqI c2; have : (0 : Int32).toInt = 0 := qI_0; have : (1 : Int32).toInt = 1 := qI_1; have t_n0 : (nI N).toInt = (N : Int) := tn2586_ (); have t_n1 : (nI B).toInt = (B : Int) := tn2587_ (); have t_n2 : (nI D).toInt = (D : Int) := tn2588_ (); have z0 : (0 : Int32).toInt = 0 := qI_0; have z1 : (1 : Int32).toInt = 1 := qI_1; have z2 : (2 : Int32).toInt = 2 := qI_2; have z3 : (3 : Int32).toInt = 3 := qI_3; have z5 : (5 : Int32).toInt = 5 := qI_5; have z9 : (9 : Int32).toInt = 9 := qI_9; have z20 : (20 : Int32).toInt = 20 := qI_20; have z4 : (-4 : Int32).toInt = -4 := (by decide); have z10 : (10 : Int32).toInt = 10 := qI_10; omega))] | rw [if_neg (by (have t_c1 := neI c1; have t_c2 := eqI c2; have : (0 : Int32).toInt = 0 := qI_0; have : (1 : Int32).toInt = 1 := qI_1; have t_n0 : (nI N).toInt = (N : Int) := tn2586_ (); have t_n1 : (nI B).toInt = (B : Int) := tn2587_ (); have t_n2 : (nI D).toInt = (D : Int) := tn2588_ (); have z0 : (0 : Int32).toInt = 0 := qI_0; have z1 : (1 : Int32).toInt = 1 := qI_1; have z2 : (2 : Int32).toInt = 2 := qI_2; have z3 : (3 : Int32).toInt = 3 := qI_3; have z5 : (5 : Int32).toInt = 5 := qI_5; have z9 : (9 : Int32).toInt = 9 := qI_9; have z20 : (20 : Int32).toInt = 20 := qI_20; have z4 : (-4 : Int32).toInt = -4 := (by decide); have z10 : (10 : Int32).toInt = 10 := qI_10; omega))] | rw [if_pos (by decide)] | rw [if_neg (by decide)])))
        all_goals rfl
      refine W.widen (k := 0) (n := 0) (Nat.le_of_ble_eq_true rfl) (Nat.le_of_ble_eq_true rfl) ?_
      exact W.iret (v := nI B) hx hb hr (fun t ht hW => ⟨⟨nI B, (), rfl, ⟨hpost, trivial⟩, trivial⟩, hS.F ht⟩) hS.2.2 dX10_rule_43
    · skip
      by_cases c3 : what = 2
      · skip
        refine lv_cg c3 ?_
        refine lv_tableIn (tgt := 44) hx hb dX10_rule_1 (by decide) (by decide) rfl (by decide) ?_
        refine lv_aload_n hx hb dX10_rule_44 rfl (lv_at hl 0 rfl) ?_
        refine va_get (D := (dC, dI)) (ci := 10) (v := .ref wy) (C := RX10) (T := TX10) (N := 14) hx hb hg inG10 hown hK.1 hP 0 rfl rfl 1 (by decide) (hg _ wt_303) (fun _ h9 => h9) rfl dX10_rule_45 ?_
        refine va_getN (D := (dC, dI)) (ci := 9) (v := .int (nI D)) (C := RX9) (T := TX9) (N := 9) hx hb hg inG9 hown hK.1 hP 1 rfl rfl 2 (by decide) (hK.nest wn_71) (fun _ h9 => h9) rfl dX10_rule_48 ?_
        have hpost : (nI D : Int32) = ruF what N B (nI D) := by
          have tn2589_ : nIT N := fun _ => nI_toInt (by omega)
          have tn2590_ : nIT B := fun _ => nI_toInt (by omega)
          have tn2591_ : nIT D := fun _ => nI_toInt (by omega)
          unfold ruF
          (try (repeat (first | rw [if_pos (by assumption)] | rw [if_neg (by assumption)] | rw [if_pos (by (have t_c1 := neI c1; have t_c2 := neI c2; have t_c3 := eqI c3; have : (0 : Int32).toInt = 0 := qI_0; have : (1 : Int32).toInt = 1 := qI_1; have : (2 : Int32).toInt = 2 := qI_2; have t_n0 : (nI N).toInt = (N : Int) := tn2589_ (); have t_n1 : (nI B).toInt = (B : Int) := tn2590_ (); have t_n2 : (nI D).toInt = (D : Int) := tn2591_ (); have z0 : (0 : Int32).toInt = 0 := qI_0; have z1 : (1 : Int32).toInt = 1 := qI_1; have z2 : (2 : Int32).toInt = 2 := qI_2; have z3 : (3 : Int32).toInt = 3 := qI_3; have z5 : (5 : Int32).toInt = 5 := qI_5; have z9 : (9 : Int32).toInt = 9 := qI_9; have z20 : (20 : Int32).toInt = 20 := qI_20; have z4 : (-4 : Int32).toInt = -4 := (by decide); have z10 : (10 : Int32).toInt = 10 := qI_10; omega))] | rw [if_neg (by (have t_c1 := neI c1; have t_c2 := neI c2; have t_c3 := eqI c3; have : (0 : Int32).toInt = 0 := qI_0; have : (1 : Int32).toInt = 1 := qI_1; have : (2 : Int32).toInt = 2 := qI_2; have t_n0 : (nI N).toInt = (N : Int) := tn2589_ (); have t_n1 : (nI B).toInt = (B : Int) := tn2590_ (); have t_n2 : (nI D).toInt = (D : Int) := tn2591_ (); have z0 : (0 : Int32).toInt = 0 := qI_0; have z1 : (1 : Int32).toInt = 1 := qI_1; have z2 : (2 : Int32).toInt = 2 := qI_2; have z3 : (3 : Int32).toInt = 3 := qI_3; have z5 : (5 : Int32).toInt = 5 := qI_5; have z9 : (9 : Int32).toInt = 9 := qI_9; have z20 : (20 : Int32).toInt = 20 := qI_20; have z4 : (-4 : Int32).toInt = -4 := (by decide); have z10 : (10 : Int32).toInt = 10 := qI_10; omega))] | rw [if_pos (by decide)] | rw [if_neg (by decide)])))
          all_goals rfl
        refine W.widen (k := 0) (n := 0) (Nat.le_of_ble_eq_true rfl) (Nat.le_of_ble_eq_true rfl) ?_
        exact W.iret (v := nI D) hx hb hr (fun t ht hW => ⟨⟨nI D, (), rfl, ⟨hpost, trivial⟩, trivial⟩, hS.F ht⟩) hS.2.2 dX10_rule_51
      · skip
        have tn2592_ : nIT N := fun _ => nI_toInt (by first | omega | (have t_c1 := neI c1; have t_c2 := neI c2; have t_c3 := neI c3; have : (0 : Int32).toInt = 0 := qI_0; have : (1 : Int32).toInt = 1 := qI_1; have : (2 : Int32).toInt = 2 := qI_2; omega))
        have tn2593_ : nIT B := fun _ => nI_toInt (by first | omega | (have t_c1 := neI c1; have t_c2 := neI c2; have t_c3 := neI c3; have : (0 : Int32).toInt = 0 := qI_0; have : (1 : Int32).toInt = 1 := qI_1; have : (2 : Int32).toInt = 2 := qI_2; omega))
        have tn2594_ : nIT D := fun _ => nI_toInt (by first | omega | (have t_c1 := neI c1; have t_c2 := neI c2; have t_c3 := neI c3; have : (0 : Int32).toInt = 0 := qI_0; have : (1 : Int32).toInt = 1 := qI_1; have : (2 : Int32).toInt = 2 := qI_2; omega))
        refine lv_tableOut (tgt := 52) hx hb dX10_rule_1 (by have t_c1 := neI c1; have t_c2 := neI c2; have t_c3 := neI c3; have : (0 : Int32).toInt = 0 := qI_0; have : (1 : Int32).toInt = 1 := qI_1; have : (2 : Int32).toInt = 2 := qI_2; have t_n0 : (nI N).toInt = (N : Int) := tn2592_ (); have t_n1 : (nI B).toInt = (B : Int) := tn2593_ (); have t_n2 : (nI D).toInt = (D : Int) := tn2594_ (); omega) (by decide) ?_
        refine lv_iconst (v := (-1)) hx hb dX10_rule_52 (by decide) ?_
        have hpost : ((-1) : Int32) = ruF what N B (nI D) := by
          unfold ruF
          (try (repeat (first | rw [if_pos (by assumption)] | rw [if_neg (by assumption)] | rw [if_pos (by (have t_c1 := neI c1; have t_c2 := neI c2; have t_c3 := neI c3; have : (0 : Int32).toInt = 0 := qI_0; have : (1 : Int32).toInt = 1 := qI_1; have : (2 : Int32).toInt = 2 := qI_2; have t_n0 : (nI N).toInt = (N : Int) := tn2592_ (); have t_n1 : (nI B).toInt = (B : Int) := tn2593_ (); have t_n2 : (nI D).toInt = (D : Int) := tn2594_ (); have z0 : (0 : Int32).toInt = 0 := qI_0; have z1 : (1 : Int32).toInt = 1 := qI_1; have z2 : (2 : Int32).toInt = 2 := qI_2; have z3 : (3 : Int32).toInt = 3 := qI_3; have z5 : (5 : Int32).toInt = 5 := qI_5; have z9 : (9 : Int32).toInt = 9 := qI_9; have z20 : (20 : Int32).toInt = 20 := qI_20; have z4 : (-4 : Int32).toInt = -4 := (by decide); have z10 : (10 : Int32).toInt = 10 := qI_10; omega))] | rw [if_neg (by (have t_c1 := neI c1; have t_c2 := neI c2; have t_c3 := neI c3; have : (0 : Int32).toInt = 0 := qI_0; have : (1 : Int32).toInt = 1 := qI_1; have : (2 : Int32).toInt = 2 := qI_2; have t_n0 : (nI N).toInt = (N : Int) := tn2592_ (); have t_n1 : (nI B).toInt = (B : Int) := tn2593_ (); have t_n2 : (nI D).toInt = (D : Int) := tn2594_ (); have z0 : (0 : Int32).toInt = 0 := qI_0; have z1 : (1 : Int32).toInt = 1 := qI_1; have z2 : (2 : Int32).toInt = 2 := qI_2; have z3 : (3 : Int32).toInt = 3 := qI_3; have z5 : (5 : Int32).toInt = 5 := qI_5; have z9 : (9 : Int32).toInt = 9 := qI_9; have z20 : (20 : Int32).toInt = 20 := qI_20; have z4 : (-4 : Int32).toInt = -4 := (by decide); have z10 : (10 : Int32).toInt = 10 := qI_10; omega))] | rw [if_pos (by decide)] | rw [if_neg (by decide)])))
          all_goals rfl
        refine W.widen (k := 0) (n := 0) (Nat.le_of_ble_eq_true rfl) (Nat.le_of_ble_eq_true rfl) ?_
        exact W.iret (v := (-1)) hx hb hr (fun t ht hW => ⟨⟨(-1), (), rfl, ⟨hpost, trivial⟩, trivial⟩, hS.F ht⟩) hS.2.2 dX10_rule_53

set_option maxHeartbeats 1000000 in
set_option maxRecDepth 100000 in
theorem c_X10_bearerE (l : Launch) (dC : Nat → ClassId) (dI : Nat → Nat → Nat) (G : Nat → ClassId) (sz : Nat) (h0 rd wy tr im kp od ch cr le mk tl sh a1 a2 a3 a4 a5 a6 N B D : Nat) (tf rf i what : Int32) (f4 f5 f6 : Nat → Int32) (hN_N : N ≤ 10) (hB_B : B ≤ 6) (hD_D : 1 ≤ D ∧ D ≤ 9) : Met l yX10_bearer (Cond.code yX10_bearer cX10_bearer 3 (some .int) :: GT) ({ frames := 1, cells := 0, slots := 0, locals := 21 } : Room) (PcR [.ref h0, .int i, .int what] dC dI G [(h0, .inr (10, [.ref rd, .ref wy, .ref tr, .ref im, .ref kp, .ref od, .ref ch, .ref cr, .ref le, .ref mk, .ref tl, .ref sh, .int tf, .int rf])), (wy, .inr (9, [.int (nI N), .int (nI B), .int (nI D), .ref a1, .ref a2, .ref a3, .ref a4, .ref a5, .ref a6])), (a4, .inl (G 0, 6, .inl f4)), (a5, .inl (G 0, 6, .inl f5)), (a6, .inl (G 0, 6, .inl f6))] sz) (va_Qi (fun (r : Int32) (u : Unit) => match u with | _ => (r = if (0 ≤ i.toInt ∧ i.toInt < ((B : Nat) : Int)) then beF what (f4 i.toNatClampNeg) (f5 i.toNatClampNeg) (f6 i.toNatClampNeg) else -1) ∧ True) (fun _ _ => True) (fun q : Nat => sz ≤ q)) 0 0 (fun q : Nat => sz ≤ q) := by
  refine Met.ofW (cc := cX10_bearer) (maxL := 3) (ret := (some .int)) (by decide) rfl ?_
  intro p e s m args below meth c s₁ Bd hml hv
  obtain ⟨rfl, hsz, hP, hK⟩ := hv
  have hx := Bd.exec
  have hb := Bd.bytes
  have hr := Bd.returns
  have hg : ∀ w ∈ GT, w.before ([.ref h0, .int i, .int what] : List Value).toArray s = true := fun w h => atoms_spec (ws := Cond.code yX10_bearer cX10_bearer 3 (some .int) :: GT) Bd.pre w (List.mem_cons_of_mem _ h)
  have hown : s.vm.findClass RX10 = some m.cls := findClass_of_methodNamed Bd.named
  have hlocks := Bd.notSynchronized
  subst hsz
  have hA : ∀ q : Nat, s.heap.size ≤ q → (fun q : Nat => s.heap.size ≤ q) q := fun _ h => h
  have hS : va_S (fun q : Nat => s.heap.size ≤ q) s.heap s.heap [] := va_S.rf
  have hl := lv_entry ([.ref h0, .int i, .int what]) (n := 3) (Nat.le_of_ble_eq_true rfl)
  rw [lg_entry_eq]
  generalize (lg_sl ([.ref h0, .int i, .int what]) ++ List.replicate (3 - (lg_sl ([.ref h0, .int i, .int what])).length) Slot.unset).toArray = ls at hl ⊢
  have hl : lv_has ls 3 [(0, .ref h0), (1, .int i), (2, .int what)] := hl
  refine lv_aload_n hx hb dX10_bearer_0 rfl (lv_at hl 0 rfl) ?_
  refine va_get (D := (dC, dI)) (ci := 10) (v := .ref wy) (C := RX10) (T := TX10) (N := 14) hx hb hg inG10 hown hK.1 hP 0 rfl rfl 1 (by decide) (hg _ wt_303) (fun _ h9 => h9) rfl dX10_bearer_1 ?_
  refine lv_iload_n hx hb dX10_bearer_4 rfl (lv_at hl 1 rfl) ?_
  have hPc := hP.sub (ws' := [(wy, .inr (9, [.int (nI N), .int (nI B), .int (nI D), .ref a1, .ref a2, .ref a3, .ref a4, .ref a5, .ref a6]))]) [1] rfl
  have tn2595_ : nIT N := fun _ => nI_toInt (by omega)
  have tn2596_ : nIT B := fun _ => nI_toInt (by omega)
  have tn2597_ : nIT D := fun _ => nI_toInt (by omega)
  refine va_calli (va_runVN (As := [.int i]) (rest := []) ⟨hx, hb, hml, hown, hg⟩ (c_X9_hasBearer l dC dI G _ wy a1 a2 a3 a4 a5 a6 N B D i hN_N hB_B hD_D) (kwVN hg hK mfX9_hasBearer wn_535 ⟨Nat.le_of_ble_eq_true rfl, Nat.le_of_ble_eq_true rfl⟩) (preVR hK hPc (ci := 9) rfl rfl) rfl rfl hl.1 rfl (lv_room (Nat.le_of_ble_eq_true rfl)) dX10_bearer_5 ⟨Nat.le_of_ble_eq_true rfl, Nat.le_of_ble_eq_true rfl⟩) hS (fun q h1 h2 => absurd h2 (Nat.not_le.mpr h1)) (fun q h => hA q (Nat.le_trans hS.1 h)) (fun r1 ur1 t H1 locs ht hvm w2 hB hz1 hk1 hS => ?_)
  have hP := keepR hP hk1
  obtain ⟨w2, w2x⟩ := w2
  try simp only [l_ii, show (0 : Int32).toInt = 0 from by decide] at w2
  try rw [show (nI (B)).toInt = ((B : Nat) : Int) from tn2596_ ()] at w2
  subst w2
  refine lv_if_ne (tgt := 13) hx hb dX10_bearer_8 (by decide) (fun c3 => ?_) (fun c3 => ?_)
  · skip
    have b4 := if10_p c3
    refine lv_iload_n hx hb dX10_bearer_13 rfl (lv_at hl 2 rfl) ?_
    by_cases c5 : what = 0
    · skip
      refine lv_cg c5 ?_
      refine lv_tableIn (tgt := 40) hx hb dX10_bearer_14 (by decide) (by decide) rfl (by decide) ?_
      refine lv_aload_n hx hb dX10_bearer_40 rfl (lv_at hl 0 rfl) ?_
      refine va_get (D := (dC, dI)) (ci := 10) (v := .ref wy) (C := RX10) (T := TX10) (N := 14) hx hb hg inG10 hown hK.1 hP 0 rfl rfl 1 (by decide) (hg _ wt_303) (fun _ h9 => h9) rfl dX10_bearer_41 ?_
      refine va_getN (D := (dC, dI)) (ci := 9) (v := .ref a4) (C := RX9) (T := TX9) (N := 9) hx hb hg inG9 hown hK.1 hP 1 rfl rfl 6 (by decide) (hK.nest wn_81) (fun _ h9 => h9) rfl dX10_bearer_44 ?_
      refine lv_iload_n hx hb dX10_bearer_47 rfl (lv_at hl 1 rfl) ?_
      refine va_iald hx hb hK.1 hP 2 0 rfl rfl (vp_in_iff.mpr (by have t_b4 := b4; have t_c5 := eqI c5; have : (0 : Int32).toInt = 0 := qI_0; have t_n0 : (nI N).toInt = (N : Int) := tn2595_ (); have t_n1 : (nI B).toInt = (B : Int) := tn2596_ (); have t_n2 : (nI D).toInt = (D : Int) := tn2597_ (); constructor <;> omega)) dX10_bearer_48 ?_
      have hpost : (f4 i.toNatClampNeg : Int32) = if (0 ≤ i.toInt ∧ i.toInt < ((B : Nat) : Int)) then beF what (f4 i.toNatClampNeg) (f5 i.toNatClampNeg) (f6 i.toNatClampNeg) else -1 := by
        first | (rw [if_neg (by (have t_b4 := b4; have t_c5 := eqI c5; have : (0 : Int32).toInt = 0 := qI_0; have t_n0 : (nI N).toInt = (N : Int) := tn2595_ (); have t_n1 : (nI B).toInt = (B : Int) := tn2596_ (); have t_n2 : (nI D).toInt = (D : Int) := tn2597_ (); have z0 : (0 : Int32).toInt = 0 := qI_0; have z1 : (1 : Int32).toInt = 1 := qI_1; have z2 : (2 : Int32).toInt = 2 := qI_2; have z3 : (3 : Int32).toInt = 3 := qI_3; have z5 : (5 : Int32).toInt = 5 := qI_5; have z9 : (9 : Int32).toInt = 9 := qI_9; have z20 : (20 : Int32).toInt = 20 := qI_20; have z4 : (-4 : Int32).toInt = -4 := (by decide); have z10 : (10 : Int32).toInt = 10 := qI_10; omega))]; done) | (rw [if_pos (by (have t_b4 := b4; have t_c5 := eqI c5; have : (0 : Int32).toInt = 0 := qI_0; have t_n0 : (nI N).toInt = (N : Int) := tn2595_ (); have t_n1 : (nI B).toInt = (B : Int) := tn2596_ (); have t_n2 : (nI D).toInt = (D : Int) := tn2597_ (); have z0 : (0 : Int32).toInt = 0 := qI_0; have z1 : (1 : Int32).toInt = 1 := qI_1; have z2 : (2 : Int32).toInt = 2 := qI_2; have z3 : (3 : Int32).toInt = 3 := qI_3; have z5 : (5 : Int32).toInt = 5 := qI_5; have z9 : (9 : Int32).toInt = 9 := qI_9; have z20 : (20 : Int32).toInt = 20 := qI_20; have z4 : (-4 : Int32).toInt = -4 := (by decide); have z10 : (10 : Int32).toInt = 10 := qI_10; omega))]; unfold beF; (try (repeat (first | rw [if_pos (by assumption)] | rw [if_neg (by assumption)] | rw [if_pos (by (have t_b4 := b4; have t_c5 := eqI c5; have : (0 : Int32).toInt = 0 := qI_0; have t_n0 : (nI N).toInt = (N : Int) := tn2595_ (); have t_n1 : (nI B).toInt = (B : Int) := tn2596_ (); have t_n2 : (nI D).toInt = (D : Int) := tn2597_ (); have z0 : (0 : Int32).toInt = 0 := qI_0; have z1 : (1 : Int32).toInt = 1 := qI_1; have z2 : (2 : Int32).toInt = 2 := qI_2; have z3 : (3 : Int32).toInt = 3 := qI_3; have z5 : (5 : Int32).toInt = 5 := qI_5; have z9 : (9 : Int32).toInt = 9 := qI_9; have z20 : (20 : Int32).toInt = 20 := qI_20; have z4 : (-4 : Int32).toInt = -4 := (by decide); have z10 : (10 : Int32).toInt = 10 := qI_10; omega))] | rw [if_neg (by (have t_b4 := b4; have t_c5 := eqI c5; have : (0 : Int32).toInt = 0 := qI_0; have t_n0 : (nI N).toInt = (N : Int) := tn2595_ (); have t_n1 : (nI B).toInt = (B : Int) := tn2596_ (); have t_n2 : (nI D).toInt = (D : Int) := tn2597_ (); have z0 : (0 : Int32).toInt = 0 := qI_0; have z1 : (1 : Int32).toInt = 1 := qI_1; have z2 : (2 : Int32).toInt = 2 := qI_2; have z3 : (3 : Int32).toInt = 3 := qI_3; have z5 : (5 : Int32).toInt = 5 := qI_5; have z9 : (9 : Int32).toInt = 9 := qI_9; have z20 : (20 : Int32).toInt = 20 := qI_20; have z4 : (-4 : Int32).toInt = -4 := (by decide); have z10 : (10 : Int32).toInt = 10 := qI_10; omega))] | rw [if_pos (by decide)] | rw [if_neg (by decide)]))); all_goals rfl)
      refine W.widen (k := 0) (n := 0) (Nat.le_of_ble_eq_true rfl) (Nat.le_of_ble_eq_true rfl) ?_
      exact W.iret (v := f4 i.toNatClampNeg) hx hb hr (fun t ht hW => ⟨⟨f4 i.toNatClampNeg, (), rfl, ⟨hpost, trivial⟩, trivial⟩, hS.F ht⟩) hS.2.2 dX10_bearer_49
    · skip
      by_cases c6 : what = 1
      · skip
        refine lv_cg c6 ?_
        refine lv_tableIn (tgt := 50) hx hb dX10_bearer_14 (by decide) (by decide) rfl (by decide) ?_
        refine lv_aload_n hx hb dX10_bearer_50 rfl (lv_at hl 0 rfl) ?_
        refine va_get (D := (dC, dI)) (ci := 10) (v := .ref wy) (C := RX10) (T := TX10) (N := 14) hx hb hg inG10 hown hK.1 hP 0 rfl rfl 1 (by decide) (hg _ wt_303) (fun _ h9 => h9) rfl dX10_bearer_51 ?_
        refine va_getN (D := (dC, dI)) (ci := 9) (v := .ref a5) (C := RX9) (T := TX9) (N := 9) hx hb hg inG9 hown hK.1 hP 1 rfl rfl 7 (by decide) (hK.nest wn_83) (fun _ h9 => h9) rfl dX10_bearer_54 ?_
        refine lv_iload_n hx hb dX10_bearer_57 rfl (lv_at hl 1 rfl) ?_
        refine va_iald hx hb hK.1 hP 3 0 rfl rfl (vp_in_iff.mpr (by have t_b4 := b4; have t_c5 := neI c5; have t_c6 := eqI c6; have : (0 : Int32).toInt = 0 := qI_0; have : (1 : Int32).toInt = 1 := qI_1; have t_n0 : (nI N).toInt = (N : Int) := tn2595_ (); have t_n1 : (nI B).toInt = (B : Int) := tn2596_ (); have t_n2 : (nI D).toInt = (D : Int) := tn2597_ (); constructor <;> omega)) dX10_bearer_58 ?_
        have hpost : (f5 i.toNatClampNeg : Int32) = if (0 ≤ i.toInt ∧ i.toInt < ((B : Nat) : Int)) then beF what (f4 i.toNatClampNeg) (f5 i.toNatClampNeg) (f6 i.toNatClampNeg) else -1 := by
          first | (rw [if_neg (by (have t_b4 := b4; have t_c5 := neI c5; have t_c6 := eqI c6; have : (0 : Int32).toInt = 0 := qI_0; have : (1 : Int32).toInt = 1 := qI_1; have t_n0 : (nI N).toInt = (N : Int) := tn2595_ (); have t_n1 : (nI B).toInt = (B : Int) := tn2596_ (); have t_n2 : (nI D).toInt = (D : Int) := tn2597_ (); have z0 : (0 : Int32).toInt = 0 := qI_0; have z1 : (1 : Int32).toInt = 1 := qI_1; have z2 : (2 : Int32).toInt = 2 := qI_2; have z3 : (3 : Int32).toInt = 3 := qI_3; have z5 : (5 : Int32).toInt = 5 := qI_5; have z9 : (9 : Int32).toInt = 9 := qI_9; have z20 : (20 : Int32).toInt = 20 := qI_20; have z4 : (-4 : Int32).toInt = -4 := (by decide); have z10 : (10 : Int32).toInt = 10 := qI_10; omega))]; done) | (rw [if_pos (by (have t_b4 := b4; have t_c5 := neI c5; have t_c6 := eqI c6; have : (0 : Int32).toInt = 0 := qI_0; have : (1 : Int32).toInt = 1 := qI_1; have t_n0 : (nI N).toInt = (N : Int) := tn2595_ (); have t_n1 : (nI B).toInt = (B : Int) := tn2596_ (); have t_n2 : (nI D).toInt = (D : Int) := tn2597_ (); have z0 : (0 : Int32).toInt = 0 := qI_0; have z1 : (1 : Int32).toInt = 1 := qI_1; have z2 : (2 : Int32).toInt = 2 := qI_2; have z3 : (3 : Int32).toInt = 3 := qI_3; have z5 : (5 : Int32).toInt = 5 := qI_5; have z9 : (9 : Int32).toInt = 9 := qI_9; have z20 : (20 : Int32).toInt = 20 := qI_20; have z4 : (-4 : Int32).toInt = -4 := (by decide); have z10 : (10 : Int32).toInt = 10 := qI_10; omega))]; unfold beF; (try (repeat (first | rw [if_pos (by assumption)] | rw [if_neg (by assumption)] | rw [if_pos (by (have t_b4 := b4; have t_c5 := neI c5; have t_c6 := eqI c6; have : (0 : Int32).toInt = 0 := qI_0; have : (1 : Int32).toInt = 1 := qI_1; have t_n0 : (nI N).toInt = (N : Int) := tn2595_ (); have t_n1 : (nI B).toInt = (B : Int) := tn2596_ (); have t_n2 : (nI D).toInt = (D : Int) := tn2597_ (); have z0 : (0 : Int32).toInt = 0 := qI_0; have z1 : (1 : Int32).toInt = 1 := qI_1; have z2 : (2 : Int32).toInt = 2 := qI_2; have z3 : (3 : Int32).toInt = 3 := qI_3; have z5 : (5 : Int32).toInt = 5 := qI_5; have z9 : (9 : Int32).toInt = 9 := qI_9; have z20 : (20 : Int32).toInt = 20 := qI_20; have z4 : (-4 : Int32).toInt = -4 := (by decide); have z10 : (10 : Int32).toInt = 10 := qI_10; omega))] | rw [if_neg (by (have t_b4 := b4; have t_c5 := neI c5; have t_c6 := eqI c6; have : (0 : Int32).toInt = 0 := qI_0; have : (1 : Int32).toInt = 1 := qI_1; have t_n0 : (nI N).toInt = (N : Int) := tn2595_ (); have t_n1 : (nI B).toInt = (B : Int) := tn2596_ (); have t_n2 : (nI D).toInt = (D : Int) := tn2597_ (); have z0 : (0 : Int32).toInt = 0 := qI_0; have z1 : (1 : Int32).toInt = 1 := qI_1; have z2 : (2 : Int32).toInt = 2 := qI_2; have z3 : (3 : Int32).toInt = 3 := qI_3; have z5 : (5 : Int32).toInt = 5 := qI_5; have z9 : (9 : Int32).toInt = 9 := qI_9; have z20 : (20 : Int32).toInt = 20 := qI_20; have z4 : (-4 : Int32).toInt = -4 := (by decide); have z10 : (10 : Int32).toInt = 10 := qI_10; omega))] | rw [if_pos (by decide)] | rw [if_neg (by decide)]))); all_goals rfl)
        refine W.widen (k := 0) (n := 0) (Nat.le_of_ble_eq_true rfl) (Nat.le_of_ble_eq_true rfl) ?_
        exact W.iret (v := f5 i.toNatClampNeg) hx hb hr (fun t ht hW => ⟨⟨f5 i.toNatClampNeg, (), rfl, ⟨hpost, trivial⟩, trivial⟩, hS.F ht⟩) hS.2.2 dX10_bearer_59
      · skip
        by_cases c7 : what = 2
        · skip
          refine lv_cg c7 ?_
          refine lv_tableIn (tgt := 60) hx hb dX10_bearer_14 (by decide) (by decide) rfl (by decide) ?_
          refine lv_aload_n hx hb dX10_bearer_60 rfl (lv_at hl 0 rfl) ?_
          refine va_get (D := (dC, dI)) (ci := 10) (v := .ref wy) (C := RX10) (T := TX10) (N := 14) hx hb hg inG10 hown hK.1 hP 0 rfl rfl 1 (by decide) (hg _ wt_303) (fun _ h9 => h9) rfl dX10_bearer_61 ?_
          refine va_getN (D := (dC, dI)) (ci := 9) (v := .ref a6) (C := RX9) (T := TX9) (N := 9) hx hb hg inG9 hown hK.1 hP 1 rfl rfl 8 (by decide) (hK.nest wn_85) (fun _ h9 => h9) rfl dX10_bearer_64 ?_
          refine lv_iload_n hx hb dX10_bearer_67 rfl (lv_at hl 1 rfl) ?_
          refine va_iald hx hb hK.1 hP 4 0 rfl rfl (vp_in_iff.mpr (by have t_b4 := b4; have t_c5 := neI c5; have t_c6 := neI c6; have t_c7 := eqI c7; have : (0 : Int32).toInt = 0 := qI_0; have : (1 : Int32).toInt = 1 := qI_1; have : (2 : Int32).toInt = 2 := qI_2; have t_n0 : (nI N).toInt = (N : Int) := tn2595_ (); have t_n1 : (nI B).toInt = (B : Int) := tn2596_ (); have t_n2 : (nI D).toInt = (D : Int) := tn2597_ (); constructor <;> omega)) dX10_bearer_68 ?_
          have hpost : (f6 i.toNatClampNeg : Int32) = if (0 ≤ i.toInt ∧ i.toInt < ((B : Nat) : Int)) then beF what (f4 i.toNatClampNeg) (f5 i.toNatClampNeg) (f6 i.toNatClampNeg) else -1 := by
            first | (rw [if_neg (by (have t_b4 := b4; have t_c5 := neI c5; have t_c6 := neI c6; have t_c7 := eqI c7; have : (0 : Int32).toInt = 0 := qI_0; have : (1 : Int32).toInt = 1 := qI_1; have : (2 : Int32).toInt = 2 := qI_2; have t_n0 : (nI N).toInt = (N : Int) := tn2595_ (); have t_n1 : (nI B).toInt = (B : Int) := tn2596_ (); have t_n2 : (nI D).toInt = (D : Int) := tn2597_ (); have z0 : (0 : Int32).toInt = 0 := qI_0; have z1 : (1 : Int32).toInt = 1 := qI_1; have z2 : (2 : Int32).toInt = 2 := qI_2; have z3 : (3 : Int32).toInt = 3 := qI_3; have z5 : (5 : Int32).toInt = 5 := qI_5; have z9 : (9 : Int32).toInt = 9 := qI_9; have z20 : (20 : Int32).toInt = 20 := qI_20; have z4 : (-4 : Int32).toInt = -4 := (by decide); have z10 : (10 : Int32).toInt = 10 := qI_10; omega))]; done) | (rw [if_pos (by (have t_b4 := b4; have t_c5 := neI c5; have t_c6 := neI c6; have t_c7 := eqI c7; have : (0 : Int32).toInt = 0 := qI_0; have : (1 : Int32).toInt = 1 := qI_1; have : (2 : Int32).toInt = 2 := qI_2; have t_n0 : (nI N).toInt = (N : Int) := tn2595_ (); have t_n1 : (nI B).toInt = (B : Int) := tn2596_ (); have t_n2 : (nI D).toInt = (D : Int) := tn2597_ (); have z0 : (0 : Int32).toInt = 0 := qI_0; have z1 : (1 : Int32).toInt = 1 := qI_1; have z2 : (2 : Int32).toInt = 2 := qI_2; have z3 : (3 : Int32).toInt = 3 := qI_3; have z5 : (5 : Int32).toInt = 5 := qI_5; have z9 : (9 : Int32).toInt = 9 := qI_9; have z20 : (20 : Int32).toInt = 20 := qI_20; have z4 : (-4 : Int32).toInt = -4 := (by decide); have z10 : (10 : Int32).toInt = 10 := qI_10; omega))]; unfold beF; (try (repeat (first | rw [if_pos (by assumption)] | rw [if_neg (by assumption)] | rw [if_pos (by (have t_b4 := b4; have t_c5 := neI c5; have t_c6 := neI c6; have t_c7 := eqI c7; have : (0 : Int32).toInt = 0 := qI_0; have : (1 : Int32).toInt = 1 := qI_1; have : (2 : Int32).toInt = 2 := qI_2; have t_n0 : (nI N).toInt = (N : Int) := tn2595_ (); have t_n1 : (nI B).toInt = (B : Int) := tn2596_ (); have t_n2 : (nI D).toInt = (D : Int) := tn2597_ (); have z0 : (0 : Int32).toInt = 0 := qI_0; have z1 : (1 : Int32).toInt = 1 := qI_1; have z2 : (2 : Int32).toInt = 2 := qI_2; have z3 : (3 : Int32).toInt = 3 := qI_3; have z5 : (5 : Int32).toInt = 5 := qI_5; have z9 : (9 : Int32).toInt = 9 := qI_9; have z20 : (20 : Int32).toInt = 20 := qI_20; have z4 : (-4 : Int32).toInt = -4 := (by decide); have z10 : (10 : Int32).toInt = 10 := qI_10; omega))] | rw [if_neg (by (have t_b4 := b4; have t_c5 := neI c5; have t_c6 := neI c6; have t_c7 := eqI c7; have : (0 : Int32).toInt = 0 := qI_0; have : (1 : Int32).toInt = 1 := qI_1; have : (2 : Int32).toInt = 2 := qI_2; have t_n0 : (nI N).toInt = (N : Int) := tn2595_ (); have t_n1 : (nI B).toInt = (B : Int) := tn2596_ (); have t_n2 : (nI D).toInt = (D : Int) := tn2597_ (); have z0 : (0 : Int32).toInt = 0 := qI_0; have z1 : (1 : Int32).toInt = 1 := qI_1; have z2 : (2 : Int32).toInt = 2 := qI_2; have z3 : (3 : Int32).toInt = 3 := qI_3; have z5 : (5 : Int32).toInt = 5 := qI_5; have z9 : (9 : Int32).toInt = 9 := qI_9; have z20 : (20 : Int32).toInt = 20 := qI_20; have z4 : (-4 : Int32).toInt = -4 := (by decide); have z10 : (10 : Int32).toInt = 10 := qI_10; omega))] | rw [if_pos (by decide)] | rw [if_neg (by decide)]))); all_goals rfl)
          refine W.widen (k := 0) (n := 0) (Nat.le_of_ble_eq_true rfl) (Nat.le_of_ble_eq_true rfl) ?_
          exact W.iret (v := f6 i.toNatClampNeg) hx hb hr (fun t ht hW => ⟨⟨f6 i.toNatClampNeg, (), rfl, ⟨hpost, trivial⟩, trivial⟩, hS.F ht⟩) hS.2.2 dX10_bearer_69
        · skip
          refine lv_tableOut (tgt := 70) hx hb dX10_bearer_14 (by have t_b4 := b4; have t_c5 := neI c5; have t_c6 := neI c6; have t_c7 := neI c7; have : (0 : Int32).toInt = 0 := qI_0; have : (1 : Int32).toInt = 1 := qI_1; have : (2 : Int32).toInt = 2 := qI_2; have t_n0 : (nI N).toInt = (N : Int) := tn2595_ (); have t_n1 : (nI B).toInt = (B : Int) := tn2596_ (); have t_n2 : (nI D).toInt = (D : Int) := tn2597_ (); omega) (by decide) ?_
          refine lv_iconst (v := (-1)) hx hb dX10_bearer_70 (by decide) ?_
          have hpost : ((-1) : Int32) = if (0 ≤ i.toInt ∧ i.toInt < ((B : Nat) : Int)) then beF what (f4 i.toNatClampNeg) (f5 i.toNatClampNeg) (f6 i.toNatClampNeg) else -1 := by
            first | (rw [if_neg (by (have t_b4 := b4; have t_c5 := neI c5; have t_c6 := neI c6; have t_c7 := neI c7; have : (0 : Int32).toInt = 0 := qI_0; have : (1 : Int32).toInt = 1 := qI_1; have : (2 : Int32).toInt = 2 := qI_2; have t_n0 : (nI N).toInt = (N : Int) := tn2595_ (); have t_n1 : (nI B).toInt = (B : Int) := tn2596_ (); have t_n2 : (nI D).toInt = (D : Int) := tn2597_ (); have z0 : (0 : Int32).toInt = 0 := qI_0; have z1 : (1 : Int32).toInt = 1 := qI_1; have z2 : (2 : Int32).toInt = 2 := qI_2; have z3 : (3 : Int32).toInt = 3 := qI_3; have z5 : (5 : Int32).toInt = 5 := qI_5; have z9 : (9 : Int32).toInt = 9 := qI_9; have z20 : (20 : Int32).toInt = 20 := qI_20; have z4 : (-4 : Int32).toInt = -4 := (by decide); have z10 : (10 : Int32).toInt = 10 := qI_10; omega))]; done) | (rw [if_pos (by (have t_b4 := b4; have t_c5 := neI c5; have t_c6 := neI c6; have t_c7 := neI c7; have : (0 : Int32).toInt = 0 := qI_0; have : (1 : Int32).toInt = 1 := qI_1; have : (2 : Int32).toInt = 2 := qI_2; have t_n0 : (nI N).toInt = (N : Int) := tn2595_ (); have t_n1 : (nI B).toInt = (B : Int) := tn2596_ (); have t_n2 : (nI D).toInt = (D : Int) := tn2597_ (); have z0 : (0 : Int32).toInt = 0 := qI_0; have z1 : (1 : Int32).toInt = 1 := qI_1; have z2 : (2 : Int32).toInt = 2 := qI_2; have z3 : (3 : Int32).toInt = 3 := qI_3; have z5 : (5 : Int32).toInt = 5 := qI_5; have z9 : (9 : Int32).toInt = 9 := qI_9; have z20 : (20 : Int32).toInt = 20 := qI_20; have z4 : (-4 : Int32).toInt = -4 := (by decide); have z10 : (10 : Int32).toInt = 10 := qI_10; omega))]; unfold beF; (try (repeat (first | rw [if_pos (by assumption)] | rw [if_neg (by assumption)] | rw [if_pos (by (have t_b4 := b4; have t_c5 := neI c5; have t_c6 := neI c6; have t_c7 := neI c7; have : (0 : Int32).toInt = 0 := qI_0; have : (1 : Int32).toInt = 1 := qI_1; have : (2 : Int32).toInt = 2 := qI_2; have t_n0 : (nI N).toInt = (N : Int) := tn2595_ (); have t_n1 : (nI B).toInt = (B : Int) := tn2596_ (); have t_n2 : (nI D).toInt = (D : Int) := tn2597_ (); have z0 : (0 : Int32).toInt = 0 := qI_0; have z1 : (1 : Int32).toInt = 1 := qI_1; have z2 : (2 : Int32).toInt = 2 := qI_2; have z3 : (3 : Int32).toInt = 3 := qI_3; have z5 : (5 : Int32).toInt = 5 := qI_5; have z9 : (9 : Int32).toInt = 9 := qI_9; have z20 : (20 : Int32).toInt = 20 := qI_20; have z4 : (-4 : Int32).toInt = -4 := (by decide); have z10 : (10 : Int32).toInt = 10 := qI_10; omega))] | rw [if_neg (by (have t_b4 := b4; have t_c5 := neI c5; have t_c6 := neI c6; have t_c7 := neI c7; have : (0 : Int32).toInt = 0 := qI_0; have : (1 : Int32).toInt = 1 := qI_1; have : (2 : Int32).toInt = 2 := qI_2; have t_n0 : (nI N).toInt = (N : Int) := tn2595_ (); have t_n1 : (nI B).toInt = (B : Int) := tn2596_ (); have t_n2 : (nI D).toInt = (D : Int) := tn2597_ (); have z0 : (0 : Int32).toInt = 0 := qI_0; have z1 : (1 : Int32).toInt = 1 := qI_1; have z2 : (2 : Int32).toInt = 2 := qI_2; have z3 : (3 : Int32).toInt = 3 := qI_3; have z5 : (5 : Int32).toInt = 5 := qI_5; have z9 : (9 : Int32).toInt = 9 := qI_9; have z20 : (20 : Int32).toInt = 20 := qI_20; have z4 : (-4 : Int32).toInt = -4 := (by decide); have z10 : (10 : Int32).toInt = 10 := qI_10; omega))] | rw [if_pos (by decide)] | rw [if_neg (by decide)]))); all_goals rfl)
          refine W.widen (k := 0) (n := 0) (Nat.le_of_ble_eq_true rfl) (Nat.le_of_ble_eq_true rfl) ?_
          exact W.iret (v := (-1)) hx hb hr (fun t ht hW => ⟨⟨(-1), (), rfl, ⟨hpost, trivial⟩, trivial⟩, hS.F ht⟩) hS.2.2 dX10_bearer_71
  · skip
    have b8 := if10_n c3
    refine lv_iconst (v := (-1)) hx hb dX10_bearer_11 (by decide) ?_
    have hpost : ((-1) : Int32) = if (0 ≤ i.toInt ∧ i.toInt < ((B : Nat) : Int)) then beF what (f4 i.toNatClampNeg) (f5 i.toNatClampNeg) (f6 i.toNatClampNeg) else -1 := by
      first | (rw [if_neg (by (have t_b8 := b8; have t_n0 : (nI N).toInt = (N : Int) := tn2595_ (); have t_n1 : (nI B).toInt = (B : Int) := tn2596_ (); have t_n2 : (nI D).toInt = (D : Int) := tn2597_ (); have z0 : (0 : Int32).toInt = 0 := qI_0; have z1 : (1 : Int32).toInt = 1 := qI_1; have z2 : (2 : Int32).toInt = 2 := qI_2; have z3 : (3 : Int32).toInt = 3 := qI_3; have z5 : (5 : Int32).toInt = 5 := qI_5; have z9 : (9 : Int32).toInt = 9 := qI_9; have z20 : (20 : Int32).toInt = 20 := qI_20; have z4 : (-4 : Int32).toInt = -4 := (by decide); have z10 : (10 : Int32).toInt = 10 := qI_10; omega))]; done) | (rw [if_pos (by (have t_b8 := b8; have t_n0 : (nI N).toInt = (N : Int) := tn2595_ (); have t_n1 : (nI B).toInt = (B : Int) := tn2596_ (); have t_n2 : (nI D).toInt = (D : Int) := tn2597_ (); have z0 : (0 : Int32).toInt = 0 := qI_0; have z1 : (1 : Int32).toInt = 1 := qI_1; have z2 : (2 : Int32).toInt = 2 := qI_2; have z3 : (3 : Int32).toInt = 3 := qI_3; have z5 : (5 : Int32).toInt = 5 := qI_5; have z9 : (9 : Int32).toInt = 9 := qI_9; have z20 : (20 : Int32).toInt = 20 := qI_20; have z4 : (-4 : Int32).toInt = -4 := (by decide); have z10 : (10 : Int32).toInt = 10 := qI_10; omega))]; unfold beF; (try (repeat (first | rw [if_pos (by assumption)] | rw [if_neg (by assumption)] | rw [if_pos (by (have t_b8 := b8; have t_n0 : (nI N).toInt = (N : Int) := tn2595_ (); have t_n1 : (nI B).toInt = (B : Int) := tn2596_ (); have t_n2 : (nI D).toInt = (D : Int) := tn2597_ (); have z0 : (0 : Int32).toInt = 0 := qI_0; have z1 : (1 : Int32).toInt = 1 := qI_1; have z2 : (2 : Int32).toInt = 2 := qI_2; have z3 : (3 : Int32).toInt = 3 := qI_3; have z5 : (5 : Int32).toInt = 5 := qI_5; have z9 : (9 : Int32).toInt = 9 := qI_9; have z20 : (20 : Int32).toInt = 20 := qI_20; have z4 : (-4 : Int32).toInt = -4 := (by decide); have z10 : (10 : Int32).toInt = 10 := qI_10; omega))] | rw [if_neg (by (have t_b8 := b8; have t_n0 : (nI N).toInt = (N : Int) := tn2595_ (); have t_n1 : (nI B).toInt = (B : Int) := tn2596_ (); have t_n2 : (nI D).toInt = (D : Int) := tn2597_ (); have z0 : (0 : Int32).toInt = 0 := qI_0; have z1 : (1 : Int32).toInt = 1 := qI_1; have z2 : (2 : Int32).toInt = 2 := qI_2; have z3 : (3 : Int32).toInt = 3 := qI_3; have z5 : (5 : Int32).toInt = 5 := qI_5; have z9 : (9 : Int32).toInt = 9 := qI_9; have z20 : (20 : Int32).toInt = 20 := qI_20; have z4 : (-4 : Int32).toInt = -4 := (by decide); have z10 : (10 : Int32).toInt = 10 := qI_10; omega))] | rw [if_pos (by decide)] | rw [if_neg (by decide)]))); all_goals rfl)
    refine W.widen (k := 0) (n := 0) (Nat.le_of_ble_eq_true rfl) (Nat.le_of_ble_eq_true rfl) ?_
    exact W.iret (v := (-1)) hx hb hr (fun t ht hW => ⟨⟨(-1), (), rfl, ⟨hpost, trivial⟩, trivial⟩, hS.F ht⟩) hS.2.2 dX10_bearer_12

set_option maxHeartbeats 1000000 in
set_option maxRecDepth 100000 in
theorem c_X10_startE (l : Launch) (dC : Nat → ClassId) (dI : Nat → Nat → Nat) (G : Nat → ClassId) (sz : Nat) (h0 rd wy tr im kp od ch cr le mk tl sh a1 a2 a3 a4 a5 a6 N B D : Nat) (tf rf v : Int32) (hN_N : N ≤ 10) (hB_B : B ≤ 6) (hD_D : 1 ≤ D ∧ D ≤ 9) : Met l yX10_start (Cond.code yX10_start cX10_start 3 (some .int) :: GT) ({ frames := 0, cells := 0, slots := 0, locals := 0 } : Room) (PcW [.ref h0, .int v] dC dI G [(h0, .inr (10, [.ref rd, .ref wy, .ref tr, .ref im, .ref kp, .ref od, .ref ch, .ref cr, .ref le, .ref mk, .ref tl, .ref sh, .int tf, .int rf])), (wy, .inr (9, [.int (nI N), .int (nI B), .int (nI D), .ref a1, .ref a2, .ref a3, .ref a4, .ref a5, .ref a6]))] sz) (va_Qi (fun (r : Int32) (u : Nat) => match u with | u0 => (r = if (1 ≤ v.toInt ∧ v.toInt ≤ 9) then nI D else -1) ∧ (1 ≤ u0 ∧ u0 ≤ 9) ∧ u0 = (if (1 ≤ v.toInt ∧ v.toInt ≤ 9) then v.toNatClampNeg else D)) (fun (u : Nat) (t : State) => match u with | u0 => va_P (dC, dI) vwCl [(h0, .inr (10, [.ref rd, .ref wy, .ref tr, .ref im, .ref kp, .ref od, .ref ch, .ref cr, .ref le, .ref mk, .ref tl, .ref sh, .int tf, .int rf])), (wy, .inr (9, [.int (nI N), .int (nI B), .int (nI u0), .ref a1, .ref a2, .ref a3, .ref a4, .ref a5, .ref a6]))] t.heap ∧ va_D (va_A [(h0, .inr (10, [.ref rd, .ref wy, .ref tr, .ref im, .ref kp, .ref od, .ref ch, .ref cr, .ref le, .ref mk, .ref tl, .ref sh, .int tf, .int rf])), (wy, .inr (9, [.int (nI N), .int (nI B), .int (nI D), .ref a1, .ref a2, .ref a3, .ref a4, .ref a5, .ref a6]))] sz) [(h0, .inr (10, [.ref rd, .ref wy, .ref tr, .ref im, .ref kp, .ref od, .ref ch, .ref cr, .ref le, .ref mk, .ref tl, .ref sh, .int tf, .int rf])), (wy, .inr (9, [.int (nI N), .int (nI B), .int (nI u0), .ref a1, .ref a2, .ref a3, .ref a4, .ref a5, .ref a6]))]) (va_A [(h0, .inr (10, [.ref rd, .ref wy, .ref tr, .ref im, .ref kp, .ref od, .ref ch, .ref cr, .ref le, .ref mk, .ref tl, .ref sh, .int tf, .int rf])), (wy, .inr (9, [.int (nI N), .int (nI B), .int (nI D), .ref a1, .ref a2, .ref a3, .ref a4, .ref a5, .ref a6]))] sz)) 0 0 (va_A [(h0, .inr (10, [.ref rd, .ref wy, .ref tr, .ref im, .ref kp, .ref od, .ref ch, .ref cr, .ref le, .ref mk, .ref tl, .ref sh, .int tf, .int rf])), (wy, .inr (9, [.int (nI N), .int (nI B), .int (nI D), .ref a1, .ref a2, .ref a3, .ref a4, .ref a5, .ref a6]))] sz) := by
  refine Met.ofW (cc := cX10_start) (maxL := 3) (ret := (some .int)) (by decide) rfl ?_
  intro p e s m args below meth c s₁ Bd hml hv
  obtain ⟨rfl, hsz, hP, hK, hD0⟩ := hv
  have hx := Bd.exec
  have hb := Bd.bytes
  have hr := Bd.returns
  have hg : ∀ w ∈ GT, w.before ([.ref h0, .int v] : List Value).toArray s = true := fun w h => atoms_spec (ws := Cond.code yX10_start cX10_start 3 (some .int) :: GT) Bd.pre w (List.mem_cons_of_mem _ h)
  have hown : s.vm.findClass RX10 = some m.cls := findClass_of_methodNamed Bd.named
  have hlocks := Bd.notSynchronized
  subst hsz
  have hD := hD0.self (sz := s.heap.size)
  generalize hAe : va_A [(h0, .inr (10, [.ref rd, .ref wy, .ref tr, .ref im, .ref kp, .ref od, .ref ch, .ref cr, .ref le, .ref mk, .ref tl, .ref sh, .int tf, .int rf])), (wy, .inr (9, [.int (nI N), .int (nI B), .int (nI D), .ref a1, .ref a2, .ref a3, .ref a4, .ref a5, .ref a6]))] s.heap.size = A at hD ⊢
  have hA : ∀ q : Nat, s.heap.size ≤ q → A q := fun q h => by rw [← hAe]; exact Or.inr h
  have hS : va_S A s.heap s.heap [] := va_S.rf
  have hl := lv_entry ([.ref h0, .int v]) (n := 3) (Nat.le_of_ble_eq_true rfl)
  rw [lg_entry_eq]
  generalize (lg_sl ([.ref h0, .int v]) ++ List.replicate (3 - (lg_sl ([.ref h0, .int v])).length) Slot.unset).toArray = ls at hl ⊢
  have hl : lv_has ls 3 [(0, .ref h0), (1, .int v)] := hl
  refine lv_iload_n hx hb dX10_start_0 rfl (lv_at hl 1 rfl) ?_
  refine lv_iconst (v := 1) hx hb dX10_start_1 (by decide) ?_
  refine lv_icmp_lt (tgt := 11) hx hb dX10_start_2 (by decide) (fun c1 => ?_) (fun c1 => ?_)
  · skip
    refine lv_iconst (v := (-1)) hx hb dX10_start_11 (by decide) ?_
    have hpost : ((-1) : Int32) = if (1 ≤ v.toInt ∧ v.toInt ≤ 9) then nI D else -1 := by
      have t_c1 := ltI c1
      have : (1 : Int32).toInt = 1 := qI_1
      have tn2598_ : nIT N := fun _ => nI_toInt (by omega)
      have t_n0 : (nI N).toInt = (N : Int) := tn2598_ ()
      have tn2599_ : nIT B := fun _ => nI_toInt (by omega)
      have t_n1 : (nI B).toInt = (B : Int) := tn2599_ ()
      have tn2600_ : nIT D := fun _ => nI_toInt (by omega)
      have t_n2 : (nI D).toInt = (D : Int) := tn2600_ ()
      have z0 : (0 : Int32).toInt = 0 := qI_0
      have z1 : (1 : Int32).toInt = 1 := qI_1
      have z2 : (2 : Int32).toInt = 2 := qI_2
      have z3 : (3 : Int32).toInt = 3 := qI_3
      have z5 : (5 : Int32).toInt = 5 := qI_5
      have z9 : (9 : Int32).toInt = 9 := qI_9
      have z20 : (20 : Int32).toInt = 20 := qI_20
      have z4 : (-4 : Int32).toInt = -4 := (by decide)
      have z10 : (10 : Int32).toInt = 10 := qI_10
      first | (rw [if_neg (by omega)]; done) | (rw [if_pos (by omega)]; done)
    have hP9 := hP.sub (ws' := [(h0, .inr (10, [.ref rd, .ref wy, .ref tr, .ref im, .ref kp, .ref od, .ref ch, .ref cr, .ref le, .ref mk, .ref tl, .ref sh, .int tf, .int rf])), (wy, .inr (9, [.int (nI N), .int (nI B), .int (nI D), .ref a1, .ref a2, .ref a3, .ref a4, .ref a5, .ref a6]))]) [0, 1] rfl
    have hD9 := hD.sub (ws' := [(h0, .inr (10, [.ref rd, .ref wy, .ref tr, .ref im, .ref kp, .ref od, .ref ch, .ref cr, .ref le, .ref mk, .ref tl, .ref sh, .int tf, .int rf])), (wy, .inr (9, [.int (nI N), .int (nI B), .int (nI D), .ref a1, .ref a2, .ref a3, .ref a4, .ref a5, .ref a6]))]) [0, 1] (by decide) rfl
    refine W.widen (k := 0) (n := 0) (Nat.le_of_ble_eq_true rfl) (Nat.le_of_ble_eq_true rfl) ?_
    have tn2601_ : nIT N := fun _ => nI_toInt (by first | omega | (have t_c1 := ltI c1; have : (1 : Int32).toInt = 1 := qI_1; omega))
    have tn2602_ : nIT B := fun _ => nI_toInt (by first | omega | (have t_c1 := ltI c1; have : (1 : Int32).toInt = 1 := qI_1; omega))
    have tn2603_ : nIT D := fun _ => nI_toInt (by first | omega | (have t_c1 := ltI c1; have : (1 : Int32).toInt = 1 := qI_1; omega))
    exact W.iret (v := (-1)) hx hb hr (fun t ht hW => ⟨⟨(-1), D, rfl, ⟨hpost, (by have t_c1 := ltI c1; have : (1 : Int32).toInt = 1 := qI_1; have t_n0 : (nI N).toInt = (N : Int) := tn2601_ (); have t_n1 : (nI B).toInt = (B : Int) := tn2602_ (); have t_n2 : (nI D).toInt = (D : Int) := tn2603_ (); have z0 : (0 : Int32).toInt = 0 := qI_0; have z1 : (1 : Int32).toInt = 1 := qI_1; have z2 : (2 : Int32).toInt = 2 := qI_2; have z3 : (3 : Int32).toInt = 3 := qI_3; have z5 : (5 : Int32).toInt = 5 := qI_5; have z9 : (9 : Int32).toInt = 9 := qI_9; have z20 : (20 : Int32).toInt = 20 := qI_20; have z4 : (-4 : Int32).toInt = -4 := (by decide); have z10 : (10 : Int32).toInt = 10 := qI_10; refine ⟨⟨by omega, by omega⟩, ?_⟩; first | (rw [if_neg (by omega)]; done) | (rw [if_pos (by omega), nI_clamp (by omega)]; done))⟩, ⟨by rw [ht]; exact hP9, hD9⟩⟩, hS.F ht⟩) hS.2.2 dX10_start_12
  · skip
    refine lv_iload_n hx hb dX10_start_5 rfl (lv_at hl 1 rfl) ?_
    refine lv_bipush (v := 9) hx hb dX10_start_6 (by decide) ?_
    refine lv_icmp_le (tgt := 13) hx hb dX10_start_8 (by decide) (fun c2 => ?_) (fun c2 => ?_)
    · skip
      obtain ⟨vv, hvv, rfl⟩ : ∃ j : Nat, j < 10 ∧ v = nI j := by
        have t_c1 := nltI c1
        have t_c2 := leI c2
        have : (1 : Int32).toInt = 1 := qI_1
        have : (9 : Int32).toInt = 9 := qI_9
        have tn2604_ : nIT N := fun _ => nI_toInt (by omega)
        have t_n0 : (nI N).toInt = (N : Int) := tn2604_ ()
        have tn2605_ : nIT B := fun _ => nI_toInt (by omega)
        have t_n1 : (nI B).toInt = (B : Int) := tn2605_ ()
        have tn2606_ : nIT D := fun _ => nI_toInt (by omega)
        have t_n2 : (nI D).toInt = (D : Int) := tn2606_ ()
        exact i32_nat (by omega) (by omega)
      refine lv_aload_n hx hb dX10_start_13 rfl (lv_at hl 0 rfl) ?_
      refine va_get (D := (dC, dI)) (ci := 10) (v := .ref wy) (C := RX10) (T := TX10) (N := 14) hx hb hg inG10 hown hK.1 hP 0 rfl rfl 1 (by decide) (hg _ wt_303) (fun _ h9 => h9) rfl dX10_start_14 ?_
      refine va_getN (D := (dC, dI)) (ci := 9) (v := .int (nI D)) (C := RX9) (T := TX9) (N := 9) hx hb hg inG9 hown hK.1 hP 1 rfl rfl 2 (by decide) (hK.nest wn_71) (fun _ h9 => h9) rfl dX10_start_17 ?_
      refine lv_istore_n (lv' := [(2, .int (nI D)), (0, .ref h0), (1, .int (nI vv))]) hx hb dX10_start_20 rfl hl (by decide) rfl (fun ls hl => ?_)
      refine lv_aload_n hx hb dX10_start_21 rfl (lv_at hl 1 rfl) ?_
      refine va_get (D := (dC, dI)) (ci := 10) (v := .ref wy) (C := RX10) (T := TX10) (N := 14) hx hb hg inG10 hown hK.1 hP 0 rfl rfl 1 (by decide) (hg _ wt_303) (fun _ h9 => h9) rfl dX10_start_22 ?_
      refine lv_iload_n hx hb dX10_start_25 rfl (lv_at hl 2 rfl) ?_
      refine va_putN (D := (dC, dI)) (ci := 9) (v := .int (nI vv)) (ty := .int) (C := RX9) (T := TX9) (N := 9) hx hb hg inG9 tyX9 tyX9_ok nmX9 hown hK.1 hP hD hS 1 rfl rfl 2 (by decide) (hK.nest wn_71) (fun _ h9 => h9) rfl (by decide +kernel) rfl rfl (Nat.le_of_ble_eq_true rfl) dX10_start_26 (fun H locs hP hD hS => ?_)
      have hP : va_P (dC, dI) vwCl [(h0, .inr (10, [.ref rd, .ref wy, .ref tr, .ref im, .ref kp, .ref od, .ref ch, .ref cr, .ref le, .ref mk, .ref tl, .ref sh, .int tf, .int rf])), (wy, .inr (9, [.int (nI N), .int (nI B), .int (nI vv), .ref a1, .ref a2, .ref a3, .ref a4, .ref a5, .ref a6]))] H := hP
      have hD : va_D A [(h0, .inr (10, [.ref rd, .ref wy, .ref tr, .ref im, .ref kp, .ref od, .ref ch, .ref cr, .ref le, .ref mk, .ref tl, .ref sh, .int tf, .int rf])), (wy, .inr (9, [.int (nI N), .int (nI B), .int (nI vv), .ref a1, .ref a2, .ref a3, .ref a4, .ref a5, .ref a6]))] := hD
      refine lv_iload_n hx hb dX10_start_29 rfl (lv_at hl 0 rfl) ?_
      have hpost : (nI D : Int32) = if (1 ≤ (nI vv).toInt ∧ (nI vv).toInt ≤ 9) then nI D else -1 := by
        have t_c1 := nltI c1
        have t_c2 := leI c2
        have t_hvv := hvv
        have : (1 : Int32).toInt = 1 := qI_1
        have : (9 : Int32).toInt = 9 := qI_9
        have tn2607_ : nIT N := fun _ => nI_toInt (by omega)
        have t_n0 : (nI N).toInt = (N : Int) := tn2607_ ()
        have tn2608_ : nIT B := fun _ => nI_toInt (by omega)
        have t_n1 : (nI B).toInt = (B : Int) := tn2608_ ()
        have tn2609_ : nIT D := fun _ => nI_toInt (by omega)
        have t_n2 : (nI D).toInt = (D : Int) := tn2609_ ()
        have tn2610_ : nIT vv := fun _ => nI_toInt (by omega)
        have t_n3 : (nI vv).toInt = (vv : Int) := tn2610_ ()
        have z0 : (0 : Int32).toInt = 0 := qI_0
        have z1 : (1 : Int32).toInt = 1 := qI_1
        have z2 : (2 : Int32).toInt = 2 := qI_2
        have z3 : (3 : Int32).toInt = 3 := qI_3
        have z5 : (5 : Int32).toInt = 5 := qI_5
        have z9 : (9 : Int32).toInt = 9 := qI_9
        have z20 : (20 : Int32).toInt = 20 := qI_20
        have z4 : (-4 : Int32).toInt = -4 := (by decide)
        have z10 : (10 : Int32).toInt = 10 := qI_10
        first | (rw [if_neg (by omega)]; done) | (rw [if_pos (by omega)]; done)
      have hP9 := hP.sub (ws' := [(h0, .inr (10, [.ref rd, .ref wy, .ref tr, .ref im, .ref kp, .ref od, .ref ch, .ref cr, .ref le, .ref mk, .ref tl, .ref sh, .int tf, .int rf])), (wy, .inr (9, [.int (nI N), .int (nI B), .int (nI vv), .ref a1, .ref a2, .ref a3, .ref a4, .ref a5, .ref a6]))]) [0, 1] rfl
      have hD9 := hD.sub (ws' := [(h0, .inr (10, [.ref rd, .ref wy, .ref tr, .ref im, .ref kp, .ref od, .ref ch, .ref cr, .ref le, .ref mk, .ref tl, .ref sh, .int tf, .int rf])), (wy, .inr (9, [.int (nI N), .int (nI B), .int (nI vv), .ref a1, .ref a2, .ref a3, .ref a4, .ref a5, .ref a6]))]) [0, 1] (by decide) rfl
      refine W.widen (k := 0) (n := 0) (Nat.le_of_ble_eq_true rfl) (Nat.le_of_ble_eq_true rfl) ?_
      have tn2611_ : nIT N := fun _ => nI_toInt (by first | omega | (have t_c1 := nltI c1; have t_c2 := leI c2; have t_hvv := hvv; have : (1 : Int32).toInt = 1 := qI_1; have : (9 : Int32).toInt = 9 := qI_9; omega))
      have tn2612_ : nIT B := fun _ => nI_toInt (by first | omega | (have t_c1 := nltI c1; have t_c2 := leI c2; have t_hvv := hvv; have : (1 : Int32).toInt = 1 := qI_1; have : (9 : Int32).toInt = 9 := qI_9; omega))
      have tn2613_ : nIT D := fun _ => nI_toInt (by first | omega | (have t_c1 := nltI c1; have t_c2 := leI c2; have t_hvv := hvv; have : (1 : Int32).toInt = 1 := qI_1; have : (9 : Int32).toInt = 9 := qI_9; omega))
      have tn2614_ : nIT vv := fun _ => nI_toInt (by first | omega | (have t_c1 := nltI c1; have t_c2 := leI c2; have t_hvv := hvv; have : (1 : Int32).toInt = 1 := qI_1; have : (9 : Int32).toInt = 9 := qI_9; omega))
      exact W.iret (v := nI D) hx hb hr (fun t ht hW => ⟨⟨nI D, vv, rfl, ⟨hpost, (by have t_c1 := nltI c1; have t_c2 := leI c2; have t_hvv := hvv; have : (1 : Int32).toInt = 1 := qI_1; have : (9 : Int32).toInt = 9 := qI_9; have t_n0 : (nI N).toInt = (N : Int) := tn2611_ (); have t_n1 : (nI B).toInt = (B : Int) := tn2612_ (); have t_n2 : (nI D).toInt = (D : Int) := tn2613_ (); have t_n3 : (nI vv).toInt = (vv : Int) := tn2614_ (); have z0 : (0 : Int32).toInt = 0 := qI_0; have z1 : (1 : Int32).toInt = 1 := qI_1; have z2 : (2 : Int32).toInt = 2 := qI_2; have z3 : (3 : Int32).toInt = 3 := qI_3; have z5 : (5 : Int32).toInt = 5 := qI_5; have z9 : (9 : Int32).toInt = 9 := qI_9; have z20 : (20 : Int32).toInt = 20 := qI_20; have z4 : (-4 : Int32).toInt = -4 := (by decide); have z10 : (10 : Int32).toInt = 10 := qI_10; refine ⟨⟨by omega, by omega⟩, ?_⟩; first | (rw [if_neg (by omega)]; done) | (rw [if_pos (by omega), nI_clamp (by omega)]; done))⟩, ⟨by rw [ht]; exact hP9, hD9⟩⟩, hS.F ht⟩) hS.2.2 dX10_start_30
    · skip
      refine lv_iconst (v := (-1)) hx hb dX10_start_11 (by decide) ?_
      have hpost : ((-1) : Int32) = if (1 ≤ v.toInt ∧ v.toInt ≤ 9) then nI D else -1 := by
        have t_c1 := nltI c1
        have t_c2 := nleI c2
        have : (1 : Int32).toInt = 1 := qI_1
        have : (9 : Int32).toInt = 9 := qI_9
        have tn2615_ : nIT N := fun _ => nI_toInt (by omega)
        have t_n0 : (nI N).toInt = (N : Int) := tn2615_ ()
        have tn2616_ : nIT B := fun _ => nI_toInt (by omega)
        have t_n1 : (nI B).toInt = (B : Int) := tn2616_ ()
        have tn2617_ : nIT D := fun _ => nI_toInt (by omega)
        have t_n2 : (nI D).toInt = (D : Int) := tn2617_ ()
        have z0 : (0 : Int32).toInt = 0 := qI_0
        have z1 : (1 : Int32).toInt = 1 := qI_1
        have z2 : (2 : Int32).toInt = 2 := qI_2
        have z3 : (3 : Int32).toInt = 3 := qI_3
        have z5 : (5 : Int32).toInt = 5 := qI_5
        have z9 : (9 : Int32).toInt = 9 := qI_9
        have z20 : (20 : Int32).toInt = 20 := qI_20
        have z4 : (-4 : Int32).toInt = -4 := (by decide)
        have z10 : (10 : Int32).toInt = 10 := qI_10
        first | (rw [if_neg (by omega)]; done) | (rw [if_pos (by omega)]; done)
      have hP9 := hP.sub (ws' := [(h0, .inr (10, [.ref rd, .ref wy, .ref tr, .ref im, .ref kp, .ref od, .ref ch, .ref cr, .ref le, .ref mk, .ref tl, .ref sh, .int tf, .int rf])), (wy, .inr (9, [.int (nI N), .int (nI B), .int (nI D), .ref a1, .ref a2, .ref a3, .ref a4, .ref a5, .ref a6]))]) [0, 1] rfl
      have hD9 := hD.sub (ws' := [(h0, .inr (10, [.ref rd, .ref wy, .ref tr, .ref im, .ref kp, .ref od, .ref ch, .ref cr, .ref le, .ref mk, .ref tl, .ref sh, .int tf, .int rf])), (wy, .inr (9, [.int (nI N), .int (nI B), .int (nI D), .ref a1, .ref a2, .ref a3, .ref a4, .ref a5, .ref a6]))]) [0, 1] (by decide) rfl
      refine W.widen (k := 0) (n := 0) (Nat.le_of_ble_eq_true rfl) (Nat.le_of_ble_eq_true rfl) ?_
      have tn2618_ : nIT N := fun _ => nI_toInt (by first | omega | (have t_c1 := nltI c1; have t_c2 := nleI c2; have : (1 : Int32).toInt = 1 := qI_1; have : (9 : Int32).toInt = 9 := qI_9; omega))
      have tn2619_ : nIT B := fun _ => nI_toInt (by first | omega | (have t_c1 := nltI c1; have t_c2 := nleI c2; have : (1 : Int32).toInt = 1 := qI_1; have : (9 : Int32).toInt = 9 := qI_9; omega))
      have tn2620_ : nIT D := fun _ => nI_toInt (by first | omega | (have t_c1 := nltI c1; have t_c2 := nleI c2; have : (1 : Int32).toInt = 1 := qI_1; have : (9 : Int32).toInt = 9 := qI_9; omega))
      exact W.iret (v := (-1)) hx hb hr (fun t ht hW => ⟨⟨(-1), D, rfl, ⟨hpost, (by have t_c1 := nltI c1; have t_c2 := nleI c2; have : (1 : Int32).toInt = 1 := qI_1; have : (9 : Int32).toInt = 9 := qI_9; have t_n0 : (nI N).toInt = (N : Int) := tn2618_ (); have t_n1 : (nI B).toInt = (B : Int) := tn2619_ (); have t_n2 : (nI D).toInt = (D : Int) := tn2620_ (); have z0 : (0 : Int32).toInt = 0 := qI_0; have z1 : (1 : Int32).toInt = 1 := qI_1; have z2 : (2 : Int32).toInt = 2 := qI_2; have z3 : (3 : Int32).toInt = 3 := qI_3; have z5 : (5 : Int32).toInt = 5 := qI_5; have z9 : (9 : Int32).toInt = 9 := qI_9; have z20 : (20 : Int32).toInt = 20 := qI_20; have z4 : (-4 : Int32).toInt = -4 := (by decide); have z10 : (10 : Int32).toInt = 10 := qI_10; refine ⟨⟨by omega, by omega⟩, ?_⟩; first | (rw [if_neg (by omega)]; done) | (rw [if_pos (by omega), nI_clamp (by omega)]; done))⟩, ⟨by rw [ht]; exact hP9, hD9⟩⟩, hS.F ht⟩) hS.2.2 dX10_start_12

set_option maxHeartbeats 1000000 in
set_option maxRecDepth 100000 in
theorem c_X10_changeE (l : Launch) (dC : Nat → ClassId) (dI : Nat → Nat → Nat) (G : Nat → ClassId) (sz : Nat) (ra k : Nat) (v : Int32) (f : Nat → Int32) (hk : k < 10) : Met l yX10_change (Cond.code yX10_change cX10_change 4 (some .int) :: GT) ({ frames := 0, cells := 0, slots := 0, locals := 0 } : Room) (PcW [.ref ra, .int (nI k), .int v] dC dI G [(ra, .inl (G 0, 10, .inl f))] sz) (va_Qi (fun (r : Int32) (u : (Nat → Int32)) => match u with | u0 => (r = if 0 ≤ v.toInt ∧ v.toInt ≤ 9 then f k else -1) ∧ u0 = (if 0 ≤ v.toInt ∧ v.toInt ≤ 9 then upd f k v else f)) (fun (u : (Nat → Int32)) (t : State) => match u with | u0 => va_P (dC, dI) vwCl [(ra, .inl (G 0, 10, .inl u0))] t.heap ∧ va_D (va_A [(ra, .inl (G 0, 10, .inl f))] sz) [(ra, .inl (G 0, 10, .inl u0))]) (va_A [(ra, .inl (G 0, 10, .inl f))] sz)) 0 0 (va_A [(ra, .inl (G 0, 10, .inl f))] sz) := by
  refine Met.ofW (cc := cX10_change) (maxL := 4) (ret := (some .int)) (by decide) rfl ?_
  intro p e s m args below meth c s₁ Bd hml hv
  obtain ⟨rfl, hsz, hP, hK, hD0⟩ := hv
  have hx := Bd.exec
  have hb := Bd.bytes
  have hr := Bd.returns
  have hg : ∀ w ∈ GT, w.before ([.ref ra, .int (nI k), .int v] : List Value).toArray s = true := fun w h => atoms_spec (ws := Cond.code yX10_change cX10_change 4 (some .int) :: GT) Bd.pre w (List.mem_cons_of_mem _ h)
  have hown : s.vm.findClass RX10 = some m.cls := findClass_of_methodNamed Bd.named
  have hlocks := Bd.notSynchronized
  subst hsz
  have hD := hD0.self (sz := s.heap.size)
  generalize hAe : va_A [(ra, .inl (G 0, 10, .inl f))] s.heap.size = A at hD ⊢
  have hA : ∀ q : Nat, s.heap.size ≤ q → A q := fun q h => by rw [← hAe]; exact Or.inr h
  have hS : va_S A s.heap s.heap [] := va_S.rf
  have hl := lv_entry ([.ref ra, .int (nI k), .int v]) (n := 4) (Nat.le_of_ble_eq_true rfl)
  rw [lg_entry_eq]
  generalize (lg_sl ([.ref ra, .int (nI k), .int v]) ++ List.replicate (4 - (lg_sl ([.ref ra, .int (nI k), .int v])).length) Slot.unset).toArray = ls at hl ⊢
  have hl : lv_has ls 4 [(0, .ref ra), (1, .int (nI k)), (2, .int v)] := hl
  refine lv_iload_n hx hb dX10_change_0 rfl (lv_at hl 2 rfl) ?_
  refine lv_if_lt (tgt := 20) hx hb dX10_change_1 (by decide) (fun c1 => ?_) (fun c1 => ?_)
  · skip
    refine lv_iconst (v := (-1)) hx hb dX10_change_20 (by decide) ?_
    have hpost : ((-1) : Int32) = if 0 ≤ v.toInt ∧ v.toInt ≤ 9 then f k else -1 := by
      have t_c1 := ltI c1
      have : (0 : Int32).toInt = 0 := qI_0
      have tn2621_ : nIT k := fun _ => nI_toInt (by omega)
      have t_n0 : (nI k).toInt = (k : Int) := tn2621_ ()
      have z0 : (0 : Int32).toInt = 0 := qI_0
      have z1 : (1 : Int32).toInt = 1 := qI_1
      have z2 : (2 : Int32).toInt = 2 := qI_2
      have z3 : (3 : Int32).toInt = 3 := qI_3
      have z5 : (5 : Int32).toInt = 5 := qI_5
      have z9 : (9 : Int32).toInt = 9 := qI_9
      have z20 : (20 : Int32).toInt = 20 := qI_20
      have z4 : (-4 : Int32).toInt = -4 := (by decide)
      have z10 : (10 : Int32).toInt = 10 := qI_10
      first | (rw [if_neg (by omega)]; done) | (rw [if_pos (by omega)]; done)
    have hP9 := hP.sub (ws' := [(ra, .inl (G 0, 10, .inl f))]) [0] rfl
    have hD9 := hD.sub (ws' := [(ra, .inl (G 0, 10, .inl f))]) [0] (by decide) rfl
    refine W.widen (k := 0) (n := 0) (Nat.le_of_ble_eq_true rfl) (Nat.le_of_ble_eq_true rfl) ?_
    have tn2622_ : nIT k := fun _ => nI_toInt (by first | omega | (have t_c1 := ltI c1; have : (0 : Int32).toInt = 0 := qI_0; omega))
    exact W.iret (v := (-1)) hx hb hr (fun t ht hW => ⟨⟨(-1), f, rfl, ⟨hpost, (by have t_c1 := ltI c1; have : (0 : Int32).toInt = 0 := qI_0; have t_n0 : (nI k).toInt = (k : Int) := tn2622_ (); have z0 : (0 : Int32).toInt = 0 := qI_0; have z1 : (1 : Int32).toInt = 1 := qI_1; have z2 : (2 : Int32).toInt = 2 := qI_2; have z3 : (3 : Int32).toInt = 3 := qI_3; have z5 : (5 : Int32).toInt = 5 := qI_5; have z9 : (9 : Int32).toInt = 9 := qI_9; have z20 : (20 : Int32).toInt = 20 := qI_20; have z4 : (-4 : Int32).toInt = -4 := (by decide); have z10 : (10 : Int32).toInt = 10 := qI_10; first | (rw [if_neg (by omega)]; done) | (rw [if_pos (by omega)]; done))⟩, ⟨by rw [ht]; exact hP9, hD9⟩⟩, hS.F ht⟩) hS.2.2 dX10_change_21
  · skip
    refine lv_iload_n hx hb dX10_change_4 rfl (lv_at hl 2 rfl) ?_
    refine lv_bipush (v := 9) hx hb dX10_change_5 (by decide) ?_
    refine lv_icmp_gt (tgt := 20) hx hb dX10_change_7 (by decide) (fun c2 => ?_) (fun c2 => ?_)
    · skip
      refine lv_iconst (v := (-1)) hx hb dX10_change_20 (by decide) ?_
      have hpost : ((-1) : Int32) = if 0 ≤ v.toInt ∧ v.toInt ≤ 9 then f k else -1 := by
        have t_c1 := nltI c1
        have t_c2 := ltI c2
        have : (0 : Int32).toInt = 0 := qI_0
        have : (9 : Int32).toInt = 9 := qI_9
        have tn2623_ : nIT k := fun _ => nI_toInt (by omega)
        have t_n0 : (nI k).toInt = (k : Int) := tn2623_ ()
        have z0 : (0 : Int32).toInt = 0 := qI_0
        have z1 : (1 : Int32).toInt = 1 := qI_1
        have z2 : (2 : Int32).toInt = 2 := qI_2
        have z3 : (3 : Int32).toInt = 3 := qI_3
        have z5 : (5 : Int32).toInt = 5 := qI_5
        have z9 : (9 : Int32).toInt = 9 := qI_9
        have z20 : (20 : Int32).toInt = 20 := qI_20
        have z4 : (-4 : Int32).toInt = -4 := (by decide)
        have z10 : (10 : Int32).toInt = 10 := qI_10
        first | (rw [if_neg (by omega)]; done) | (rw [if_pos (by omega)]; done)
      have hP9 := hP.sub (ws' := [(ra, .inl (G 0, 10, .inl f))]) [0] rfl
      have hD9 := hD.sub (ws' := [(ra, .inl (G 0, 10, .inl f))]) [0] (by decide) rfl
      refine W.widen (k := 0) (n := 0) (Nat.le_of_ble_eq_true rfl) (Nat.le_of_ble_eq_true rfl) ?_
      have tn2624_ : nIT k := fun _ => nI_toInt (by first | omega | (have t_c1 := nltI c1; have t_c2 := ltI c2; have : (0 : Int32).toInt = 0 := qI_0; have : (9 : Int32).toInt = 9 := qI_9; omega))
      exact W.iret (v := (-1)) hx hb hr (fun t ht hW => ⟨⟨(-1), f, rfl, ⟨hpost, (by have t_c1 := nltI c1; have t_c2 := ltI c2; have : (0 : Int32).toInt = 0 := qI_0; have : (9 : Int32).toInt = 9 := qI_9; have t_n0 : (nI k).toInt = (k : Int) := tn2624_ (); have z0 : (0 : Int32).toInt = 0 := qI_0; have z1 : (1 : Int32).toInt = 1 := qI_1; have z2 : (2 : Int32).toInt = 2 := qI_2; have z3 : (3 : Int32).toInt = 3 := qI_3; have z5 : (5 : Int32).toInt = 5 := qI_5; have z9 : (9 : Int32).toInt = 9 := qI_9; have z20 : (20 : Int32).toInt = 20 := qI_20; have z4 : (-4 : Int32).toInt = -4 := (by decide); have z10 : (10 : Int32).toInt = 10 := qI_10; first | (rw [if_neg (by omega)]; done) | (rw [if_pos (by omega)]; done))⟩, ⟨by rw [ht]; exact hP9, hD9⟩⟩, hS.F ht⟩) hS.2.2 dX10_change_21
    · skip
      refine lv_iload_n hx hb dX10_change_10 rfl (lv_at hl 1 rfl) ?_
      refine lv_if_lt (tgt := 20) hx hb dX10_change_11 (by decide) (fun c3 => ?_) (fun c3 => ?_)
      · skip
        have t_c1 := nltI c1
        have t_c2 := nltI c2
        have t_c3 := ltI c3
        have : (0 : Int32).toInt = 0 := qI_0
        have : (9 : Int32).toInt = 9 := qI_9
        have tn2625_ : nIT k := fun _ => nI_toInt (by omega)
        have t_n0 : (nI k).toInt = (k : Int) := tn2625_ ()
        exfalso; omega
      · skip
        have tn2626_ : nIT k := fun _ => nI_toInt (by first | omega | (have t := nltI c3; omega))
        have n4 : 0 ≤ k := by have t := nltI c3; rw [show (nI (k)).toInt = ((k : Nat) : Int) from tn2626_ ()] at t; have : (0 : Int32).toInt = 0 := qI_0; omega
        refine lv_iload_n hx hb dX10_change_14 rfl (lv_at hl 1 rfl) ?_
        refine lv_aload_n hx hb dX10_change_15 rfl (lv_at hl 0 rfl) ?_
        refine va_alen (v := 10) hx hb hK.1 hP 0 0 rfl rfl (by rfl) dX10_change_16 ?_
        refine lv_icmp_lt (tgt := 22) hx hb dX10_change_17 (by decide) (fun c5 => ?_) (fun c5 => ?_)
        · skip
          have n6 : k < 10 := by have t := ltI c5; rw [show (nI (k)).toInt = ((k : Nat) : Int) from tn2626_ ()] at t; have : (10 : Int32).toInt = 10 := qI_10; omega
          refine lv_aload_n hx hb dX10_change_22 rfl (lv_at hl 0 rfl) ?_
          refine lv_iload_n hx hb dX10_change_23 rfl (lv_at hl 1 rfl) ?_
          refine va_iald hx hb hK.1 hP 0 0 rfl rfl (vp_in_nI (by first | omega | (have t_c1 := nltI c1; have t_c2 := nltI c2; have t_n4 := n4; have t_n6 := n6; have : (0 : Int32).toInt = 0 := qI_0; have : (9 : Int32).toInt = 9 := qI_9; have t_n0 : (nI k).toInt = (k : Int) := tn2626_ (); omega)) (by decide)) dX10_change_24 ?_
          refine lv_cg (y := f k) (by rw [nI_clamp (by omega)]) ?_
          refine lv_istore_n (lv' := [(3, .int (f k)), (0, .ref ra), (1, .int (nI k)), (2, .int v)]) hx hb dX10_change_25 rfl hl (by decide) rfl (fun ls hl => ?_)
          refine lv_aload_n hx hb dX10_change_26 rfl (lv_at hl 1 rfl) ?_
          refine lv_iload_n hx hb dX10_change_27 rfl (lv_at hl 2 rfl) ?_
          refine lv_iload_n hx hb dX10_change_28 rfl (lv_at hl 3 rfl) ?_
          refine va_iast hx hb hK.1 hP hD hS 0 0 rfl rfl (vp_in_nI (by first | omega | (have t_c1 := nltI c1; have t_c2 := nltI c2; have t_n4 := n4; have t_n6 := n6; have : (0 : Int32).toInt = 0 := qI_0; have : (9 : Int32).toInt = 9 := qI_9; have t_n0 : (nI k).toInt = (k : Int) := tn2626_ (); omega)) (by decide)) dX10_change_29 (fun H locs hP hD hS => ?_)
          rw [nI_clamp (by omega)] at hP hD
          have hP : va_P (dC, dI) vwCl [(ra, .inl (G 0, 10, .inl (upd f k v)))] H := hP
          have hD : va_D A [(ra, .inl (G 0, 10, .inl (upd f k v)))] := hD
          refine lv_iload_n hx hb dX10_change_30 rfl (lv_at hl 0 rfl) ?_
          have hpost : (f k : Int32) = if 0 ≤ v.toInt ∧ v.toInt ≤ 9 then f k else -1 := by
            have t_c1 := nltI c1
            have t_c2 := nltI c2
            have t_n4 := n4
            have t_n6 := n6
            have : (0 : Int32).toInt = 0 := qI_0
            have : (9 : Int32).toInt = 9 := qI_9
            have t_n0 : (nI k).toInt = (k : Int) := tn2626_ ()
            have z0 : (0 : Int32).toInt = 0 := qI_0
            have z1 : (1 : Int32).toInt = 1 := qI_1
            have z2 : (2 : Int32).toInt = 2 := qI_2
            have z3 : (3 : Int32).toInt = 3 := qI_3
            have z5 : (5 : Int32).toInt = 5 := qI_5
            have z9 : (9 : Int32).toInt = 9 := qI_9
            have z20 : (20 : Int32).toInt = 20 := qI_20
            have z4 : (-4 : Int32).toInt = -4 := (by decide)
            have z10 : (10 : Int32).toInt = 10 := qI_10
            first | (rw [if_neg (by omega)]; done) | (rw [if_pos (by omega)]; done)
          have hP9 := hP.sub (ws' := [(ra, .inl (G 0, 10, .inl (upd f k v)))]) [0] rfl
          have hD9 := hD.sub (ws' := [(ra, .inl (G 0, 10, .inl (upd f k v)))]) [0] (by decide) rfl
          refine W.widen (k := 0) (n := 0) (Nat.le_of_ble_eq_true rfl) (Nat.le_of_ble_eq_true rfl) ?_
          exact W.iret (v := f k) hx hb hr (fun t ht hW => ⟨⟨f k, (upd f k v), rfl, ⟨hpost, (by have t_c1 := nltI c1; have t_c2 := nltI c2; have t_n4 := n4; have t_n6 := n6; have : (0 : Int32).toInt = 0 := qI_0; have : (9 : Int32).toInt = 9 := qI_9; have t_n0 : (nI k).toInt = (k : Int) := tn2626_ (); have z0 : (0 : Int32).toInt = 0 := qI_0; have z1 : (1 : Int32).toInt = 1 := qI_1; have z2 : (2 : Int32).toInt = 2 := qI_2; have z3 : (3 : Int32).toInt = 3 := qI_3; have z5 : (5 : Int32).toInt = 5 := qI_5; have z9 : (9 : Int32).toInt = 9 := qI_9; have z20 : (20 : Int32).toInt = 20 := qI_20; have z4 : (-4 : Int32).toInt = -4 := (by decide); have z10 : (10 : Int32).toInt = 10 := qI_10; first | (rw [if_neg (by omega)]; done) | (rw [if_pos (by omega)]; done))⟩, ⟨by rw [ht]; exact hP9, hD9⟩⟩, hS.F ht⟩) hS.2.2 dX10_change_31
        · skip
          have t_c1 := nltI c1
          have t_c2 := nltI c2
          have t_n4 := n4
          have t_c5 := nltI c5
          have : (0 : Int32).toInt = 0 := qI_0
          have : (9 : Int32).toInt = 9 := qI_9
          have : (10 : Int32).toInt = 10 := qI_10
          have t_n0 : (nI k).toInt = (k : Int) := tn2626_ ()
          exfalso; omega

set_option maxHeartbeats 1000000 in
set_option maxRecDepth 100000 in
theorem c_X10_change6E (l : Launch) (dC : Nat → ClassId) (dI : Nat → Nat → Nat) (G : Nat → ClassId) (sz : Nat) (ra k : Nat) (v : Int32) (f : Nat → Int32) (hk : k < 6) : Met l yX10_change (Cond.code yX10_change cX10_change 4 (some .int) :: GT) ({ frames := 0, cells := 0, slots := 0, locals := 0 } : Room) (PcW [.ref ra, .int (nI k), .int v] dC dI G [(ra, .inl (G 0, 6, .inl f))] sz) (va_Qi (fun (r : Int32) (u : (Nat → Int32)) => match u with | u0 => (r = if 0 ≤ v.toInt ∧ v.toInt ≤ 9 then f k else -1) ∧ u0 = (if 0 ≤ v.toInt ∧ v.toInt ≤ 9 then upd f k v else f)) (fun (u : (Nat → Int32)) (t : State) => match u with | u0 => va_P (dC, dI) vwCl [(ra, .inl (G 0, 6, .inl u0))] t.heap ∧ va_D (va_A [(ra, .inl (G 0, 6, .inl f))] sz) [(ra, .inl (G 0, 6, .inl u0))]) (va_A [(ra, .inl (G 0, 6, .inl f))] sz)) 0 0 (va_A [(ra, .inl (G 0, 6, .inl f))] sz) := by
  refine Met.ofW (cc := cX10_change) (maxL := 4) (ret := (some .int)) (by decide) rfl ?_
  intro p e s m args below meth c s₁ Bd hml hv
  obtain ⟨rfl, hsz, hP, hK, hD0⟩ := hv
  have hx := Bd.exec
  have hb := Bd.bytes
  have hr := Bd.returns
  have hg : ∀ w ∈ GT, w.before ([.ref ra, .int (nI k), .int v] : List Value).toArray s = true := fun w h => atoms_spec (ws := Cond.code yX10_change cX10_change 4 (some .int) :: GT) Bd.pre w (List.mem_cons_of_mem _ h)
  have hown : s.vm.findClass RX10 = some m.cls := findClass_of_methodNamed Bd.named
  have hlocks := Bd.notSynchronized
  subst hsz
  have hD := hD0.self (sz := s.heap.size)
  generalize hAe : va_A [(ra, .inl (G 0, 6, .inl f))] s.heap.size = A at hD ⊢
  have hA : ∀ q : Nat, s.heap.size ≤ q → A q := fun q h => by rw [← hAe]; exact Or.inr h
  have hS : va_S A s.heap s.heap [] := va_S.rf
  have hl := lv_entry ([.ref ra, .int (nI k), .int v]) (n := 4) (Nat.le_of_ble_eq_true rfl)
  rw [lg_entry_eq]
  generalize (lg_sl ([.ref ra, .int (nI k), .int v]) ++ List.replicate (4 - (lg_sl ([.ref ra, .int (nI k), .int v])).length) Slot.unset).toArray = ls at hl ⊢
  have hl : lv_has ls 4 [(0, .ref ra), (1, .int (nI k)), (2, .int v)] := hl
  refine lv_iload_n hx hb dX10_change_0 rfl (lv_at hl 2 rfl) ?_
  refine lv_if_lt (tgt := 20) hx hb dX10_change_1 (by decide) (fun c1 => ?_) (fun c1 => ?_)
  · skip
    refine lv_iconst (v := (-1)) hx hb dX10_change_20 (by decide) ?_
    have hpost : ((-1) : Int32) = if 0 ≤ v.toInt ∧ v.toInt ≤ 9 then f k else -1 := by
      have t_c1 := ltI c1
      have : (0 : Int32).toInt = 0 := qI_0
      have tn2627_ : nIT k := fun _ => nI_toInt (by omega)
      have t_n0 : (nI k).toInt = (k : Int) := tn2627_ ()
      have z0 : (0 : Int32).toInt = 0 := qI_0
      have z1 : (1 : Int32).toInt = 1 := qI_1
      have z2 : (2 : Int32).toInt = 2 := qI_2
      have z3 : (3 : Int32).toInt = 3 := qI_3
      have z5 : (5 : Int32).toInt = 5 := qI_5
      have z9 : (9 : Int32).toInt = 9 := qI_9
      have z20 : (20 : Int32).toInt = 20 := qI_20
      have z4 : (-4 : Int32).toInt = -4 := (by decide)
      have z10 : (10 : Int32).toInt = 10 := qI_10
      first | (rw [if_neg (by omega)]; done) | (rw [if_pos (by omega)]; done)
    have hP9 := hP.sub (ws' := [(ra, .inl (G 0, 6, .inl f))]) [0] rfl
    have hD9 := hD.sub (ws' := [(ra, .inl (G 0, 6, .inl f))]) [0] (by decide) rfl
    refine W.widen (k := 0) (n := 0) (Nat.le_of_ble_eq_true rfl) (Nat.le_of_ble_eq_true rfl) ?_
    have tn2628_ : nIT k := fun _ => nI_toInt (by first | omega | (have t_c1 := ltI c1; have : (0 : Int32).toInt = 0 := qI_0; omega))
    exact W.iret (v := (-1)) hx hb hr (fun t ht hW => ⟨⟨(-1), f, rfl, ⟨hpost, (by have t_c1 := ltI c1; have : (0 : Int32).toInt = 0 := qI_0; have t_n0 : (nI k).toInt = (k : Int) := tn2628_ (); have z0 : (0 : Int32).toInt = 0 := qI_0; have z1 : (1 : Int32).toInt = 1 := qI_1; have z2 : (2 : Int32).toInt = 2 := qI_2; have z3 : (3 : Int32).toInt = 3 := qI_3; have z5 : (5 : Int32).toInt = 5 := qI_5; have z9 : (9 : Int32).toInt = 9 := qI_9; have z20 : (20 : Int32).toInt = 20 := qI_20; have z4 : (-4 : Int32).toInt = -4 := (by decide); have z10 : (10 : Int32).toInt = 10 := qI_10; first | (rw [if_neg (by omega)]; done) | (rw [if_pos (by omega)]; done))⟩, ⟨by rw [ht]; exact hP9, hD9⟩⟩, hS.F ht⟩) hS.2.2 dX10_change_21
  · skip
    refine lv_iload_n hx hb dX10_change_4 rfl (lv_at hl 2 rfl) ?_
    refine lv_bipush (v := 9) hx hb dX10_change_5 (by decide) ?_
    refine lv_icmp_gt (tgt := 20) hx hb dX10_change_7 (by decide) (fun c2 => ?_) (fun c2 => ?_)
    · skip
      refine lv_iconst (v := (-1)) hx hb dX10_change_20 (by decide) ?_
      have hpost : ((-1) : Int32) = if 0 ≤ v.toInt ∧ v.toInt ≤ 9 then f k else -1 := by
        have t_c1 := nltI c1
        have t_c2 := ltI c2
        have : (0 : Int32).toInt = 0 := qI_0
        have : (9 : Int32).toInt = 9 := qI_9
        have tn2629_ : nIT k := fun _ => nI_toInt (by omega)
        have t_n0 : (nI k).toInt = (k : Int) := tn2629_ ()
        have z0 : (0 : Int32).toInt = 0 := qI_0
        have z1 : (1 : Int32).toInt = 1 := qI_1
        have z2 : (2 : Int32).toInt = 2 := qI_2
        have z3 : (3 : Int32).toInt = 3 := qI_3
        have z5 : (5 : Int32).toInt = 5 := qI_5
        have z9 : (9 : Int32).toInt = 9 := qI_9
        have z20 : (20 : Int32).toInt = 20 := qI_20
        have z4 : (-4 : Int32).toInt = -4 := (by decide)
        have z10 : (10 : Int32).toInt = 10 := qI_10
        first | (rw [if_neg (by omega)]; done) | (rw [if_pos (by omega)]; done)
      have hP9 := hP.sub (ws' := [(ra, .inl (G 0, 6, .inl f))]) [0] rfl
      have hD9 := hD.sub (ws' := [(ra, .inl (G 0, 6, .inl f))]) [0] (by decide) rfl
      refine W.widen (k := 0) (n := 0) (Nat.le_of_ble_eq_true rfl) (Nat.le_of_ble_eq_true rfl) ?_
      have tn2630_ : nIT k := fun _ => nI_toInt (by first | omega | (have t_c1 := nltI c1; have t_c2 := ltI c2; have : (0 : Int32).toInt = 0 := qI_0; have : (9 : Int32).toInt = 9 := qI_9; omega))
      exact W.iret (v := (-1)) hx hb hr (fun t ht hW => ⟨⟨(-1), f, rfl, ⟨hpost, (by have t_c1 := nltI c1; have t_c2 := ltI c2; have : (0 : Int32).toInt = 0 := qI_0; have : (9 : Int32).toInt = 9 := qI_9; have t_n0 : (nI k).toInt = (k : Int) := tn2630_ (); have z0 : (0 : Int32).toInt = 0 := qI_0; have z1 : (1 : Int32).toInt = 1 := qI_1; have z2 : (2 : Int32).toInt = 2 := qI_2; have z3 : (3 : Int32).toInt = 3 := qI_3; have z5 : (5 : Int32).toInt = 5 := qI_5; have z9 : (9 : Int32).toInt = 9 := qI_9; have z20 : (20 : Int32).toInt = 20 := qI_20; have z4 : (-4 : Int32).toInt = -4 := (by decide); have z10 : (10 : Int32).toInt = 10 := qI_10; first | (rw [if_neg (by omega)]; done) | (rw [if_pos (by omega)]; done))⟩, ⟨by rw [ht]; exact hP9, hD9⟩⟩, hS.F ht⟩) hS.2.2 dX10_change_21
    · skip
      refine lv_iload_n hx hb dX10_change_10 rfl (lv_at hl 1 rfl) ?_
      refine lv_if_lt (tgt := 20) hx hb dX10_change_11 (by decide) (fun c3 => ?_) (fun c3 => ?_)
      · skip
        have t_c1 := nltI c1
        have t_c2 := nltI c2
        have t_c3 := ltI c3
        have : (0 : Int32).toInt = 0 := qI_0
        have : (9 : Int32).toInt = 9 := qI_9
        have tn2631_ : nIT k := fun _ => nI_toInt (by omega)
        have t_n0 : (nI k).toInt = (k : Int) := tn2631_ ()
        exfalso; omega
      · skip
        have tn2632_ : nIT k := fun _ => nI_toInt (by first | omega | (have t := nltI c3; omega))
        have n4 : 0 ≤ k := by have t := nltI c3; rw [show (nI (k)).toInt = ((k : Nat) : Int) from tn2632_ ()] at t; have : (0 : Int32).toInt = 0 := qI_0; omega
        refine lv_iload_n hx hb dX10_change_14 rfl (lv_at hl 1 rfl) ?_
        refine lv_aload_n hx hb dX10_change_15 rfl (lv_at hl 0 rfl) ?_
        refine va_alen (v := 6) hx hb hK.1 hP 0 0 rfl rfl (by rfl) dX10_change_16 ?_
        refine lv_icmp_lt (tgt := 22) hx hb dX10_change_17 (by decide) (fun c5 => ?_) (fun c5 => ?_)
        · skip
          have n6 : k < 6 := by have t := ltI c5; rw [show (nI (k)).toInt = ((k : Nat) : Int) from tn2632_ ()] at t; have : (6 : Int32).toInt = 6 := qI_6; omega
          refine lv_aload_n hx hb dX10_change_22 rfl (lv_at hl 0 rfl) ?_
          refine lv_iload_n hx hb dX10_change_23 rfl (lv_at hl 1 rfl) ?_
          refine va_iald hx hb hK.1 hP 0 0 rfl rfl (vp_in_nI (by first | omega | (have t_c1 := nltI c1; have t_c2 := nltI c2; have t_n4 := n4; have t_n6 := n6; have : (0 : Int32).toInt = 0 := qI_0; have : (9 : Int32).toInt = 9 := qI_9; have t_n0 : (nI k).toInt = (k : Int) := tn2632_ (); omega)) (by decide)) dX10_change_24 ?_
          refine lv_cg (y := f k) (by rw [nI_clamp (by omega)]) ?_
          refine lv_istore_n (lv' := [(3, .int (f k)), (0, .ref ra), (1, .int (nI k)), (2, .int v)]) hx hb dX10_change_25 rfl hl (by decide) rfl (fun ls hl => ?_)
          refine lv_aload_n hx hb dX10_change_26 rfl (lv_at hl 1 rfl) ?_
          refine lv_iload_n hx hb dX10_change_27 rfl (lv_at hl 2 rfl) ?_
          refine lv_iload_n hx hb dX10_change_28 rfl (lv_at hl 3 rfl) ?_
          refine va_iast hx hb hK.1 hP hD hS 0 0 rfl rfl (vp_in_nI (by first | omega | (have t_c1 := nltI c1; have t_c2 := nltI c2; have t_n4 := n4; have t_n6 := n6; have : (0 : Int32).toInt = 0 := qI_0; have : (9 : Int32).toInt = 9 := qI_9; have t_n0 : (nI k).toInt = (k : Int) := tn2632_ (); omega)) (by decide)) dX10_change_29 (fun H locs hP hD hS => ?_)
          rw [nI_clamp (by omega)] at hP hD
          have hP : va_P (dC, dI) vwCl [(ra, .inl (G 0, 6, .inl (upd f k v)))] H := hP
          have hD : va_D A [(ra, .inl (G 0, 6, .inl (upd f k v)))] := hD
          refine lv_iload_n hx hb dX10_change_30 rfl (lv_at hl 0 rfl) ?_
          have hpost : (f k : Int32) = if 0 ≤ v.toInt ∧ v.toInt ≤ 9 then f k else -1 := by
            have t_c1 := nltI c1
            have t_c2 := nltI c2
            have t_n4 := n4
            have t_n6 := n6
            have : (0 : Int32).toInt = 0 := qI_0
            have : (9 : Int32).toInt = 9 := qI_9
            have t_n0 : (nI k).toInt = (k : Int) := tn2632_ ()
            have z0 : (0 : Int32).toInt = 0 := qI_0
            have z1 : (1 : Int32).toInt = 1 := qI_1
            have z2 : (2 : Int32).toInt = 2 := qI_2
            have z3 : (3 : Int32).toInt = 3 := qI_3
            have z5 : (5 : Int32).toInt = 5 := qI_5
            have z9 : (9 : Int32).toInt = 9 := qI_9
            have z20 : (20 : Int32).toInt = 20 := qI_20
            have z4 : (-4 : Int32).toInt = -4 := (by decide)
            have z10 : (10 : Int32).toInt = 10 := qI_10
            first | (rw [if_neg (by omega)]; done) | (rw [if_pos (by omega)]; done)
          have hP9 := hP.sub (ws' := [(ra, .inl (G 0, 6, .inl (upd f k v)))]) [0] rfl
          have hD9 := hD.sub (ws' := [(ra, .inl (G 0, 6, .inl (upd f k v)))]) [0] (by decide) rfl
          refine W.widen (k := 0) (n := 0) (Nat.le_of_ble_eq_true rfl) (Nat.le_of_ble_eq_true rfl) ?_
          exact W.iret (v := f k) hx hb hr (fun t ht hW => ⟨⟨f k, (upd f k v), rfl, ⟨hpost, (by have t_c1 := nltI c1; have t_c2 := nltI c2; have t_n4 := n4; have t_n6 := n6; have : (0 : Int32).toInt = 0 := qI_0; have : (9 : Int32).toInt = 9 := qI_9; have t_n0 : (nI k).toInt = (k : Int) := tn2632_ (); have z0 : (0 : Int32).toInt = 0 := qI_0; have z1 : (1 : Int32).toInt = 1 := qI_1; have z2 : (2 : Int32).toInt = 2 := qI_2; have z3 : (3 : Int32).toInt = 3 := qI_3; have z5 : (5 : Int32).toInt = 5 := qI_5; have z9 : (9 : Int32).toInt = 9 := qI_9; have z20 : (20 : Int32).toInt = 20 := qI_20; have z4 : (-4 : Int32).toInt = -4 := (by decide); have z10 : (10 : Int32).toInt = 10 := qI_10; first | (rw [if_neg (by omega)]; done) | (rw [if_pos (by omega)]; done))⟩, ⟨by rw [ht]; exact hP9, hD9⟩⟩, hS.F ht⟩) hS.2.2 dX10_change_31
        · skip
          have t_c1 := nltI c1
          have t_c2 := nltI c2
          have t_n4 := n4
          have t_c5 := nltI c5
          have : (0 : Int32).toInt = 0 := qI_0
          have : (6 : Int32).toInt = 6 := qI_6
          have : (9 : Int32).toInt = 9 := qI_9
          have t_n0 : (nI k).toInt = (k : Int) := tn2632_ ()
          exfalso; omega

set_option maxHeartbeats 1000000 in
set_option maxRecDepth 100000 in
theorem c_X10_noiseE (l : Launch) (dC : Nat → ClassId) (dI : Nat → Nat → Nat) (G : Nat → ClassId) (sz : Nat) (h0 rd wy tr im kp od ch cr le mk tl sh a1 a2 a3 a4 a5 a6 N B D : Nat) (tf rf i v : Int32) (f1 : Nat → Int32) (hN_N : N ≤ 10) (hB_B : B ≤ 6) (hD_D : 1 ≤ D ∧ D ≤ 9) : Met l yX10_noise (Cond.code yX10_noise cX10_noise 3 (some .int) :: GT) ({ frames := 1, cells := 0, slots := 0, locals := 23 } : Room) (PcW [.ref h0, .int i, .int v] dC dI G [(h0, .inr (10, [.ref rd, .ref wy, .ref tr, .ref im, .ref kp, .ref od, .ref ch, .ref cr, .ref le, .ref mk, .ref tl, .ref sh, .int tf, .int rf])), (wy, .inr (9, [.int (nI N), .int (nI B), .int (nI D), .ref a1, .ref a2, .ref a3, .ref a4, .ref a5, .ref a6])), (a1, .inl (G 0, 10, .inl f1))] sz) (va_Qi (fun (r : Int32) (u : (Nat → Int32)) => match u with | u0 => (r = if ((0 ≤ i.toInt ∧ i.toInt < ((N : Nat) : Int)) ∧ 0 ≤ v.toInt ∧ v.toInt ≤ 9) then f1 i.toNatClampNeg else -1) ∧ u0 = (if ((0 ≤ i.toInt ∧ i.toInt < ((N : Nat) : Int)) ∧ 0 ≤ v.toInt ∧ v.toInt ≤ 9) then upd f1 i.toNatClampNeg v else f1)) (fun (u : (Nat → Int32)) (t : State) => match u with | u0 => va_P (dC, dI) vwCl [(h0, .inr (10, [.ref rd, .ref wy, .ref tr, .ref im, .ref kp, .ref od, .ref ch, .ref cr, .ref le, .ref mk, .ref tl, .ref sh, .int tf, .int rf])), (wy, .inr (9, [.int (nI N), .int (nI B), .int (nI D), .ref a1, .ref a2, .ref a3, .ref a4, .ref a5, .ref a6])), (a1, .inl (G 0, 10, .inl u0))] t.heap ∧ va_D (va_A [(h0, .inr (10, [.ref rd, .ref wy, .ref tr, .ref im, .ref kp, .ref od, .ref ch, .ref cr, .ref le, .ref mk, .ref tl, .ref sh, .int tf, .int rf])), (wy, .inr (9, [.int (nI N), .int (nI B), .int (nI D), .ref a1, .ref a2, .ref a3, .ref a4, .ref a5, .ref a6])), (a1, .inl (G 0, 10, .inl f1))] sz) [(h0, .inr (10, [.ref rd, .ref wy, .ref tr, .ref im, .ref kp, .ref od, .ref ch, .ref cr, .ref le, .ref mk, .ref tl, .ref sh, .int tf, .int rf])), (wy, .inr (9, [.int (nI N), .int (nI B), .int (nI D), .ref a1, .ref a2, .ref a3, .ref a4, .ref a5, .ref a6])), (a1, .inl (G 0, 10, .inl u0))]) (va_A [(h0, .inr (10, [.ref rd, .ref wy, .ref tr, .ref im, .ref kp, .ref od, .ref ch, .ref cr, .ref le, .ref mk, .ref tl, .ref sh, .int tf, .int rf])), (wy, .inr (9, [.int (nI N), .int (nI B), .int (nI D), .ref a1, .ref a2, .ref a3, .ref a4, .ref a5, .ref a6])), (a1, .inl (G 0, 10, .inl f1))] sz)) 0 0 (va_A [(h0, .inr (10, [.ref rd, .ref wy, .ref tr, .ref im, .ref kp, .ref od, .ref ch, .ref cr, .ref le, .ref mk, .ref tl, .ref sh, .int tf, .int rf])), (wy, .inr (9, [.int (nI N), .int (nI B), .int (nI D), .ref a1, .ref a2, .ref a3, .ref a4, .ref a5, .ref a6])), (a1, .inl (G 0, 10, .inl f1))] sz) := by
  refine Met.ofW (cc := cX10_noise) (maxL := 3) (ret := (some .int)) (by decide) rfl ?_
  intro p e s m args below meth c s₁ Bd hml hv
  obtain ⟨rfl, hsz, hP, hK, hD0⟩ := hv
  have hx := Bd.exec
  have hb := Bd.bytes
  have hr := Bd.returns
  have hg : ∀ w ∈ GT, w.before ([.ref h0, .int i, .int v] : List Value).toArray s = true := fun w h => atoms_spec (ws := Cond.code yX10_noise cX10_noise 3 (some .int) :: GT) Bd.pre w (List.mem_cons_of_mem _ h)
  have hown : s.vm.findClass RX10 = some m.cls := findClass_of_methodNamed Bd.named
  have hlocks := Bd.notSynchronized
  subst hsz
  have hD := hD0.self (sz := s.heap.size)
  generalize hAe : va_A [(h0, .inr (10, [.ref rd, .ref wy, .ref tr, .ref im, .ref kp, .ref od, .ref ch, .ref cr, .ref le, .ref mk, .ref tl, .ref sh, .int tf, .int rf])), (wy, .inr (9, [.int (nI N), .int (nI B), .int (nI D), .ref a1, .ref a2, .ref a3, .ref a4, .ref a5, .ref a6])), (a1, .inl (G 0, 10, .inl f1))] s.heap.size = A at hD ⊢
  have hA : ∀ q : Nat, s.heap.size ≤ q → A q := fun q h => by rw [← hAe]; exact Or.inr h
  have hS : va_S A s.heap s.heap [] := va_S.rf
  have hl := lv_entry ([.ref h0, .int i, .int v]) (n := 3) (Nat.le_of_ble_eq_true rfl)
  rw [lg_entry_eq]
  generalize (lg_sl ([.ref h0, .int i, .int v]) ++ List.replicate (3 - (lg_sl ([.ref h0, .int i, .int v])).length) Slot.unset).toArray = ls at hl ⊢
  have hl : lv_has ls 3 [(0, .ref h0), (1, .int i), (2, .int v)] := hl
  refine lv_aload_n hx hb dX10_noise_0 rfl (lv_at hl 0 rfl) ?_
  refine va_get (D := (dC, dI)) (ci := 10) (v := .ref wy) (C := RX10) (T := TX10) (N := 14) hx hb hg inG10 hown hK.1 hP 0 rfl rfl 1 (by decide) (hg _ wt_303) (fun _ h9 => h9) rfl dX10_noise_1 ?_
  refine lv_iload_n hx hb dX10_noise_4 rfl (lv_at hl 1 rfl) ?_
  have hPc := hP.sub (ws' := [(wy, .inr (9, [.int (nI N), .int (nI B), .int (nI D), .ref a1, .ref a2, .ref a3, .ref a4, .ref a5, .ref a6]))]) [1] rfl
  have tn2633_ : nIT N := fun _ => nI_toInt (by omega)
  have tn2634_ : nIT B := fun _ => nI_toInt (by omega)
  have tn2635_ : nIT D := fun _ => nI_toInt (by omega)
  refine va_calli (va_runVN (As := [.int i]) (rest := []) ⟨hx, hb, hml, hown, hg⟩ (c_X9_hasStretch l dC dI G _ wy a1 a2 a3 a4 a5 a6 N B D i hN_N hB_B hD_D) (kwVN hg hK mfX9_hasStretch wn_527 ⟨Nat.le_of_ble_eq_true rfl, Nat.le_of_ble_eq_true rfl⟩) (preVR hK hPc (ci := 9) rfl rfl) rfl rfl hl.1 rfl (lv_room (Nat.le_of_ble_eq_true rfl)) dX10_noise_5 ⟨Nat.le_of_ble_eq_true rfl, Nat.le_of_ble_eq_true rfl⟩) hS (fun q h1 h2 => absurd h2 (Nat.not_le.mpr h1)) (fun q h => hA q (Nat.le_trans hS.1 h)) (fun r1 ur1 t H1 locs ht hvm w2 hB hz1 hk1 hS => ?_)
  have hP := keepR hP hk1
  obtain ⟨w2, w2x⟩ := w2
  try simp only [l_ii, show (0 : Int32).toInt = 0 from by decide] at w2
  try rw [show (nI (N)).toInt = ((N : Nat) : Int) from tn2633_ ()] at w2
  subst w2
  refine lv_if_eq (tgt := 26) hx hb dX10_noise_8 (by decide) (fun c3 => ?_) (fun c3 => ?_)
  · skip
    have b4 := if10_n c3
    refine lv_iconst (v := (-1)) hx hb dX10_noise_26 (by decide) ?_
    have hpost : ((-1) : Int32) = if ((0 ≤ i.toInt ∧ i.toInt < ((N : Nat) : Int)) ∧ 0 ≤ v.toInt ∧ v.toInt ≤ 9) then f1 i.toNatClampNeg else -1 := by
      have t_b4 := b4
      have t_n0 : (nI N).toInt = (N : Int) := tn2633_ ()
      have t_n1 : (nI B).toInt = (B : Int) := tn2634_ ()
      have t_n2 : (nI D).toInt = (D : Int) := tn2635_ ()
      have z0 : (0 : Int32).toInt = 0 := qI_0
      have z1 : (1 : Int32).toInt = 1 := qI_1
      have z2 : (2 : Int32).toInt = 2 := qI_2
      have z3 : (3 : Int32).toInt = 3 := qI_3
      have z5 : (5 : Int32).toInt = 5 := qI_5
      have z9 : (9 : Int32).toInt = 9 := qI_9
      have z20 : (20 : Int32).toInt = 20 := qI_20
      have z4 : (-4 : Int32).toInt = -4 := (by decide)
      have z10 : (10 : Int32).toInt = 10 := qI_10
      rw [if_neg (by omega)]
    have hP9 := hP.sub (ws' := [(h0, .inr (10, [.ref rd, .ref wy, .ref tr, .ref im, .ref kp, .ref od, .ref ch, .ref cr, .ref le, .ref mk, .ref tl, .ref sh, .int tf, .int rf])), (wy, .inr (9, [.int (nI N), .int (nI B), .int (nI D), .ref a1, .ref a2, .ref a3, .ref a4, .ref a5, .ref a6])), (a1, .inl (G 0, 10, .inl f1))]) [0, 1, 2] rfl
    have hD9 := hD.sub (ws' := [(h0, .inr (10, [.ref rd, .ref wy, .ref tr, .ref im, .ref kp, .ref od, .ref ch, .ref cr, .ref le, .ref mk, .ref tl, .ref sh, .int tf, .int rf])), (wy, .inr (9, [.int (nI N), .int (nI B), .int (nI D), .ref a1, .ref a2, .ref a3, .ref a4, .ref a5, .ref a6])), (a1, .inl (G 0, 10, .inl f1))]) [0, 1, 2] (by decide) rfl
    refine W.widen (k := 0) (n := 0) (Nat.le_of_ble_eq_true rfl) (Nat.le_of_ble_eq_true rfl) ?_
    exact W.iret (v := (-1)) hx hb hr (fun t ht hW => ⟨⟨(-1), f1, rfl, ⟨hpost, (by have t_b4 := b4; have t_n0 : (nI N).toInt = (N : Int) := tn2633_ (); have t_n1 : (nI B).toInt = (B : Int) := tn2634_ (); have t_n2 : (nI D).toInt = (D : Int) := tn2635_ (); have z0 : (0 : Int32).toInt = 0 := qI_0; have z1 : (1 : Int32).toInt = 1 := qI_1; have z2 : (2 : Int32).toInt = 2 := qI_2; have z3 : (3 : Int32).toInt = 3 := qI_3; have z5 : (5 : Int32).toInt = 5 := qI_5; have z9 : (9 : Int32).toInt = 9 := qI_9; have z20 : (20 : Int32).toInt = 20 := qI_20; have z4 : (-4 : Int32).toInt = -4 := (by decide); have z10 : (10 : Int32).toInt = 10 := qI_10; rw [if_neg (by omega)])⟩, ⟨by rw [ht]; exact hP9, hD9⟩⟩, hS.F ht⟩) hS.2.2 dX10_noise_27
  · skip
    have b5 := if10_p c3
    obtain ⟨ii, hii, rfl⟩ : ∃ j : Nat, j < 10 ∧ i = nI j := by
      have t_b5 := b5
      have t_n0 : (nI N).toInt = (N : Int) := tn2633_ ()
      have t_n1 : (nI B).toInt = (B : Int) := tn2634_ ()
      have t_n2 : (nI D).toInt = (D : Int) := tn2635_ ()
      exact i32_nat (by omega) (by omega)
    refine lv_aload_n hx hb dX10_noise_11 rfl (lv_at hl 0 rfl) ?_
    refine va_get (D := (dC, dI)) (ci := 10) (v := .ref wy) (C := RX10) (T := TX10) (N := 14) hx hb hg inG10 hown hK.1 hP 0 rfl rfl 1 (by decide) (hg _ wt_303) (fun _ h9 => h9) rfl dX10_noise_12 ?_
    refine va_getN (D := (dC, dI)) (ci := 9) (v := .ref a1) (C := RX9) (T := TX9) (N := 9) hx hb hg inG9 hown hK.1 hP 1 rfl rfl 3 (by decide) (hK.nest wn_74) (fun _ h9 => h9) rfl dX10_noise_15 ?_
    refine lv_iload_n hx hb dX10_noise_18 rfl (lv_at hl 1 rfl) ?_
    refine lv_iload_n hx hb dX10_noise_19 rfl (lv_at hl 2 rfl) ?_
    have hPc := hP.sub (ws' := [(a1, .inl (G 0, 10, .inl f1))]) [2] rfl
    have hDc := hD.sub (ws' := [(a1, .inl (G 0, 10, .inl f1))]) [2] (by decide) rfl
    have hFc := va_free (wc := [(a1, .inl (G 0, 10, .inl f1))]) hD hS hA [2] rfl
    have tn2636_ : nIT ii := fun _ => nI_toInt (by first | omega | (have t_b5 := b5; have t_hii := hii; omega))
    refine va_calli (va_runS (As := [.ref a1, .int (nI ii), .int v]) (rest := []) ⟨hx, hb, hml, hown, hg⟩ (c_X10_changeE l dC dI G _ a1 ii v f1 (by first | omega | (have t_b5 := b5; have t_hii := hii; have t_n0 : (nI N).toInt = (N : Int) := tn2633_ (); have t_n1 : (nI B).toInt = (B : Int) := tn2634_ (); have t_n2 : (nI D).toInt = (D : Int) := tn2635_ (); have t_n3 : (nI ii).toInt = (ii : Int) := tn2636_ (); omega))) (kwS hg mfX10_change wt_547 ⟨Nat.le_of_ble_eq_true rfl, Nat.le_of_ble_eq_true rfl⟩) (preSW hK hPc hDc) rfl rfl hl.1 rfl (lv_room (Nat.le_of_ble_eq_true rfl)) dX10_noise_20 ⟨Nat.le_of_ble_eq_true rfl, Nat.le_of_ble_eq_true rfl⟩) hS (fun q _ h => hFc q h) hFc (fun r6 ur6 t H1 locs ht hvm w7 hB hz1 hk1 hS => ?_)
    obtain ⟨u8, rfl⟩ : ∃ z, z = ur6 := ⟨_, rfl⟩
    obtain ⟨hP1, hD1⟩ := hB
    rw [ht] at hP1
    obtain ⟨hP, hD⟩ := va_join (wr := [(h0, .inr (10, [.ref rd, .ref wy, .ref tr, .ref im, .ref kp, .ref od, .ref ch, .ref cr, .ref le, .ref mk, .ref tl, .ref sh, .int tf, .int rf])), (wy, .inr (9, [.int (nI N), .int (nI B), .int (nI D), .ref a1, .ref a2, .ref a3, .ref a4, .ref a5, .ref a6]))]) (w1 := [(a1, .inl (G 0, 10, .inl u8))]) hP hD [2] [0, 1] rfl rfl (by decide) (by decide) hk1 hFc hP1 hD1
    generalize H1 = H at hP hS ⊢
    have hP : va_P (dC, dI) vwCl [(h0, .inr (10, [.ref rd, .ref wy, .ref tr, .ref im, .ref kp, .ref od, .ref ch, .ref cr, .ref le, .ref mk, .ref tl, .ref sh, .int tf, .int rf])), (wy, .inr (9, [.int (nI N), .int (nI B), .int (nI D), .ref a1, .ref a2, .ref a3, .ref a4, .ref a5, .ref a6])), (a1, .inl (G 0, 10, .inl u8))] H := hP
    have hD : va_D A [(h0, .inr (10, [.ref rd, .ref wy, .ref tr, .ref im, .ref kp, .ref od, .ref ch, .ref cr, .ref le, .ref mk, .ref tl, .ref sh, .int tf, .int rf])), (wy, .inr (9, [.int (nI N), .int (nI B), .int (nI D), .ref a1, .ref a2, .ref a3, .ref a4, .ref a5, .ref a6])), (a1, .inl (G 0, 10, .inl u8))] := hD
    obtain ⟨w7, w7x⟩ := w7
    refine lv_goto (tgt := 27) hx hb dX10_noise_23 (by decide) ?_
    have hpost : (r6 : Int32) = if ((0 ≤ (nI ii).toInt ∧ (nI ii).toInt < ((N : Nat) : Int)) ∧ 0 ≤ v.toInt ∧ v.toInt ≤ 9) then f1 (nI ii).toNatClampNeg else -1 := by
      have t_b5 := b5
      have t_hii := hii
      have t_n0 : (nI N).toInt = (N : Int) := tn2633_ ()
      have t_n1 : (nI B).toInt = (B : Int) := tn2634_ ()
      have t_n2 : (nI D).toInt = (D : Int) := tn2635_ ()
      have t_n3 : (nI ii).toInt = (ii : Int) := tn2636_ ()
      have z0 : (0 : Int32).toInt = 0 := qI_0
      have z1 : (1 : Int32).toInt = 1 := qI_1
      have z2 : (2 : Int32).toInt = 2 := qI_2
      have z3 : (3 : Int32).toInt = 3 := qI_3
      have z5 : (5 : Int32).toInt = 5 := qI_5
      have z9 : (9 : Int32).toInt = 9 := qI_9
      have z20 : (20 : Int32).toInt = 20 := qI_20
      have z4 : (-4 : Int32).toInt = -4 := (by decide)
      have z10 : (10 : Int32).toInt = 10 := qI_10
      have q9 := w7
      by_cases h8 : 0 ≤ v.toInt ∧ v.toInt ≤ 9
      · rw [if_pos h8] at q9; rw [if_pos ⟨by omega, h8⟩, nI_clamp (by omega)]; exact q9
      · rw [if_neg h8] at q9; rw [if_neg (fun h9 => h8 h9.2)]; exact q9
    have hP9 := hP.sub (ws' := [(h0, .inr (10, [.ref rd, .ref wy, .ref tr, .ref im, .ref kp, .ref od, .ref ch, .ref cr, .ref le, .ref mk, .ref tl, .ref sh, .int tf, .int rf])), (wy, .inr (9, [.int (nI N), .int (nI B), .int (nI D), .ref a1, .ref a2, .ref a3, .ref a4, .ref a5, .ref a6])), (a1, .inl (G 0, 10, .inl u8))]) [0, 1, 2] rfl
    have hD9 := hD.sub (ws' := [(h0, .inr (10, [.ref rd, .ref wy, .ref tr, .ref im, .ref kp, .ref od, .ref ch, .ref cr, .ref le, .ref mk, .ref tl, .ref sh, .int tf, .int rf])), (wy, .inr (9, [.int (nI N), .int (nI B), .int (nI D), .ref a1, .ref a2, .ref a3, .ref a4, .ref a5, .ref a6])), (a1, .inl (G 0, 10, .inl u8))]) [0, 1, 2] (by decide) rfl
    refine W.widen (k := 0) (n := 0) (Nat.le_of_ble_eq_true rfl) (Nat.le_of_ble_eq_true rfl) ?_
    exact W.iret (v := r6) hx hb hr (fun t ht hW => ⟨⟨r6, u8, rfl, ⟨hpost, (by have t_b5 := b5; have t_hii := hii; have t_n0 : (nI N).toInt = (N : Int) := tn2633_ (); have t_n1 : (nI B).toInt = (B : Int) := tn2634_ (); have t_n2 : (nI D).toInt = (D : Int) := tn2635_ (); have t_n3 : (nI ii).toInt = (ii : Int) := tn2636_ (); have z0 : (0 : Int32).toInt = 0 := qI_0; have z1 : (1 : Int32).toInt = 1 := qI_1; have z2 : (2 : Int32).toInt = 2 := qI_2; have z3 : (3 : Int32).toInt = 3 := qI_3; have z5 : (5 : Int32).toInt = 5 := qI_5; have z9 : (9 : Int32).toInt = 9 := qI_9; have z20 : (20 : Int32).toInt = 20 := qI_20; have z4 : (-4 : Int32).toInt = -4 := (by decide); have z10 : (10 : Int32).toInt = 10 := qI_10; have q9 := w7x; by_cases h8 : 0 ≤ v.toInt ∧ v.toInt ≤ 9; (rw [if_pos h8] at q9; rw [if_pos ⟨by omega, h8⟩, nI_clamp (by omega)]; exact q9); (rw [if_neg h8] at q9; rw [if_neg (fun h9 => h8 h9.2)]; exact q9))⟩, ⟨by rw [ht]; exact hP9, hD9⟩⟩, hS.F ht⟩) hS.2.2 dX10_noise_27

set_option maxHeartbeats 1000000 in
set_option maxRecDepth 100000 in
theorem c_X10_coldE (l : Launch) (dC : Nat → ClassId) (dI : Nat → Nat → Nat) (G : Nat → ClassId) (sz : Nat) (h0 rd wy tr im kp od ch cr le mk tl sh a1 a2 a3 a4 a5 a6 N B D : Nat) (tf rf i v : Int32) (f2 : Nat → Int32) (hN_N : N ≤ 10) (hB_B : B ≤ 6) (hD_D : 1 ≤ D ∧ D ≤ 9) : Met l yX10_cold (Cond.code yX10_cold cX10_cold 3 (some .int) :: GT) ({ frames := 1, cells := 0, slots := 0, locals := 23 } : Room) (PcW [.ref h0, .int i, .int v] dC dI G [(h0, .inr (10, [.ref rd, .ref wy, .ref tr, .ref im, .ref kp, .ref od, .ref ch, .ref cr, .ref le, .ref mk, .ref tl, .ref sh, .int tf, .int rf])), (wy, .inr (9, [.int (nI N), .int (nI B), .int (nI D), .ref a1, .ref a2, .ref a3, .ref a4, .ref a5, .ref a6])), (a2, .inl (G 0, 10, .inl f2))] sz) (va_Qi (fun (r : Int32) (u : (Nat → Int32)) => match u with | u0 => (r = if ((0 ≤ i.toInt ∧ i.toInt < ((N : Nat) : Int)) ∧ 0 ≤ v.toInt ∧ v.toInt ≤ 9) then f2 i.toNatClampNeg else -1) ∧ u0 = (if ((0 ≤ i.toInt ∧ i.toInt < ((N : Nat) : Int)) ∧ 0 ≤ v.toInt ∧ v.toInt ≤ 9) then upd f2 i.toNatClampNeg v else f2)) (fun (u : (Nat → Int32)) (t : State) => match u with | u0 => va_P (dC, dI) vwCl [(h0, .inr (10, [.ref rd, .ref wy, .ref tr, .ref im, .ref kp, .ref od, .ref ch, .ref cr, .ref le, .ref mk, .ref tl, .ref sh, .int tf, .int rf])), (wy, .inr (9, [.int (nI N), .int (nI B), .int (nI D), .ref a1, .ref a2, .ref a3, .ref a4, .ref a5, .ref a6])), (a2, .inl (G 0, 10, .inl u0))] t.heap ∧ va_D (va_A [(h0, .inr (10, [.ref rd, .ref wy, .ref tr, .ref im, .ref kp, .ref od, .ref ch, .ref cr, .ref le, .ref mk, .ref tl, .ref sh, .int tf, .int rf])), (wy, .inr (9, [.int (nI N), .int (nI B), .int (nI D), .ref a1, .ref a2, .ref a3, .ref a4, .ref a5, .ref a6])), (a2, .inl (G 0, 10, .inl f2))] sz) [(h0, .inr (10, [.ref rd, .ref wy, .ref tr, .ref im, .ref kp, .ref od, .ref ch, .ref cr, .ref le, .ref mk, .ref tl, .ref sh, .int tf, .int rf])), (wy, .inr (9, [.int (nI N), .int (nI B), .int (nI D), .ref a1, .ref a2, .ref a3, .ref a4, .ref a5, .ref a6])), (a2, .inl (G 0, 10, .inl u0))]) (va_A [(h0, .inr (10, [.ref rd, .ref wy, .ref tr, .ref im, .ref kp, .ref od, .ref ch, .ref cr, .ref le, .ref mk, .ref tl, .ref sh, .int tf, .int rf])), (wy, .inr (9, [.int (nI N), .int (nI B), .int (nI D), .ref a1, .ref a2, .ref a3, .ref a4, .ref a5, .ref a6])), (a2, .inl (G 0, 10, .inl f2))] sz)) 0 0 (va_A [(h0, .inr (10, [.ref rd, .ref wy, .ref tr, .ref im, .ref kp, .ref od, .ref ch, .ref cr, .ref le, .ref mk, .ref tl, .ref sh, .int tf, .int rf])), (wy, .inr (9, [.int (nI N), .int (nI B), .int (nI D), .ref a1, .ref a2, .ref a3, .ref a4, .ref a5, .ref a6])), (a2, .inl (G 0, 10, .inl f2))] sz) := by
  refine Met.ofW (cc := cX10_cold) (maxL := 3) (ret := (some .int)) (by decide) rfl ?_
  intro p e s m args below meth c s₁ Bd hml hv
  obtain ⟨rfl, hsz, hP, hK, hD0⟩ := hv
  have hx := Bd.exec
  have hb := Bd.bytes
  have hr := Bd.returns
  have hg : ∀ w ∈ GT, w.before ([.ref h0, .int i, .int v] : List Value).toArray s = true := fun w h => atoms_spec (ws := Cond.code yX10_cold cX10_cold 3 (some .int) :: GT) Bd.pre w (List.mem_cons_of_mem _ h)
  have hown : s.vm.findClass RX10 = some m.cls := findClass_of_methodNamed Bd.named
  have hlocks := Bd.notSynchronized
  subst hsz
  have hD := hD0.self (sz := s.heap.size)
  generalize hAe : va_A [(h0, .inr (10, [.ref rd, .ref wy, .ref tr, .ref im, .ref kp, .ref od, .ref ch, .ref cr, .ref le, .ref mk, .ref tl, .ref sh, .int tf, .int rf])), (wy, .inr (9, [.int (nI N), .int (nI B), .int (nI D), .ref a1, .ref a2, .ref a3, .ref a4, .ref a5, .ref a6])), (a2, .inl (G 0, 10, .inl f2))] s.heap.size = A at hD ⊢
  have hA : ∀ q : Nat, s.heap.size ≤ q → A q := fun q h => by rw [← hAe]; exact Or.inr h
  have hS : va_S A s.heap s.heap [] := va_S.rf
  have hl := lv_entry ([.ref h0, .int i, .int v]) (n := 3) (Nat.le_of_ble_eq_true rfl)
  rw [lg_entry_eq]
  generalize (lg_sl ([.ref h0, .int i, .int v]) ++ List.replicate (3 - (lg_sl ([.ref h0, .int i, .int v])).length) Slot.unset).toArray = ls at hl ⊢
  have hl : lv_has ls 3 [(0, .ref h0), (1, .int i), (2, .int v)] := hl
  refine lv_aload_n hx hb dX10_cold_0 rfl (lv_at hl 0 rfl) ?_
  refine va_get (D := (dC, dI)) (ci := 10) (v := .ref wy) (C := RX10) (T := TX10) (N := 14) hx hb hg inG10 hown hK.1 hP 0 rfl rfl 1 (by decide) (hg _ wt_303) (fun _ h9 => h9) rfl dX10_cold_1 ?_
  refine lv_iload_n hx hb dX10_cold_4 rfl (lv_at hl 1 rfl) ?_
  have hPc := hP.sub (ws' := [(wy, .inr (9, [.int (nI N), .int (nI B), .int (nI D), .ref a1, .ref a2, .ref a3, .ref a4, .ref a5, .ref a6]))]) [1] rfl
  have tn2637_ : nIT N := fun _ => nI_toInt (by omega)
  have tn2638_ : nIT B := fun _ => nI_toInt (by omega)
  have tn2639_ : nIT D := fun _ => nI_toInt (by omega)
  refine va_calli (va_runVN (As := [.int i]) (rest := []) ⟨hx, hb, hml, hown, hg⟩ (c_X9_hasStretch l dC dI G _ wy a1 a2 a3 a4 a5 a6 N B D i hN_N hB_B hD_D) (kwVN hg hK mfX9_hasStretch wn_527 ⟨Nat.le_of_ble_eq_true rfl, Nat.le_of_ble_eq_true rfl⟩) (preVR hK hPc (ci := 9) rfl rfl) rfl rfl hl.1 rfl (lv_room (Nat.le_of_ble_eq_true rfl)) dX10_cold_5 ⟨Nat.le_of_ble_eq_true rfl, Nat.le_of_ble_eq_true rfl⟩) hS (fun q h1 h2 => absurd h2 (Nat.not_le.mpr h1)) (fun q h => hA q (Nat.le_trans hS.1 h)) (fun r1 ur1 t H1 locs ht hvm w2 hB hz1 hk1 hS => ?_)
  have hP := keepR hP hk1
  obtain ⟨w2, w2x⟩ := w2
  try simp only [l_ii, show (0 : Int32).toInt = 0 from by decide] at w2
  try rw [show (nI (N)).toInt = ((N : Nat) : Int) from tn2637_ ()] at w2
  subst w2
  refine lv_if_eq (tgt := 26) hx hb dX10_cold_8 (by decide) (fun c3 => ?_) (fun c3 => ?_)
  · skip
    have b4 := if10_n c3
    refine lv_iconst (v := (-1)) hx hb dX10_cold_26 (by decide) ?_
    have hpost : ((-1) : Int32) = if ((0 ≤ i.toInt ∧ i.toInt < ((N : Nat) : Int)) ∧ 0 ≤ v.toInt ∧ v.toInt ≤ 9) then f2 i.toNatClampNeg else -1 := by
      have t_b4 := b4
      have t_n0 : (nI N).toInt = (N : Int) := tn2637_ ()
      have t_n1 : (nI B).toInt = (B : Int) := tn2638_ ()
      have t_n2 : (nI D).toInt = (D : Int) := tn2639_ ()
      have z0 : (0 : Int32).toInt = 0 := qI_0
      have z1 : (1 : Int32).toInt = 1 := qI_1
      have z2 : (2 : Int32).toInt = 2 := qI_2
      have z3 : (3 : Int32).toInt = 3 := qI_3
      have z5 : (5 : Int32).toInt = 5 := qI_5
      have z9 : (9 : Int32).toInt = 9 := qI_9
      have z20 : (20 : Int32).toInt = 20 := qI_20
      have z4 : (-4 : Int32).toInt = -4 := (by decide)
      have z10 : (10 : Int32).toInt = 10 := qI_10
      rw [if_neg (by omega)]
    have hP9 := hP.sub (ws' := [(h0, .inr (10, [.ref rd, .ref wy, .ref tr, .ref im, .ref kp, .ref od, .ref ch, .ref cr, .ref le, .ref mk, .ref tl, .ref sh, .int tf, .int rf])), (wy, .inr (9, [.int (nI N), .int (nI B), .int (nI D), .ref a1, .ref a2, .ref a3, .ref a4, .ref a5, .ref a6])), (a2, .inl (G 0, 10, .inl f2))]) [0, 1, 2] rfl
    have hD9 := hD.sub (ws' := [(h0, .inr (10, [.ref rd, .ref wy, .ref tr, .ref im, .ref kp, .ref od, .ref ch, .ref cr, .ref le, .ref mk, .ref tl, .ref sh, .int tf, .int rf])), (wy, .inr (9, [.int (nI N), .int (nI B), .int (nI D), .ref a1, .ref a2, .ref a3, .ref a4, .ref a5, .ref a6])), (a2, .inl (G 0, 10, .inl f2))]) [0, 1, 2] (by decide) rfl
    refine W.widen (k := 0) (n := 0) (Nat.le_of_ble_eq_true rfl) (Nat.le_of_ble_eq_true rfl) ?_
    exact W.iret (v := (-1)) hx hb hr (fun t ht hW => ⟨⟨(-1), f2, rfl, ⟨hpost, (by have t_b4 := b4; have t_n0 : (nI N).toInt = (N : Int) := tn2637_ (); have t_n1 : (nI B).toInt = (B : Int) := tn2638_ (); have t_n2 : (nI D).toInt = (D : Int) := tn2639_ (); have z0 : (0 : Int32).toInt = 0 := qI_0; have z1 : (1 : Int32).toInt = 1 := qI_1; have z2 : (2 : Int32).toInt = 2 := qI_2; have z3 : (3 : Int32).toInt = 3 := qI_3; have z5 : (5 : Int32).toInt = 5 := qI_5; have z9 : (9 : Int32).toInt = 9 := qI_9; have z20 : (20 : Int32).toInt = 20 := qI_20; have z4 : (-4 : Int32).toInt = -4 := (by decide); have z10 : (10 : Int32).toInt = 10 := qI_10; rw [if_neg (by omega)])⟩, ⟨by rw [ht]; exact hP9, hD9⟩⟩, hS.F ht⟩) hS.2.2 dX10_cold_27
  · skip
    have b5 := if10_p c3
    obtain ⟨ii, hii, rfl⟩ : ∃ j : Nat, j < 10 ∧ i = nI j := by
      have t_b5 := b5
      have t_n0 : (nI N).toInt = (N : Int) := tn2637_ ()
      have t_n1 : (nI B).toInt = (B : Int) := tn2638_ ()
      have t_n2 : (nI D).toInt = (D : Int) := tn2639_ ()
      exact i32_nat (by omega) (by omega)
    refine lv_aload_n hx hb dX10_cold_11 rfl (lv_at hl 0 rfl) ?_
    refine va_get (D := (dC, dI)) (ci := 10) (v := .ref wy) (C := RX10) (T := TX10) (N := 14) hx hb hg inG10 hown hK.1 hP 0 rfl rfl 1 (by decide) (hg _ wt_303) (fun _ h9 => h9) rfl dX10_cold_12 ?_
    refine va_getN (D := (dC, dI)) (ci := 9) (v := .ref a2) (C := RX9) (T := TX9) (N := 9) hx hb hg inG9 hown hK.1 hP 1 rfl rfl 4 (by decide) (hK.nest wn_76) (fun _ h9 => h9) rfl dX10_cold_15 ?_
    refine lv_iload_n hx hb dX10_cold_18 rfl (lv_at hl 1 rfl) ?_
    refine lv_iload_n hx hb dX10_cold_19 rfl (lv_at hl 2 rfl) ?_
    have hPc := hP.sub (ws' := [(a2, .inl (G 0, 10, .inl f2))]) [2] rfl
    have hDc := hD.sub (ws' := [(a2, .inl (G 0, 10, .inl f2))]) [2] (by decide) rfl
    have hFc := va_free (wc := [(a2, .inl (G 0, 10, .inl f2))]) hD hS hA [2] rfl
    have tn2640_ : nIT ii := fun _ => nI_toInt (by first | omega | (have t_b5 := b5; have t_hii := hii; omega))
    refine va_calli (va_runS (As := [.ref a2, .int (nI ii), .int v]) (rest := []) ⟨hx, hb, hml, hown, hg⟩ (c_X10_changeE l dC dI G _ a2 ii v f2 (by first | omega | (have t_b5 := b5; have t_hii := hii; have t_n0 : (nI N).toInt = (N : Int) := tn2637_ (); have t_n1 : (nI B).toInt = (B : Int) := tn2638_ (); have t_n2 : (nI D).toInt = (D : Int) := tn2639_ (); have t_n3 : (nI ii).toInt = (ii : Int) := tn2640_ (); omega))) (kwS hg mfX10_change wt_547 ⟨Nat.le_of_ble_eq_true rfl, Nat.le_of_ble_eq_true rfl⟩) (preSW hK hPc hDc) rfl rfl hl.1 rfl (lv_room (Nat.le_of_ble_eq_true rfl)) dX10_cold_20 ⟨Nat.le_of_ble_eq_true rfl, Nat.le_of_ble_eq_true rfl⟩) hS (fun q _ h => hFc q h) hFc (fun r6 ur6 t H1 locs ht hvm w7 hB hz1 hk1 hS => ?_)
    obtain ⟨u8, rfl⟩ : ∃ z, z = ur6 := ⟨_, rfl⟩
    obtain ⟨hP1, hD1⟩ := hB
    rw [ht] at hP1
    obtain ⟨hP, hD⟩ := va_join (wr := [(h0, .inr (10, [.ref rd, .ref wy, .ref tr, .ref im, .ref kp, .ref od, .ref ch, .ref cr, .ref le, .ref mk, .ref tl, .ref sh, .int tf, .int rf])), (wy, .inr (9, [.int (nI N), .int (nI B), .int (nI D), .ref a1, .ref a2, .ref a3, .ref a4, .ref a5, .ref a6]))]) (w1 := [(a2, .inl (G 0, 10, .inl u8))]) hP hD [2] [0, 1] rfl rfl (by decide) (by decide) hk1 hFc hP1 hD1
    generalize H1 = H at hP hS ⊢
    have hP : va_P (dC, dI) vwCl [(h0, .inr (10, [.ref rd, .ref wy, .ref tr, .ref im, .ref kp, .ref od, .ref ch, .ref cr, .ref le, .ref mk, .ref tl, .ref sh, .int tf, .int rf])), (wy, .inr (9, [.int (nI N), .int (nI B), .int (nI D), .ref a1, .ref a2, .ref a3, .ref a4, .ref a5, .ref a6])), (a2, .inl (G 0, 10, .inl u8))] H := hP
    have hD : va_D A [(h0, .inr (10, [.ref rd, .ref wy, .ref tr, .ref im, .ref kp, .ref od, .ref ch, .ref cr, .ref le, .ref mk, .ref tl, .ref sh, .int tf, .int rf])), (wy, .inr (9, [.int (nI N), .int (nI B), .int (nI D), .ref a1, .ref a2, .ref a3, .ref a4, .ref a5, .ref a6])), (a2, .inl (G 0, 10, .inl u8))] := hD
    obtain ⟨w7, w7x⟩ := w7
    refine lv_goto (tgt := 27) hx hb dX10_cold_23 (by decide) ?_
    have hpost : (r6 : Int32) = if ((0 ≤ (nI ii).toInt ∧ (nI ii).toInt < ((N : Nat) : Int)) ∧ 0 ≤ v.toInt ∧ v.toInt ≤ 9) then f2 (nI ii).toNatClampNeg else -1 := by
      have t_b5 := b5
      have t_hii := hii
      have t_n0 : (nI N).toInt = (N : Int) := tn2637_ ()
      have t_n1 : (nI B).toInt = (B : Int) := tn2638_ ()
      have t_n2 : (nI D).toInt = (D : Int) := tn2639_ ()
      have t_n3 : (nI ii).toInt = (ii : Int) := tn2640_ ()
      have z0 : (0 : Int32).toInt = 0 := qI_0
      have z1 : (1 : Int32).toInt = 1 := qI_1
      have z2 : (2 : Int32).toInt = 2 := qI_2
      have z3 : (3 : Int32).toInt = 3 := qI_3
      have z5 : (5 : Int32).toInt = 5 := qI_5
      have z9 : (9 : Int32).toInt = 9 := qI_9
      have z20 : (20 : Int32).toInt = 20 := qI_20
      have z4 : (-4 : Int32).toInt = -4 := (by decide)
      have z10 : (10 : Int32).toInt = 10 := qI_10
      have q9 := w7
      by_cases h8 : 0 ≤ v.toInt ∧ v.toInt ≤ 9
      · rw [if_pos h8] at q9; rw [if_pos ⟨by omega, h8⟩, nI_clamp (by omega)]; exact q9
      · rw [if_neg h8] at q9; rw [if_neg (fun h9 => h8 h9.2)]; exact q9
    have hP9 := hP.sub (ws' := [(h0, .inr (10, [.ref rd, .ref wy, .ref tr, .ref im, .ref kp, .ref od, .ref ch, .ref cr, .ref le, .ref mk, .ref tl, .ref sh, .int tf, .int rf])), (wy, .inr (9, [.int (nI N), .int (nI B), .int (nI D), .ref a1, .ref a2, .ref a3, .ref a4, .ref a5, .ref a6])), (a2, .inl (G 0, 10, .inl u8))]) [0, 1, 2] rfl
    have hD9 := hD.sub (ws' := [(h0, .inr (10, [.ref rd, .ref wy, .ref tr, .ref im, .ref kp, .ref od, .ref ch, .ref cr, .ref le, .ref mk, .ref tl, .ref sh, .int tf, .int rf])), (wy, .inr (9, [.int (nI N), .int (nI B), .int (nI D), .ref a1, .ref a2, .ref a3, .ref a4, .ref a5, .ref a6])), (a2, .inl (G 0, 10, .inl u8))]) [0, 1, 2] (by decide) rfl
    refine W.widen (k := 0) (n := 0) (Nat.le_of_ble_eq_true rfl) (Nat.le_of_ble_eq_true rfl) ?_
    exact W.iret (v := r6) hx hb hr (fun t ht hW => ⟨⟨r6, u8, rfl, ⟨hpost, (by have t_b5 := b5; have t_hii := hii; have t_n0 : (nI N).toInt = (N : Int) := tn2637_ (); have t_n1 : (nI B).toInt = (B : Int) := tn2638_ (); have t_n2 : (nI D).toInt = (D : Int) := tn2639_ (); have t_n3 : (nI ii).toInt = (ii : Int) := tn2640_ (); have z0 : (0 : Int32).toInt = 0 := qI_0; have z1 : (1 : Int32).toInt = 1 := qI_1; have z2 : (2 : Int32).toInt = 2 := qI_2; have z3 : (3 : Int32).toInt = 3 := qI_3; have z5 : (5 : Int32).toInt = 5 := qI_5; have z9 : (9 : Int32).toInt = 9 := qI_9; have z20 : (20 : Int32).toInt = 20 := qI_20; have z4 : (-4 : Int32).toInt = -4 := (by decide); have z10 : (10 : Int32).toInt = 10 := qI_10; have q9 := w7x; by_cases h8 : 0 ≤ v.toInt ∧ v.toInt ≤ 9; (rw [if_pos h8] at q9; rw [if_pos ⟨by omega, h8⟩, nI_clamp (by omega)]; exact q9); (rw [if_neg h8] at q9; rw [if_neg (fun h9 => h8 h9.2)]; exact q9))⟩, ⟨by rw [ht]; exact hP9, hD9⟩⟩, hS.F ht⟩) hS.2.2 dX10_cold_27

set_option maxHeartbeats 1000000 in
set_option maxRecDepth 100000 in
theorem c_X10_stepE (l : Launch) (dC : Nat → ClassId) (dI : Nat → Nat → Nat) (G : Nat → ClassId) (sz : Nat) (h0 rd wy tr im kp od ch cr le mk tl sh a1 a2 a3 a4 a5 a6 N B D : Nat) (tf rf i v : Int32) (f5 : Nat → Int32) (hN_N : N ≤ 10) (hB_B : B ≤ 6) (hD_D : 1 ≤ D ∧ D ≤ 9) : Met l yX10_step (Cond.code yX10_step cX10_step 3 (some .int) :: GT) ({ frames := 1, cells := 0, slots := 0, locals := 23 } : Room) (PcW [.ref h0, .int i, .int v] dC dI G [(h0, .inr (10, [.ref rd, .ref wy, .ref tr, .ref im, .ref kp, .ref od, .ref ch, .ref cr, .ref le, .ref mk, .ref tl, .ref sh, .int tf, .int rf])), (wy, .inr (9, [.int (nI N), .int (nI B), .int (nI D), .ref a1, .ref a2, .ref a3, .ref a4, .ref a5, .ref a6])), (a5, .inl (G 0, 6, .inl f5))] sz) (va_Qi (fun (r : Int32) (u : (Nat → Int32)) => match u with | u0 => (r = if ((0 ≤ i.toInt ∧ i.toInt < ((B : Nat) : Int)) ∧ 0 ≤ v.toInt ∧ v.toInt ≤ 9) then f5 i.toNatClampNeg else -1) ∧ u0 = (if ((0 ≤ i.toInt ∧ i.toInt < ((B : Nat) : Int)) ∧ 0 ≤ v.toInt ∧ v.toInt ≤ 9) then upd f5 i.toNatClampNeg v else f5)) (fun (u : (Nat → Int32)) (t : State) => match u with | u0 => va_P (dC, dI) vwCl [(h0, .inr (10, [.ref rd, .ref wy, .ref tr, .ref im, .ref kp, .ref od, .ref ch, .ref cr, .ref le, .ref mk, .ref tl, .ref sh, .int tf, .int rf])), (wy, .inr (9, [.int (nI N), .int (nI B), .int (nI D), .ref a1, .ref a2, .ref a3, .ref a4, .ref a5, .ref a6])), (a5, .inl (G 0, 6, .inl u0))] t.heap ∧ va_D (va_A [(h0, .inr (10, [.ref rd, .ref wy, .ref tr, .ref im, .ref kp, .ref od, .ref ch, .ref cr, .ref le, .ref mk, .ref tl, .ref sh, .int tf, .int rf])), (wy, .inr (9, [.int (nI N), .int (nI B), .int (nI D), .ref a1, .ref a2, .ref a3, .ref a4, .ref a5, .ref a6])), (a5, .inl (G 0, 6, .inl f5))] sz) [(h0, .inr (10, [.ref rd, .ref wy, .ref tr, .ref im, .ref kp, .ref od, .ref ch, .ref cr, .ref le, .ref mk, .ref tl, .ref sh, .int tf, .int rf])), (wy, .inr (9, [.int (nI N), .int (nI B), .int (nI D), .ref a1, .ref a2, .ref a3, .ref a4, .ref a5, .ref a6])), (a5, .inl (G 0, 6, .inl u0))]) (va_A [(h0, .inr (10, [.ref rd, .ref wy, .ref tr, .ref im, .ref kp, .ref od, .ref ch, .ref cr, .ref le, .ref mk, .ref tl, .ref sh, .int tf, .int rf])), (wy, .inr (9, [.int (nI N), .int (nI B), .int (nI D), .ref a1, .ref a2, .ref a3, .ref a4, .ref a5, .ref a6])), (a5, .inl (G 0, 6, .inl f5))] sz)) 0 0 (va_A [(h0, .inr (10, [.ref rd, .ref wy, .ref tr, .ref im, .ref kp, .ref od, .ref ch, .ref cr, .ref le, .ref mk, .ref tl, .ref sh, .int tf, .int rf])), (wy, .inr (9, [.int (nI N), .int (nI B), .int (nI D), .ref a1, .ref a2, .ref a3, .ref a4, .ref a5, .ref a6])), (a5, .inl (G 0, 6, .inl f5))] sz) := by
  refine Met.ofW (cc := cX10_step) (maxL := 3) (ret := (some .int)) (by decide) rfl ?_
  intro p e s m args below meth c s₁ Bd hml hv
  obtain ⟨rfl, hsz, hP, hK, hD0⟩ := hv
  have hx := Bd.exec
  have hb := Bd.bytes
  have hr := Bd.returns
  have hg : ∀ w ∈ GT, w.before ([.ref h0, .int i, .int v] : List Value).toArray s = true := fun w h => atoms_spec (ws := Cond.code yX10_step cX10_step 3 (some .int) :: GT) Bd.pre w (List.mem_cons_of_mem _ h)
  have hown : s.vm.findClass RX10 = some m.cls := findClass_of_methodNamed Bd.named
  have hlocks := Bd.notSynchronized
  subst hsz
  have hD := hD0.self (sz := s.heap.size)
  generalize hAe : va_A [(h0, .inr (10, [.ref rd, .ref wy, .ref tr, .ref im, .ref kp, .ref od, .ref ch, .ref cr, .ref le, .ref mk, .ref tl, .ref sh, .int tf, .int rf])), (wy, .inr (9, [.int (nI N), .int (nI B), .int (nI D), .ref a1, .ref a2, .ref a3, .ref a4, .ref a5, .ref a6])), (a5, .inl (G 0, 6, .inl f5))] s.heap.size = A at hD ⊢
  have hA : ∀ q : Nat, s.heap.size ≤ q → A q := fun q h => by rw [← hAe]; exact Or.inr h
  have hS : va_S A s.heap s.heap [] := va_S.rf
  have hl := lv_entry ([.ref h0, .int i, .int v]) (n := 3) (Nat.le_of_ble_eq_true rfl)
  rw [lg_entry_eq]
  generalize (lg_sl ([.ref h0, .int i, .int v]) ++ List.replicate (3 - (lg_sl ([.ref h0, .int i, .int v])).length) Slot.unset).toArray = ls at hl ⊢
  have hl : lv_has ls 3 [(0, .ref h0), (1, .int i), (2, .int v)] := hl
  refine lv_aload_n hx hb dX10_step_0 rfl (lv_at hl 0 rfl) ?_
  refine va_get (D := (dC, dI)) (ci := 10) (v := .ref wy) (C := RX10) (T := TX10) (N := 14) hx hb hg inG10 hown hK.1 hP 0 rfl rfl 1 (by decide) (hg _ wt_303) (fun _ h9 => h9) rfl dX10_step_1 ?_
  refine lv_iload_n hx hb dX10_step_4 rfl (lv_at hl 1 rfl) ?_
  have hPc := hP.sub (ws' := [(wy, .inr (9, [.int (nI N), .int (nI B), .int (nI D), .ref a1, .ref a2, .ref a3, .ref a4, .ref a5, .ref a6]))]) [1] rfl
  have tn2641_ : nIT N := fun _ => nI_toInt (by omega)
  have tn2642_ : nIT B := fun _ => nI_toInt (by omega)
  have tn2643_ : nIT D := fun _ => nI_toInt (by omega)
  refine va_calli (va_runVN (As := [.int i]) (rest := []) ⟨hx, hb, hml, hown, hg⟩ (c_X9_hasBearer l dC dI G _ wy a1 a2 a3 a4 a5 a6 N B D i hN_N hB_B hD_D) (kwVN hg hK mfX9_hasBearer wn_535 ⟨Nat.le_of_ble_eq_true rfl, Nat.le_of_ble_eq_true rfl⟩) (preVR hK hPc (ci := 9) rfl rfl) rfl rfl hl.1 rfl (lv_room (Nat.le_of_ble_eq_true rfl)) dX10_step_5 ⟨Nat.le_of_ble_eq_true rfl, Nat.le_of_ble_eq_true rfl⟩) hS (fun q h1 h2 => absurd h2 (Nat.not_le.mpr h1)) (fun q h => hA q (Nat.le_trans hS.1 h)) (fun r1 ur1 t H1 locs ht hvm w2 hB hz1 hk1 hS => ?_)
  have hP := keepR hP hk1
  obtain ⟨w2, w2x⟩ := w2
  try simp only [l_ii, show (0 : Int32).toInt = 0 from by decide] at w2
  try rw [show (nI (B)).toInt = ((B : Nat) : Int) from tn2642_ ()] at w2
  subst w2
  refine lv_if_eq (tgt := 26) hx hb dX10_step_8 (by decide) (fun c3 => ?_) (fun c3 => ?_)
  · skip
    have b4 := if10_n c3
    refine lv_iconst (v := (-1)) hx hb dX10_step_26 (by decide) ?_
    have hpost : ((-1) : Int32) = if ((0 ≤ i.toInt ∧ i.toInt < ((B : Nat) : Int)) ∧ 0 ≤ v.toInt ∧ v.toInt ≤ 9) then f5 i.toNatClampNeg else -1 := by
      have t_b4 := b4
      have t_n0 : (nI N).toInt = (N : Int) := tn2641_ ()
      have t_n1 : (nI B).toInt = (B : Int) := tn2642_ ()
      have t_n2 : (nI D).toInt = (D : Int) := tn2643_ ()
      have z0 : (0 : Int32).toInt = 0 := qI_0
      have z1 : (1 : Int32).toInt = 1 := qI_1
      have z2 : (2 : Int32).toInt = 2 := qI_2
      have z3 : (3 : Int32).toInt = 3 := qI_3
      have z5 : (5 : Int32).toInt = 5 := qI_5
      have z9 : (9 : Int32).toInt = 9 := qI_9
      have z20 : (20 : Int32).toInt = 20 := qI_20
      have z4 : (-4 : Int32).toInt = -4 := (by decide)
      have z10 : (10 : Int32).toInt = 10 := qI_10
      rw [if_neg (by omega)]
    have hP9 := hP.sub (ws' := [(h0, .inr (10, [.ref rd, .ref wy, .ref tr, .ref im, .ref kp, .ref od, .ref ch, .ref cr, .ref le, .ref mk, .ref tl, .ref sh, .int tf, .int rf])), (wy, .inr (9, [.int (nI N), .int (nI B), .int (nI D), .ref a1, .ref a2, .ref a3, .ref a4, .ref a5, .ref a6])), (a5, .inl (G 0, 6, .inl f5))]) [0, 1, 2] rfl
    have hD9 := hD.sub (ws' := [(h0, .inr (10, [.ref rd, .ref wy, .ref tr, .ref im, .ref kp, .ref od, .ref ch, .ref cr, .ref le, .ref mk, .ref tl, .ref sh, .int tf, .int rf])), (wy, .inr (9, [.int (nI N), .int (nI B), .int (nI D), .ref a1, .ref a2, .ref a3, .ref a4, .ref a5, .ref a6])), (a5, .inl (G 0, 6, .inl f5))]) [0, 1, 2] (by decide) rfl
    refine W.widen (k := 0) (n := 0) (Nat.le_of_ble_eq_true rfl) (Nat.le_of_ble_eq_true rfl) ?_
    exact W.iret (v := (-1)) hx hb hr (fun t ht hW => ⟨⟨(-1), f5, rfl, ⟨hpost, (by have t_b4 := b4; have t_n0 : (nI N).toInt = (N : Int) := tn2641_ (); have t_n1 : (nI B).toInt = (B : Int) := tn2642_ (); have t_n2 : (nI D).toInt = (D : Int) := tn2643_ (); have z0 : (0 : Int32).toInt = 0 := qI_0; have z1 : (1 : Int32).toInt = 1 := qI_1; have z2 : (2 : Int32).toInt = 2 := qI_2; have z3 : (3 : Int32).toInt = 3 := qI_3; have z5 : (5 : Int32).toInt = 5 := qI_5; have z9 : (9 : Int32).toInt = 9 := qI_9; have z20 : (20 : Int32).toInt = 20 := qI_20; have z4 : (-4 : Int32).toInt = -4 := (by decide); have z10 : (10 : Int32).toInt = 10 := qI_10; rw [if_neg (by omega)])⟩, ⟨by rw [ht]; exact hP9, hD9⟩⟩, hS.F ht⟩) hS.2.2 dX10_step_27
  · skip
    have b5 := if10_p c3
    obtain ⟨ii, hii, rfl⟩ : ∃ j : Nat, j < 6 ∧ i = nI j := by
      have t_b5 := b5
      have t_n0 : (nI N).toInt = (N : Int) := tn2641_ ()
      have t_n1 : (nI B).toInt = (B : Int) := tn2642_ ()
      have t_n2 : (nI D).toInt = (D : Int) := tn2643_ ()
      exact i32_nat (by omega) (by omega)
    refine lv_aload_n hx hb dX10_step_11 rfl (lv_at hl 0 rfl) ?_
    refine va_get (D := (dC, dI)) (ci := 10) (v := .ref wy) (C := RX10) (T := TX10) (N := 14) hx hb hg inG10 hown hK.1 hP 0 rfl rfl 1 (by decide) (hg _ wt_303) (fun _ h9 => h9) rfl dX10_step_12 ?_
    refine va_getN (D := (dC, dI)) (ci := 9) (v := .ref a5) (C := RX9) (T := TX9) (N := 9) hx hb hg inG9 hown hK.1 hP 1 rfl rfl 7 (by decide) (hK.nest wn_83) (fun _ h9 => h9) rfl dX10_step_15 ?_
    refine lv_iload_n hx hb dX10_step_18 rfl (lv_at hl 1 rfl) ?_
    refine lv_iload_n hx hb dX10_step_19 rfl (lv_at hl 2 rfl) ?_
    have hPc := hP.sub (ws' := [(a5, .inl (G 0, 6, .inl f5))]) [2] rfl
    have hDc := hD.sub (ws' := [(a5, .inl (G 0, 6, .inl f5))]) [2] (by decide) rfl
    have hFc := va_free (wc := [(a5, .inl (G 0, 6, .inl f5))]) hD hS hA [2] rfl
    have tn2644_ : nIT ii := fun _ => nI_toInt (by first | omega | (have t_b5 := b5; have t_hii := hii; omega))
    refine va_calli (va_runS (As := [.ref a5, .int (nI ii), .int v]) (rest := []) ⟨hx, hb, hml, hown, hg⟩ (c_X10_change6E l dC dI G _ a5 ii v f5 (by first | omega | (have t_b5 := b5; have t_hii := hii; have t_n0 : (nI N).toInt = (N : Int) := tn2641_ (); have t_n1 : (nI B).toInt = (B : Int) := tn2642_ (); have t_n2 : (nI D).toInt = (D : Int) := tn2643_ (); have t_n3 : (nI ii).toInt = (ii : Int) := tn2644_ (); omega))) (kwS hg mfX10_change wt_547 ⟨Nat.le_of_ble_eq_true rfl, Nat.le_of_ble_eq_true rfl⟩) (preSW hK hPc hDc) rfl rfl hl.1 rfl (lv_room (Nat.le_of_ble_eq_true rfl)) dX10_step_20 ⟨Nat.le_of_ble_eq_true rfl, Nat.le_of_ble_eq_true rfl⟩) hS (fun q _ h => hFc q h) hFc (fun r6 ur6 t H1 locs ht hvm w7 hB hz1 hk1 hS => ?_)
    obtain ⟨u8, rfl⟩ : ∃ z, z = ur6 := ⟨_, rfl⟩
    obtain ⟨hP1, hD1⟩ := hB
    rw [ht] at hP1
    obtain ⟨hP, hD⟩ := va_join (wr := [(h0, .inr (10, [.ref rd, .ref wy, .ref tr, .ref im, .ref kp, .ref od, .ref ch, .ref cr, .ref le, .ref mk, .ref tl, .ref sh, .int tf, .int rf])), (wy, .inr (9, [.int (nI N), .int (nI B), .int (nI D), .ref a1, .ref a2, .ref a3, .ref a4, .ref a5, .ref a6]))]) (w1 := [(a5, .inl (G 0, 6, .inl u8))]) hP hD [2] [0, 1] rfl rfl (by decide) (by decide) hk1 hFc hP1 hD1
    generalize H1 = H at hP hS ⊢
    have hP : va_P (dC, dI) vwCl [(h0, .inr (10, [.ref rd, .ref wy, .ref tr, .ref im, .ref kp, .ref od, .ref ch, .ref cr, .ref le, .ref mk, .ref tl, .ref sh, .int tf, .int rf])), (wy, .inr (9, [.int (nI N), .int (nI B), .int (nI D), .ref a1, .ref a2, .ref a3, .ref a4, .ref a5, .ref a6])), (a5, .inl (G 0, 6, .inl u8))] H := hP
    have hD : va_D A [(h0, .inr (10, [.ref rd, .ref wy, .ref tr, .ref im, .ref kp, .ref od, .ref ch, .ref cr, .ref le, .ref mk, .ref tl, .ref sh, .int tf, .int rf])), (wy, .inr (9, [.int (nI N), .int (nI B), .int (nI D), .ref a1, .ref a2, .ref a3, .ref a4, .ref a5, .ref a6])), (a5, .inl (G 0, 6, .inl u8))] := hD
    obtain ⟨w7, w7x⟩ := w7
    refine lv_goto (tgt := 27) hx hb dX10_step_23 (by decide) ?_
    have hpost : (r6 : Int32) = if ((0 ≤ (nI ii).toInt ∧ (nI ii).toInt < ((B : Nat) : Int)) ∧ 0 ≤ v.toInt ∧ v.toInt ≤ 9) then f5 (nI ii).toNatClampNeg else -1 := by
      have t_b5 := b5
      have t_hii := hii
      have t_n0 : (nI N).toInt = (N : Int) := tn2641_ ()
      have t_n1 : (nI B).toInt = (B : Int) := tn2642_ ()
      have t_n2 : (nI D).toInt = (D : Int) := tn2643_ ()
      have t_n3 : (nI ii).toInt = (ii : Int) := tn2644_ ()
      have z0 : (0 : Int32).toInt = 0 := qI_0
      have z1 : (1 : Int32).toInt = 1 := qI_1
      have z2 : (2 : Int32).toInt = 2 := qI_2
      have z3 : (3 : Int32).toInt = 3 := qI_3
      have z5 : (5 : Int32).toInt = 5 := qI_5
      have z9 : (9 : Int32).toInt = 9 := qI_9
      have z20 : (20 : Int32).toInt = 20 := qI_20
      have z4 : (-4 : Int32).toInt = -4 := (by decide)
      have z10 : (10 : Int32).toInt = 10 := qI_10
      have q9 := w7
      by_cases h8 : 0 ≤ v.toInt ∧ v.toInt ≤ 9
      · rw [if_pos h8] at q9; rw [if_pos ⟨by omega, h8⟩, nI_clamp (by omega)]; exact q9
      · rw [if_neg h8] at q9; rw [if_neg (fun h9 => h8 h9.2)]; exact q9
    have hP9 := hP.sub (ws' := [(h0, .inr (10, [.ref rd, .ref wy, .ref tr, .ref im, .ref kp, .ref od, .ref ch, .ref cr, .ref le, .ref mk, .ref tl, .ref sh, .int tf, .int rf])), (wy, .inr (9, [.int (nI N), .int (nI B), .int (nI D), .ref a1, .ref a2, .ref a3, .ref a4, .ref a5, .ref a6])), (a5, .inl (G 0, 6, .inl u8))]) [0, 1, 2] rfl
    have hD9 := hD.sub (ws' := [(h0, .inr (10, [.ref rd, .ref wy, .ref tr, .ref im, .ref kp, .ref od, .ref ch, .ref cr, .ref le, .ref mk, .ref tl, .ref sh, .int tf, .int rf])), (wy, .inr (9, [.int (nI N), .int (nI B), .int (nI D), .ref a1, .ref a2, .ref a3, .ref a4, .ref a5, .ref a6])), (a5, .inl (G 0, 6, .inl u8))]) [0, 1, 2] (by decide) rfl
    refine W.widen (k := 0) (n := 0) (Nat.le_of_ble_eq_true rfl) (Nat.le_of_ble_eq_true rfl) ?_
    exact W.iret (v := r6) hx hb hr (fun t ht hW => ⟨⟨r6, u8, rfl, ⟨hpost, (by have t_b5 := b5; have t_hii := hii; have t_n0 : (nI N).toInt = (N : Int) := tn2641_ (); have t_n1 : (nI B).toInt = (B : Int) := tn2642_ (); have t_n2 : (nI D).toInt = (D : Int) := tn2643_ (); have t_n3 : (nI ii).toInt = (ii : Int) := tn2644_ (); have z0 : (0 : Int32).toInt = 0 := qI_0; have z1 : (1 : Int32).toInt = 1 := qI_1; have z2 : (2 : Int32).toInt = 2 := qI_2; have z3 : (3 : Int32).toInt = 3 := qI_3; have z5 : (5 : Int32).toInt = 5 := qI_5; have z9 : (9 : Int32).toInt = 9 := qI_9; have z20 : (20 : Int32).toInt = 20 := qI_20; have z4 : (-4 : Int32).toInt = -4 := (by decide); have z10 : (10 : Int32).toInt = 10 := qI_10; have q9 := w7x; by_cases h8 : 0 ≤ v.toInt ∧ v.toInt ≤ 9; (rw [if_pos h8] at q9; rw [if_pos ⟨by omega, h8⟩, nI_clamp (by omega)]; exact q9); (rw [if_neg h8] at q9; rw [if_neg (fun h9 => h8 h9.2)]; exact q9))⟩, ⟨by rw [ht]; exact hP9, hD9⟩⟩, hS.F ht⟩) hS.2.2 dX10_step_27

set_option maxHeartbeats 1000000 in
set_option maxRecDepth 100000 in
theorem c_X10_warmE (l : Launch) (dC : Nat → ClassId) (dI : Nat → Nat → Nat) (G : Nat → ClassId) (sz : Nat) (h0 rd wy tr im kp od ch cr le mk tl sh a1 a2 a3 a4 a5 a6 N B D : Nat) (tf rf i v : Int32) (f6 : Nat → Int32) (hN_N : N ≤ 10) (hB_B : B ≤ 6) (hD_D : 1 ≤ D ∧ D ≤ 9) : Met l yX10_warm (Cond.code yX10_warm cX10_warm 3 (some .int) :: GT) ({ frames := 1, cells := 0, slots := 0, locals := 23 } : Room) (PcW [.ref h0, .int i, .int v] dC dI G [(h0, .inr (10, [.ref rd, .ref wy, .ref tr, .ref im, .ref kp, .ref od, .ref ch, .ref cr, .ref le, .ref mk, .ref tl, .ref sh, .int tf, .int rf])), (wy, .inr (9, [.int (nI N), .int (nI B), .int (nI D), .ref a1, .ref a2, .ref a3, .ref a4, .ref a5, .ref a6])), (a6, .inl (G 0, 6, .inl f6))] sz) (va_Qi (fun (r : Int32) (u : (Nat → Int32)) => match u with | u0 => (r = if ((0 ≤ i.toInt ∧ i.toInt < ((B : Nat) : Int)) ∧ 0 ≤ v.toInt ∧ v.toInt ≤ 9) then f6 i.toNatClampNeg else -1) ∧ u0 = (if ((0 ≤ i.toInt ∧ i.toInt < ((B : Nat) : Int)) ∧ 0 ≤ v.toInt ∧ v.toInt ≤ 9) then upd f6 i.toNatClampNeg v else f6)) (fun (u : (Nat → Int32)) (t : State) => match u with | u0 => va_P (dC, dI) vwCl [(h0, .inr (10, [.ref rd, .ref wy, .ref tr, .ref im, .ref kp, .ref od, .ref ch, .ref cr, .ref le, .ref mk, .ref tl, .ref sh, .int tf, .int rf])), (wy, .inr (9, [.int (nI N), .int (nI B), .int (nI D), .ref a1, .ref a2, .ref a3, .ref a4, .ref a5, .ref a6])), (a6, .inl (G 0, 6, .inl u0))] t.heap ∧ va_D (va_A [(h0, .inr (10, [.ref rd, .ref wy, .ref tr, .ref im, .ref kp, .ref od, .ref ch, .ref cr, .ref le, .ref mk, .ref tl, .ref sh, .int tf, .int rf])), (wy, .inr (9, [.int (nI N), .int (nI B), .int (nI D), .ref a1, .ref a2, .ref a3, .ref a4, .ref a5, .ref a6])), (a6, .inl (G 0, 6, .inl f6))] sz) [(h0, .inr (10, [.ref rd, .ref wy, .ref tr, .ref im, .ref kp, .ref od, .ref ch, .ref cr, .ref le, .ref mk, .ref tl, .ref sh, .int tf, .int rf])), (wy, .inr (9, [.int (nI N), .int (nI B), .int (nI D), .ref a1, .ref a2, .ref a3, .ref a4, .ref a5, .ref a6])), (a6, .inl (G 0, 6, .inl u0))]) (va_A [(h0, .inr (10, [.ref rd, .ref wy, .ref tr, .ref im, .ref kp, .ref od, .ref ch, .ref cr, .ref le, .ref mk, .ref tl, .ref sh, .int tf, .int rf])), (wy, .inr (9, [.int (nI N), .int (nI B), .int (nI D), .ref a1, .ref a2, .ref a3, .ref a4, .ref a5, .ref a6])), (a6, .inl (G 0, 6, .inl f6))] sz)) 0 0 (va_A [(h0, .inr (10, [.ref rd, .ref wy, .ref tr, .ref im, .ref kp, .ref od, .ref ch, .ref cr, .ref le, .ref mk, .ref tl, .ref sh, .int tf, .int rf])), (wy, .inr (9, [.int (nI N), .int (nI B), .int (nI D), .ref a1, .ref a2, .ref a3, .ref a4, .ref a5, .ref a6])), (a6, .inl (G 0, 6, .inl f6))] sz) := by
  refine Met.ofW (cc := cX10_warm) (maxL := 3) (ret := (some .int)) (by decide) rfl ?_
  intro p e s m args below meth c s₁ Bd hml hv
  obtain ⟨rfl, hsz, hP, hK, hD0⟩ := hv
  have hx := Bd.exec
  have hb := Bd.bytes
  have hr := Bd.returns
  have hg : ∀ w ∈ GT, w.before ([.ref h0, .int i, .int v] : List Value).toArray s = true := fun w h => atoms_spec (ws := Cond.code yX10_warm cX10_warm 3 (some .int) :: GT) Bd.pre w (List.mem_cons_of_mem _ h)
  have hown : s.vm.findClass RX10 = some m.cls := findClass_of_methodNamed Bd.named
  have hlocks := Bd.notSynchronized
  subst hsz
  have hD := hD0.self (sz := s.heap.size)
  generalize hAe : va_A [(h0, .inr (10, [.ref rd, .ref wy, .ref tr, .ref im, .ref kp, .ref od, .ref ch, .ref cr, .ref le, .ref mk, .ref tl, .ref sh, .int tf, .int rf])), (wy, .inr (9, [.int (nI N), .int (nI B), .int (nI D), .ref a1, .ref a2, .ref a3, .ref a4, .ref a5, .ref a6])), (a6, .inl (G 0, 6, .inl f6))] s.heap.size = A at hD ⊢
  have hA : ∀ q : Nat, s.heap.size ≤ q → A q := fun q h => by rw [← hAe]; exact Or.inr h
  have hS : va_S A s.heap s.heap [] := va_S.rf
  have hl := lv_entry ([.ref h0, .int i, .int v]) (n := 3) (Nat.le_of_ble_eq_true rfl)
  rw [lg_entry_eq]
  generalize (lg_sl ([.ref h0, .int i, .int v]) ++ List.replicate (3 - (lg_sl ([.ref h0, .int i, .int v])).length) Slot.unset).toArray = ls at hl ⊢
  have hl : lv_has ls 3 [(0, .ref h0), (1, .int i), (2, .int v)] := hl
  refine lv_aload_n hx hb dX10_warm_0 rfl (lv_at hl 0 rfl) ?_
  refine va_get (D := (dC, dI)) (ci := 10) (v := .ref wy) (C := RX10) (T := TX10) (N := 14) hx hb hg inG10 hown hK.1 hP 0 rfl rfl 1 (by decide) (hg _ wt_303) (fun _ h9 => h9) rfl dX10_warm_1 ?_
  refine lv_iload_n hx hb dX10_warm_4 rfl (lv_at hl 1 rfl) ?_
  have hPc := hP.sub (ws' := [(wy, .inr (9, [.int (nI N), .int (nI B), .int (nI D), .ref a1, .ref a2, .ref a3, .ref a4, .ref a5, .ref a6]))]) [1] rfl
  have tn2645_ : nIT N := fun _ => nI_toInt (by omega)
  have tn2646_ : nIT B := fun _ => nI_toInt (by omega)
  have tn2647_ : nIT D := fun _ => nI_toInt (by omega)
  refine va_calli (va_runVN (As := [.int i]) (rest := []) ⟨hx, hb, hml, hown, hg⟩ (c_X9_hasBearer l dC dI G _ wy a1 a2 a3 a4 a5 a6 N B D i hN_N hB_B hD_D) (kwVN hg hK mfX9_hasBearer wn_535 ⟨Nat.le_of_ble_eq_true rfl, Nat.le_of_ble_eq_true rfl⟩) (preVR hK hPc (ci := 9) rfl rfl) rfl rfl hl.1 rfl (lv_room (Nat.le_of_ble_eq_true rfl)) dX10_warm_5 ⟨Nat.le_of_ble_eq_true rfl, Nat.le_of_ble_eq_true rfl⟩) hS (fun q h1 h2 => absurd h2 (Nat.not_le.mpr h1)) (fun q h => hA q (Nat.le_trans hS.1 h)) (fun r1 ur1 t H1 locs ht hvm w2 hB hz1 hk1 hS => ?_)
  have hP := keepR hP hk1
  obtain ⟨w2, w2x⟩ := w2
  try simp only [l_ii, show (0 : Int32).toInt = 0 from by decide] at w2
  try rw [show (nI (B)).toInt = ((B : Nat) : Int) from tn2646_ ()] at w2
  subst w2
  refine lv_if_eq (tgt := 26) hx hb dX10_warm_8 (by decide) (fun c3 => ?_) (fun c3 => ?_)
  · skip
    have b4 := if10_n c3
    refine lv_iconst (v := (-1)) hx hb dX10_warm_26 (by decide) ?_
    have hpost : ((-1) : Int32) = if ((0 ≤ i.toInt ∧ i.toInt < ((B : Nat) : Int)) ∧ 0 ≤ v.toInt ∧ v.toInt ≤ 9) then f6 i.toNatClampNeg else -1 := by
      have t_b4 := b4
      have t_n0 : (nI N).toInt = (N : Int) := tn2645_ ()
      have t_n1 : (nI B).toInt = (B : Int) := tn2646_ ()
      have t_n2 : (nI D).toInt = (D : Int) := tn2647_ ()
      have z0 : (0 : Int32).toInt = 0 := qI_0
      have z1 : (1 : Int32).toInt = 1 := qI_1
      have z2 : (2 : Int32).toInt = 2 := qI_2
      have z3 : (3 : Int32).toInt = 3 := qI_3
      have z5 : (5 : Int32).toInt = 5 := qI_5
      have z9 : (9 : Int32).toInt = 9 := qI_9
      have z20 : (20 : Int32).toInt = 20 := qI_20
      have z4 : (-4 : Int32).toInt = -4 := (by decide)
      have z10 : (10 : Int32).toInt = 10 := qI_10
      rw [if_neg (by omega)]
    have hP9 := hP.sub (ws' := [(h0, .inr (10, [.ref rd, .ref wy, .ref tr, .ref im, .ref kp, .ref od, .ref ch, .ref cr, .ref le, .ref mk, .ref tl, .ref sh, .int tf, .int rf])), (wy, .inr (9, [.int (nI N), .int (nI B), .int (nI D), .ref a1, .ref a2, .ref a3, .ref a4, .ref a5, .ref a6])), (a6, .inl (G 0, 6, .inl f6))]) [0, 1, 2] rfl
    have hD9 := hD.sub (ws' := [(h0, .inr (10, [.ref rd, .ref wy, .ref tr, .ref im, .ref kp, .ref od, .ref ch, .ref cr, .ref le, .ref mk, .ref tl, .ref sh, .int tf, .int rf])), (wy, .inr (9, [.int (nI N), .int (nI B), .int (nI D), .ref a1, .ref a2, .ref a3, .ref a4, .ref a5, .ref a6])), (a6, .inl (G 0, 6, .inl f6))]) [0, 1, 2] (by decide) rfl
    refine W.widen (k := 0) (n := 0) (Nat.le_of_ble_eq_true rfl) (Nat.le_of_ble_eq_true rfl) ?_
    exact W.iret (v := (-1)) hx hb hr (fun t ht hW => ⟨⟨(-1), f6, rfl, ⟨hpost, (by have t_b4 := b4; have t_n0 : (nI N).toInt = (N : Int) := tn2645_ (); have t_n1 : (nI B).toInt = (B : Int) := tn2646_ (); have t_n2 : (nI D).toInt = (D : Int) := tn2647_ (); have z0 : (0 : Int32).toInt = 0 := qI_0; have z1 : (1 : Int32).toInt = 1 := qI_1; have z2 : (2 : Int32).toInt = 2 := qI_2; have z3 : (3 : Int32).toInt = 3 := qI_3; have z5 : (5 : Int32).toInt = 5 := qI_5; have z9 : (9 : Int32).toInt = 9 := qI_9; have z20 : (20 : Int32).toInt = 20 := qI_20; have z4 : (-4 : Int32).toInt = -4 := (by decide); have z10 : (10 : Int32).toInt = 10 := qI_10; rw [if_neg (by omega)])⟩, ⟨by rw [ht]; exact hP9, hD9⟩⟩, hS.F ht⟩) hS.2.2 dX10_warm_27
  · skip
    have b5 := if10_p c3
    obtain ⟨ii, hii, rfl⟩ : ∃ j : Nat, j < 6 ∧ i = nI j := by
      have t_b5 := b5
      have t_n0 : (nI N).toInt = (N : Int) := tn2645_ ()
      have t_n1 : (nI B).toInt = (B : Int) := tn2646_ ()
      have t_n2 : (nI D).toInt = (D : Int) := tn2647_ ()
      exact i32_nat (by omega) (by omega)
    refine lv_aload_n hx hb dX10_warm_11 rfl (lv_at hl 0 rfl) ?_
    refine va_get (D := (dC, dI)) (ci := 10) (v := .ref wy) (C := RX10) (T := TX10) (N := 14) hx hb hg inG10 hown hK.1 hP 0 rfl rfl 1 (by decide) (hg _ wt_303) (fun _ h9 => h9) rfl dX10_warm_12 ?_
    refine va_getN (D := (dC, dI)) (ci := 9) (v := .ref a6) (C := RX9) (T := TX9) (N := 9) hx hb hg inG9 hown hK.1 hP 1 rfl rfl 8 (by decide) (hK.nest wn_85) (fun _ h9 => h9) rfl dX10_warm_15 ?_
    refine lv_iload_n hx hb dX10_warm_18 rfl (lv_at hl 1 rfl) ?_
    refine lv_iload_n hx hb dX10_warm_19 rfl (lv_at hl 2 rfl) ?_
    have hPc := hP.sub (ws' := [(a6, .inl (G 0, 6, .inl f6))]) [2] rfl
    have hDc := hD.sub (ws' := [(a6, .inl (G 0, 6, .inl f6))]) [2] (by decide) rfl
    have hFc := va_free (wc := [(a6, .inl (G 0, 6, .inl f6))]) hD hS hA [2] rfl
    have tn2648_ : nIT ii := fun _ => nI_toInt (by first | omega | (have t_b5 := b5; have t_hii := hii; omega))
    refine va_calli (va_runS (As := [.ref a6, .int (nI ii), .int v]) (rest := []) ⟨hx, hb, hml, hown, hg⟩ (c_X10_change6E l dC dI G _ a6 ii v f6 (by first | omega | (have t_b5 := b5; have t_hii := hii; have t_n0 : (nI N).toInt = (N : Int) := tn2645_ (); have t_n1 : (nI B).toInt = (B : Int) := tn2646_ (); have t_n2 : (nI D).toInt = (D : Int) := tn2647_ (); have t_n3 : (nI ii).toInt = (ii : Int) := tn2648_ (); omega))) (kwS hg mfX10_change wt_547 ⟨Nat.le_of_ble_eq_true rfl, Nat.le_of_ble_eq_true rfl⟩) (preSW hK hPc hDc) rfl rfl hl.1 rfl (lv_room (Nat.le_of_ble_eq_true rfl)) dX10_warm_20 ⟨Nat.le_of_ble_eq_true rfl, Nat.le_of_ble_eq_true rfl⟩) hS (fun q _ h => hFc q h) hFc (fun r6 ur6 t H1 locs ht hvm w7 hB hz1 hk1 hS => ?_)
    obtain ⟨u8, rfl⟩ : ∃ z, z = ur6 := ⟨_, rfl⟩
    obtain ⟨hP1, hD1⟩ := hB
    rw [ht] at hP1
    obtain ⟨hP, hD⟩ := va_join (wr := [(h0, .inr (10, [.ref rd, .ref wy, .ref tr, .ref im, .ref kp, .ref od, .ref ch, .ref cr, .ref le, .ref mk, .ref tl, .ref sh, .int tf, .int rf])), (wy, .inr (9, [.int (nI N), .int (nI B), .int (nI D), .ref a1, .ref a2, .ref a3, .ref a4, .ref a5, .ref a6]))]) (w1 := [(a6, .inl (G 0, 6, .inl u8))]) hP hD [2] [0, 1] rfl rfl (by decide) (by decide) hk1 hFc hP1 hD1
    generalize H1 = H at hP hS ⊢
    have hP : va_P (dC, dI) vwCl [(h0, .inr (10, [.ref rd, .ref wy, .ref tr, .ref im, .ref kp, .ref od, .ref ch, .ref cr, .ref le, .ref mk, .ref tl, .ref sh, .int tf, .int rf])), (wy, .inr (9, [.int (nI N), .int (nI B), .int (nI D), .ref a1, .ref a2, .ref a3, .ref a4, .ref a5, .ref a6])), (a6, .inl (G 0, 6, .inl u8))] H := hP
    have hD : va_D A [(h0, .inr (10, [.ref rd, .ref wy, .ref tr, .ref im, .ref kp, .ref od, .ref ch, .ref cr, .ref le, .ref mk, .ref tl, .ref sh, .int tf, .int rf])), (wy, .inr (9, [.int (nI N), .int (nI B), .int (nI D), .ref a1, .ref a2, .ref a3, .ref a4, .ref a5, .ref a6])), (a6, .inl (G 0, 6, .inl u8))] := hD
    obtain ⟨w7, w7x⟩ := w7
    refine lv_goto (tgt := 27) hx hb dX10_warm_23 (by decide) ?_
    have hpost : (r6 : Int32) = if ((0 ≤ (nI ii).toInt ∧ (nI ii).toInt < ((B : Nat) : Int)) ∧ 0 ≤ v.toInt ∧ v.toInt ≤ 9) then f6 (nI ii).toNatClampNeg else -1 := by
      have t_b5 := b5
      have t_hii := hii
      have t_n0 : (nI N).toInt = (N : Int) := tn2645_ ()
      have t_n1 : (nI B).toInt = (B : Int) := tn2646_ ()
      have t_n2 : (nI D).toInt = (D : Int) := tn2647_ ()
      have t_n3 : (nI ii).toInt = (ii : Int) := tn2648_ ()
      have z0 : (0 : Int32).toInt = 0 := qI_0
      have z1 : (1 : Int32).toInt = 1 := qI_1
      have z2 : (2 : Int32).toInt = 2 := qI_2
      have z3 : (3 : Int32).toInt = 3 := qI_3
      have z5 : (5 : Int32).toInt = 5 := qI_5
      have z9 : (9 : Int32).toInt = 9 := qI_9
      have z20 : (20 : Int32).toInt = 20 := qI_20
      have z4 : (-4 : Int32).toInt = -4 := (by decide)
      have z10 : (10 : Int32).toInt = 10 := qI_10
      have q9 := w7
      by_cases h8 : 0 ≤ v.toInt ∧ v.toInt ≤ 9
      · rw [if_pos h8] at q9; rw [if_pos ⟨by omega, h8⟩, nI_clamp (by omega)]; exact q9
      · rw [if_neg h8] at q9; rw [if_neg (fun h9 => h8 h9.2)]; exact q9
    have hP9 := hP.sub (ws' := [(h0, .inr (10, [.ref rd, .ref wy, .ref tr, .ref im, .ref kp, .ref od, .ref ch, .ref cr, .ref le, .ref mk, .ref tl, .ref sh, .int tf, .int rf])), (wy, .inr (9, [.int (nI N), .int (nI B), .int (nI D), .ref a1, .ref a2, .ref a3, .ref a4, .ref a5, .ref a6])), (a6, .inl (G 0, 6, .inl u8))]) [0, 1, 2] rfl
    have hD9 := hD.sub (ws' := [(h0, .inr (10, [.ref rd, .ref wy, .ref tr, .ref im, .ref kp, .ref od, .ref ch, .ref cr, .ref le, .ref mk, .ref tl, .ref sh, .int tf, .int rf])), (wy, .inr (9, [.int (nI N), .int (nI B), .int (nI D), .ref a1, .ref a2, .ref a3, .ref a4, .ref a5, .ref a6])), (a6, .inl (G 0, 6, .inl u8))]) [0, 1, 2] (by decide) rfl
    refine W.widen (k := 0) (n := 0) (Nat.le_of_ble_eq_true rfl) (Nat.le_of_ble_eq_true rfl) ?_
    exact W.iret (v := r6) hx hb hr (fun t ht hW => ⟨⟨r6, u8, rfl, ⟨hpost, (by have t_b5 := b5; have t_hii := hii; have t_n0 : (nI N).toInt = (N : Int) := tn2645_ (); have t_n1 : (nI B).toInt = (B : Int) := tn2646_ (); have t_n2 : (nI D).toInt = (D : Int) := tn2647_ (); have t_n3 : (nI ii).toInt = (ii : Int) := tn2648_ (); have z0 : (0 : Int32).toInt = 0 := qI_0; have z1 : (1 : Int32).toInt = 1 := qI_1; have z2 : (2 : Int32).toInt = 2 := qI_2; have z3 : (3 : Int32).toInt = 3 := qI_3; have z5 : (5 : Int32).toInt = 5 := qI_5; have z9 : (9 : Int32).toInt = 9 := qI_9; have z20 : (20 : Int32).toInt = 20 := qI_20; have z4 : (-4 : Int32).toInt = -4 := (by decide); have z10 : (10 : Int32).toInt = 10 := qI_10; have q9 := w7x; by_cases h8 : 0 ≤ v.toInt ∧ v.toInt ≤ 9; (rw [if_pos h8] at q9; rw [if_pos ⟨by omega, h8⟩, nI_clamp (by omega)]; exact q9); (rw [if_neg h8] at q9; rw [if_neg (fun h9 => h8 h9.2)]; exact q9))⟩, ⟨by rw [ht]; exact hP9, hD9⟩⟩, hS.F ht⟩) hS.2.2 dX10_warm_27

set_option maxHeartbeats 1000000 in
set_option maxRecDepth 100000 in
theorem c_X10_harmE (l : Launch) (dC : Nat → ClassId) (dI : Nat → Nat → Nat) (G : Nat → ClassId) (sz : Nat) (h0 rd wy tr im kp od ch cr le mk tl sh a1 a2 a3 a4 a5 a6 N B D : Nat) (tf rf i g k : Int32) (f1 f2 f4 f5 f6 : Nat → Int32) (hN_N : N ≤ 10) (hB_B : B ≤ 6) (hD_D : 1 ≤ D ∧ D ≤ 9) : Met l yX10_harm (Cond.code yX10_harm cX10_harm 4 (some .int) :: GT) ({ frames := 3, cells := 0, slots := 0, locals := 67 } : Room) (PcR [.ref h0, .int i, .int g, .int k] dC dI G [(h0, .inr (10, [.ref rd, .ref wy, .ref tr, .ref im, .ref kp, .ref od, .ref ch, .ref cr, .ref le, .ref mk, .ref tl, .ref sh, .int tf, .int rf])), (wy, .inr (9, [.int (nI N), .int (nI B), .int (nI D), .ref a1, .ref a2, .ref a3, .ref a4, .ref a5, .ref a6])), (a1, .inl (G 0, 10, .inl f1)), (a2, .inl (G 0, 10, .inl f2)), (a4, .inl (G 0, 6, .inl f4)), (a5, .inl (G 0, 6, .inl f5)), (a6, .inl (G 0, 6, .inl f6))] sz) (va_Qi (fun (r : Int32) (u : Unit) => match u with | _ => (r = if (0 ≤ i.toInt ∧ i.toInt < ((N : Nat) : Int)) ∧ (g.toInt = -4 ∨ (0 ≤ g.toInt ∧ g.toInt < ((B : Nat) : Int))) ∧ (0 ≤ k.toInt ∧ k.toInt < ((B : Nat) : Int)) then hmF N B f1 f2 f4 f5 f6 i g k else -1) ∧ True) (fun _ _ => True) (fun q : Nat => sz ≤ q)) 0 0 (fun q : Nat => sz ≤ q) := by
  refine Met.ofW (cc := cX10_harm) (maxL := 4) (ret := (some .int)) (by decide) rfl ?_
  intro p e s m args below meth c s₁ Bd hml hv
  obtain ⟨rfl, hsz, hP, hK⟩ := hv
  have hx := Bd.exec
  have hb := Bd.bytes
  have hr := Bd.returns
  have hg : ∀ w ∈ GT, w.before ([.ref h0, .int i, .int g, .int k] : List Value).toArray s = true := fun w h => atoms_spec (ws := Cond.code yX10_harm cX10_harm 4 (some .int) :: GT) Bd.pre w (List.mem_cons_of_mem _ h)
  have hown : s.vm.findClass RX10 = some m.cls := findClass_of_methodNamed Bd.named
  have hlocks := Bd.notSynchronized
  subst hsz
  have hA : ∀ q : Nat, s.heap.size ≤ q → (fun q : Nat => s.heap.size ≤ q) q := fun _ h => h
  have hS : va_S (fun q : Nat => s.heap.size ≤ q) s.heap s.heap [] := va_S.rf
  have hl := lv_entry ([.ref h0, .int i, .int g, .int k]) (n := 4) (Nat.le_of_ble_eq_true rfl)
  rw [lg_entry_eq]
  generalize (lg_sl ([.ref h0, .int i, .int g, .int k]) ++ List.replicate (4 - (lg_sl ([.ref h0, .int i, .int g, .int k])).length) Slot.unset).toArray = ls at hl ⊢
  have hl : lv_has ls 4 [(0, .ref h0), (1, .int i), (2, .int g), (3, .int k)] := hl
  refine lv_aload_n hx hb dX10_harm_0 rfl (lv_at hl 0 rfl) ?_
  refine va_get (D := (dC, dI)) (ci := 10) (v := .ref wy) (C := RX10) (T := TX10) (N := 14) hx hb hg inG10 hown hK.1 hP 0 rfl rfl 1 (by decide) (hg _ wt_303) (fun _ h9 => h9) rfl dX10_harm_1 ?_
  refine lv_iload_n hx hb dX10_harm_4 rfl (lv_at hl 1 rfl) ?_
  refine lv_iload_n hx hb dX10_harm_5 rfl (lv_at hl 2 rfl) ?_
  refine lv_iload_n hx hb dX10_harm_6 rfl (lv_at hl 3 rfl) ?_
  have hPc := hP.sub (ws' := [(wy, .inr (9, [.int (nI N), .int (nI B), .int (nI D), .ref a1, .ref a2, .ref a3, .ref a4, .ref a5, .ref a6]))]) [1] rfl
  have tn2649_ : nIT N := fun _ => nI_toInt (by omega)
  have tn2650_ : nIT B := fun _ => nI_toInt (by omega)
  have tn2651_ : nIT D := fun _ => nI_toInt (by omega)
  refine va_calli (va_runVN (As := [.int i, .int g, .int k]) (rest := []) ⟨hx, hb, hml, hown, hg⟩ (c_X9_canHand l dC dI G _ wy a1 a2 a3 a4 a5 a6 N B D i g k hN_N hB_B hD_D) (kwVN hg hK mfX9_canHand wn_570 ⟨Nat.le_of_ble_eq_true rfl, Nat.le_of_ble_eq_true rfl⟩) (preVR hK hPc (ci := 9) rfl rfl) rfl rfl hl.1 rfl (lv_room (Nat.le_of_ble_eq_true rfl)) dX10_harm_7 ⟨Nat.le_of_ble_eq_true rfl, Nat.le_of_ble_eq_true rfl⟩) hS (fun q h1 h2 => absurd h2 (Nat.not_le.mpr h1)) (fun q h => hA q (Nat.le_trans hS.1 h)) (fun r1 ur1 t H1 locs ht hvm w2 hB hz1 hk1 hS => ?_)
  have hP := keepR hP hk1
  obtain ⟨w2, w2x⟩ := w2
  try simp only [l_ii] at w2
  subst w2
  refine lv_if_eq (tgt := 26) hx hb dX10_harm_10 (by decide) (fun c3 => ?_) (fun c3 => ?_)
  · skip
    have b4 := if10_n c3
    refine lv_iconst (v := (-1)) hx hb dX10_harm_26 (by decide) ?_
    have hpost : ((-1) : Int32) = if (0 ≤ i.toInt ∧ i.toInt < ((N : Nat) : Int)) ∧ (g.toInt = -4 ∨ (0 ≤ g.toInt ∧ g.toInt < ((B : Nat) : Int))) ∧ (0 ≤ k.toInt ∧ k.toInt < ((B : Nat) : Int)) then hmF N B f1 f2 f4 f5 f6 i g k else -1 := by
      have t_b4 := b4
      have t_n0 : (nI N).toInt = (N : Int) := tn2649_ ()
      have t_n1 : (nI B).toInt = (B : Int) := tn2650_ ()
      have t_n2 : (nI D).toInt = (D : Int) := tn2651_ ()
      have z0 : (0 : Int32).toInt = 0 := qI_0
      have z1 : (1 : Int32).toInt = 1 := qI_1
      have z2 : (2 : Int32).toInt = 2 := qI_2
      have z3 : (3 : Int32).toInt = 3 := qI_3
      have z5 : (5 : Int32).toInt = 5 := qI_5
      have z9 : (9 : Int32).toInt = 9 := qI_9
      have z20 : (20 : Int32).toInt = 20 := qI_20
      have z4 : (-4 : Int32).toInt = -4 := (by decide)
      have z10 : (10 : Int32).toInt = 10 := qI_10
      first | (rw [if_neg (by omega)]; done) | (rw [if_pos (by omega)]; done)
    refine W.widen (k := 0) (n := 0) (Nat.le_of_ble_eq_true rfl) (Nat.le_of_ble_eq_true rfl) ?_
    exact W.iret (v := (-1)) hx hb hr (fun t ht hW => ⟨⟨(-1), (), rfl, ⟨hpost, trivial⟩, trivial⟩, hS.F ht⟩) hS.2.2 dX10_harm_27
  · skip
    have b5 := if10_p c3
    refine lv_aload_n hx hb dX10_harm_13 rfl (lv_at hl 0 rfl) ?_
    refine va_get (D := (dC, dI)) (ci := 10) (v := .ref wy) (C := RX10) (T := TX10) (N := 14) hx hb hg inG10 hown hK.1 hP 0 rfl rfl 1 (by decide) (hg _ wt_303) (fun _ h9 => h9) rfl dX10_harm_14 ?_
    refine lv_iload_n hx hb dX10_harm_17 rfl (lv_at hl 1 rfl) ?_
    refine lv_iload_n hx hb dX10_harm_18 rfl (lv_at hl 2 rfl) ?_
    refine lv_iload_n hx hb dX10_harm_19 rfl (lv_at hl 3 rfl) ?_
    have hPc := hP.sub (ws' := [(wy, .inr (9, [.int (nI N), .int (nI B), .int (nI D), .ref a1, .ref a2, .ref a3, .ref a4, .ref a5, .ref a6])), (a1, .inl (G 0, 10, .inl f1)), (a2, .inl (G 0, 10, .inl f2)), (a4, .inl (G 0, 6, .inl f4)), (a5, .inl (G 0, 6, .inl f5)), (a6, .inl (G 0, 6, .inl f6))]) [1, 2, 3, 4, 5, 6] rfl
    refine va_calli (va_runVN (As := [.int i, .int g, .int k]) (rest := []) ⟨hx, hb, hml, hown, hg⟩ (c_X9_harmBy l dC dI G _ wy a1 a2 a3 a4 a5 a6 N B D i g k f1 f2 f4 f5 f6 hN_N hB_B hD_D) (kwVN hg hK mfX9_harmBy wn_576 ⟨Nat.le_of_ble_eq_true rfl, Nat.le_of_ble_eq_true rfl⟩) (preVR hK hPc (ci := 9) rfl rfl) rfl rfl hl.1 rfl (lv_room (Nat.le_of_ble_eq_true rfl)) dX10_harm_20 ⟨Nat.le_of_ble_eq_true rfl, Nat.le_of_ble_eq_true rfl⟩) hS (fun q h1 h2 => absurd h2 (Nat.not_le.mpr h1)) (fun q h => hA q (Nat.le_trans hS.1 h)) (fun r6 ur6 t H1 locs ht hvm w7 hB hz1 hk1 hS => ?_)
    have hP := keepR hP hk1
    obtain ⟨w7, w7x⟩ := w7
    subst w7
    refine lv_goto (tgt := 27) hx hb dX10_harm_23 (by decide) ?_
    have hpost : (hmF N B f1 f2 f4 f5 f6 i g k : Int32) = if (0 ≤ i.toInt ∧ i.toInt < ((N : Nat) : Int)) ∧ (g.toInt = -4 ∨ (0 ≤ g.toInt ∧ g.toInt < ((B : Nat) : Int))) ∧ (0 ≤ k.toInt ∧ k.toInt < ((B : Nat) : Int)) then hmF N B f1 f2 f4 f5 f6 i g k else -1 := by
      have t_b5 := b5
      have t_n0 : (nI N).toInt = (N : Int) := tn2649_ ()
      have t_n1 : (nI B).toInt = (B : Int) := tn2650_ ()
      have t_n2 : (nI D).toInt = (D : Int) := tn2651_ ()
      have z0 : (0 : Int32).toInt = 0 := qI_0
      have z1 : (1 : Int32).toInt = 1 := qI_1
      have z2 : (2 : Int32).toInt = 2 := qI_2
      have z3 : (3 : Int32).toInt = 3 := qI_3
      have z5 : (5 : Int32).toInt = 5 := qI_5
      have z9 : (9 : Int32).toInt = 9 := qI_9
      have z20 : (20 : Int32).toInt = 20 := qI_20
      have z4 : (-4 : Int32).toInt = -4 := (by decide)
      have z10 : (10 : Int32).toInt = 10 := qI_10
      first | (rw [if_neg (by omega)]; done) | (rw [if_pos (by omega)]; done)
    refine W.widen (k := 0) (n := 0) (Nat.le_of_ble_eq_true rfl) (Nat.le_of_ble_eq_true rfl) ?_
    exact W.iret (v := hmF N B f1 f2 f4 f5 f6 i g k) hx hb hr (fun t ht hW => ⟨⟨hmF N B f1 f2 f4 f5 f6 i g k, (), rfl, ⟨hpost, trivial⟩, trivial⟩, hS.F ht⟩) hS.2.2 dX10_harm_27

set_option maxHeartbeats 4000000 in
set_option maxRecDepth 100000 in
theorem c_X10_keepW (l : Launch) (dC : Nat → ClassId) (dI : Nat → Nat → Nat) (G : Nat → ClassId) (sz : Nat) (h0 rd wy tr im kp od ch cr le mk tl sh a1 a2 a3 a4 a5 a6 N B D i0 i1 ib1 ib2 ib3 ib4 ib5 ib6 id1 id2 id3 id4 id5 id6 N0 B0 D0 N1 B1 D1 : Nat) (tf rf k : Int32) (f1 f2 f3 f4 f5 f6 fk ibf1 ibf2 ibf3 ibf4 ibf5 ibf6 idf1 idf2 idf3 idf4 idf5 idf6 : Nat → Int32) (hN_N : N ≤ 10) (hB_B : B ≤ 6) (hD_D : 1 ≤ D ∧ D ≤ 9) (hN_N0 : N0 ≤ 10) (hB_B0 : B0 ≤ 6) (hD_D0 : 1 ≤ D0 ∧ D0 ≤ 9) (hN_N1 : N1 ≤ 10) (hB_B1 : B1 ≤ 6) (hD_D1 : 1 ≤ D1 ∧ D1 ≤ 9) : Met l yX10_keep (Cond.code yX10_keep cX10_keep 3 (some .int) :: GT) ({ frames := 2, cells := 0, slots := 0, locals := 121 } : Room) (PcW [.ref h0, .int k] dC dI G [(h0, .inr (10, [.ref rd, .ref wy, .ref tr, .ref im, .ref kp, .ref od, .ref ch, .ref cr, .ref le, .ref mk, .ref tl, .ref sh, .int tf, .int rf])), (wy, .inr (9, [.int (nI N), .int (nI B), .int (nI D), .ref a1, .ref a2, .ref a3, .ref a4, .ref a5, .ref a6])), (a1, .inl (G 0, 10, .inl f1)), (a2, .inl (G 0, 10, .inl f2)), (a3, .inl (G 0, 10, .inl f3)), (a4, .inl (G 0, 6, .inl f4)), (a5, .inl (G 0, 6, .inl f5)), (a6, .inl (G 0, 6, .inl f6)), (im, .inl (G 3, 2, .inr (.inr (.inr (.inr (va_up (va_up (fun _ => none) 0 (some i0)) 1 (some i1))))))), (kp, .inl (G 2, 2, .inl fk)), (i0, .inr (9, [.int (nI N0), .int (nI B0), .int (nI D0), .ref ib1, .ref ib2, .ref ib3, .ref ib4, .ref ib5, .ref ib6])), (ib1, .inl (G 0, 10, .inl ibf1)), (ib2, .inl (G 0, 10, .inl ibf2)), (ib3, .inl (G 0, 10, .inl ibf3)), (ib4, .inl (G 0, 6, .inl ibf4)), (ib5, .inl (G 0, 6, .inl ibf5)), (ib6, .inl (G 0, 6, .inl ibf6)), (i1, .inr (9, [.int (nI N1), .int (nI B1), .int (nI D1), .ref id1, .ref id2, .ref id3, .ref id4, .ref id5, .ref id6])), (id1, .inl (G 0, 10, .inl idf1)), (id2, .inl (G 0, 10, .inl idf2)), (id3, .inl (G 0, 10, .inl idf3)), (id4, .inl (G 0, 6, .inl idf4)), (id5, .inl (G 0, 6, .inl idf5)), (id6, .inl (G 0, 6, .inl idf6))] sz) (va_Qi (fun (r : Int32) (u : Nat × Nat × Nat × (Nat → Int32) × (Nat → Int32) × (Nat → Int32) × (Nat → Int32) × (Nat → Int32) × (Nat → Int32) × Nat × Nat × Nat × (Nat → Int32) × (Nat → Int32) × (Nat → Int32) × (Nat → Int32) × (Nat → Int32) × (Nat → Int32) × (Nat → Int32)) => match u with | (u0, u1, u2, u3, u4, u5, u6, u7, u8, u9, u10, u11, u12, u13, u14, u15, u16, u17, u18) => (r = if (0 ≤ k.toInt ∧ k.toInt < 2) then (if fk k.toNatClampNeg = 0 then 0 else 1) else -1) ∧ ((u0 ≤ 10 ∧ u1 ≤ 6 ∧ (1 ≤ u2 ∧ u2 ≤ 9)) ∧ (u9 ≤ 10 ∧ u10 ≤ 6 ∧ (1 ≤ u11 ∧ u11 ≤ 9))) ∧ u18 = (if (0 ≤ k.toInt ∧ k.toInt < 2) then upd fk k.toNatClampNeg 1 else fk) ∧ u0 = (if k = 0 then N else N0) ∧ u1 = (if k = 0 then B else B0) ∧ u9 = (if k = 1 then N else N1) ∧ u10 = (if k = 1 then B else B1) ∧ u2 = (if k = 0 then D else D0) ∧ u3 = (if k = 0 then va_cpy f1 ibf1 0 0 10 else ibf1) ∧ u4 = (if k = 0 then va_cpy f2 ibf2 0 0 10 else ibf2) ∧ u5 = (if k = 0 then va_cpy f3 ibf3 0 0 10 else ibf3) ∧ u6 = (if k = 0 then va_cpy f4 ibf4 0 0 6 else ibf4) ∧ u7 = (if k = 0 then va_cpy f5 ibf5 0 0 6 else ibf5) ∧ u8 = (if k = 0 then va_cpy f6 ibf6 0 0 6 else ibf6) ∧ u11 = (if k = 1 then D else D1) ∧ u12 = (if k = 1 then va_cpy f1 idf1 0 0 10 else idf1) ∧ u13 = (if k = 1 then va_cpy f2 idf2 0 0 10 else idf2) ∧ u14 = (if k = 1 then va_cpy f3 idf3 0 0 10 else idf3) ∧ u15 = (if k = 1 then va_cpy f4 idf4 0 0 6 else idf4) ∧ u16 = (if k = 1 then va_cpy f5 idf5 0 0 6 else idf5) ∧ u17 = (if k = 1 then va_cpy f6 idf6 0 0 6 else idf6)) (fun (u : Nat × Nat × Nat × (Nat → Int32) × (Nat → Int32) × (Nat → Int32) × (Nat → Int32) × (Nat → Int32) × (Nat → Int32) × Nat × Nat × Nat × (Nat → Int32) × (Nat → Int32) × (Nat → Int32) × (Nat → Int32) × (Nat → Int32) × (Nat → Int32) × (Nat → Int32)) (t : State) => match u with | (u0, u1, u2, u3, u4, u5, u6, u7, u8, u9, u10, u11, u12, u13, u14, u15, u16, u17, u18) => va_P (dC, dI) vwCl [(h0, .inr (10, [.ref rd, .ref wy, .ref tr, .ref im, .ref kp, .ref od, .ref ch, .ref cr, .ref le, .ref mk, .ref tl, .ref sh, .int tf, .int rf])), (wy, .inr (9, [.int (nI N), .int (nI B), .int (nI D), .ref a1, .ref a2, .ref a3, .ref a4, .ref a5, .ref a6])), (a1, .inl (G 0, 10, .inl f1)), (a2, .inl (G 0, 10, .inl f2)), (a3, .inl (G 0, 10, .inl f3)), (a4, .inl (G 0, 6, .inl f4)), (a5, .inl (G 0, 6, .inl f5)), (a6, .inl (G 0, 6, .inl f6)), (im, .inl (G 3, 2, .inr (.inr (.inr (.inr (va_up (va_up (fun _ => none) 0 (some i0)) 1 (some i1))))))), (kp, .inl (G 2, 2, .inl u18)), (i0, .inr (9, [.int (nI u0), .int (nI u1), .int (nI u2), .ref ib1, .ref ib2, .ref ib3, .ref ib4, .ref ib5, .ref ib6])), (ib1, .inl (G 0, 10, .inl u3)), (ib2, .inl (G 0, 10, .inl u4)), (ib3, .inl (G 0, 10, .inl u5)), (ib4, .inl (G 0, 6, .inl u6)), (ib5, .inl (G 0, 6, .inl u7)), (ib6, .inl (G 0, 6, .inl u8)), (i1, .inr (9, [.int (nI u9), .int (nI u10), .int (nI u11), .ref id1, .ref id2, .ref id3, .ref id4, .ref id5, .ref id6])), (id1, .inl (G 0, 10, .inl u12)), (id2, .inl (G 0, 10, .inl u13)), (id3, .inl (G 0, 10, .inl u14)), (id4, .inl (G 0, 6, .inl u15)), (id5, .inl (G 0, 6, .inl u16)), (id6, .inl (G 0, 6, .inl u17))] t.heap ∧ va_D (va_A [(h0, .inr (10, [.ref rd, .ref wy, .ref tr, .ref im, .ref kp, .ref od, .ref ch, .ref cr, .ref le, .ref mk, .ref tl, .ref sh, .int tf, .int rf])), (wy, .inr (9, [.int (nI N), .int (nI B), .int (nI D), .ref a1, .ref a2, .ref a3, .ref a4, .ref a5, .ref a6])), (a1, .inl (G 0, 10, .inl f1)), (a2, .inl (G 0, 10, .inl f2)), (a3, .inl (G 0, 10, .inl f3)), (a4, .inl (G 0, 6, .inl f4)), (a5, .inl (G 0, 6, .inl f5)), (a6, .inl (G 0, 6, .inl f6)), (im, .inl (G 3, 2, .inr (.inr (.inr (.inr (va_up (va_up (fun _ => none) 0 (some i0)) 1 (some i1))))))), (kp, .inl (G 2, 2, .inl fk)), (i0, .inr (9, [.int (nI N0), .int (nI B0), .int (nI D0), .ref ib1, .ref ib2, .ref ib3, .ref ib4, .ref ib5, .ref ib6])), (ib1, .inl (G 0, 10, .inl ibf1)), (ib2, .inl (G 0, 10, .inl ibf2)), (ib3, .inl (G 0, 10, .inl ibf3)), (ib4, .inl (G 0, 6, .inl ibf4)), (ib5, .inl (G 0, 6, .inl ibf5)), (ib6, .inl (G 0, 6, .inl ibf6)), (i1, .inr (9, [.int (nI N1), .int (nI B1), .int (nI D1), .ref id1, .ref id2, .ref id3, .ref id4, .ref id5, .ref id6])), (id1, .inl (G 0, 10, .inl idf1)), (id2, .inl (G 0, 10, .inl idf2)), (id3, .inl (G 0, 10, .inl idf3)), (id4, .inl (G 0, 6, .inl idf4)), (id5, .inl (G 0, 6, .inl idf5)), (id6, .inl (G 0, 6, .inl idf6))] sz) [(h0, .inr (10, [.ref rd, .ref wy, .ref tr, .ref im, .ref kp, .ref od, .ref ch, .ref cr, .ref le, .ref mk, .ref tl, .ref sh, .int tf, .int rf])), (wy, .inr (9, [.int (nI N), .int (nI B), .int (nI D), .ref a1, .ref a2, .ref a3, .ref a4, .ref a5, .ref a6])), (a1, .inl (G 0, 10, .inl f1)), (a2, .inl (G 0, 10, .inl f2)), (a3, .inl (G 0, 10, .inl f3)), (a4, .inl (G 0, 6, .inl f4)), (a5, .inl (G 0, 6, .inl f5)), (a6, .inl (G 0, 6, .inl f6)), (im, .inl (G 3, 2, .inr (.inr (.inr (.inr (va_up (va_up (fun _ => none) 0 (some i0)) 1 (some i1))))))), (kp, .inl (G 2, 2, .inl u18)), (i0, .inr (9, [.int (nI u0), .int (nI u1), .int (nI u2), .ref ib1, .ref ib2, .ref ib3, .ref ib4, .ref ib5, .ref ib6])), (ib1, .inl (G 0, 10, .inl u3)), (ib2, .inl (G 0, 10, .inl u4)), (ib3, .inl (G 0, 10, .inl u5)), (ib4, .inl (G 0, 6, .inl u6)), (ib5, .inl (G 0, 6, .inl u7)), (ib6, .inl (G 0, 6, .inl u8)), (i1, .inr (9, [.int (nI u9), .int (nI u10), .int (nI u11), .ref id1, .ref id2, .ref id3, .ref id4, .ref id5, .ref id6])), (id1, .inl (G 0, 10, .inl u12)), (id2, .inl (G 0, 10, .inl u13)), (id3, .inl (G 0, 10, .inl u14)), (id4, .inl (G 0, 6, .inl u15)), (id5, .inl (G 0, 6, .inl u16)), (id6, .inl (G 0, 6, .inl u17))]) (va_A [(h0, .inr (10, [.ref rd, .ref wy, .ref tr, .ref im, .ref kp, .ref od, .ref ch, .ref cr, .ref le, .ref mk, .ref tl, .ref sh, .int tf, .int rf])), (wy, .inr (9, [.int (nI N), .int (nI B), .int (nI D), .ref a1, .ref a2, .ref a3, .ref a4, .ref a5, .ref a6])), (a1, .inl (G 0, 10, .inl f1)), (a2, .inl (G 0, 10, .inl f2)), (a3, .inl (G 0, 10, .inl f3)), (a4, .inl (G 0, 6, .inl f4)), (a5, .inl (G 0, 6, .inl f5)), (a6, .inl (G 0, 6, .inl f6)), (im, .inl (G 3, 2, .inr (.inr (.inr (.inr (va_up (va_up (fun _ => none) 0 (some i0)) 1 (some i1))))))), (kp, .inl (G 2, 2, .inl fk)), (i0, .inr (9, [.int (nI N0), .int (nI B0), .int (nI D0), .ref ib1, .ref ib2, .ref ib3, .ref ib4, .ref ib5, .ref ib6])), (ib1, .inl (G 0, 10, .inl ibf1)), (ib2, .inl (G 0, 10, .inl ibf2)), (ib3, .inl (G 0, 10, .inl ibf3)), (ib4, .inl (G 0, 6, .inl ibf4)), (ib5, .inl (G 0, 6, .inl ibf5)), (ib6, .inl (G 0, 6, .inl ibf6)), (i1, .inr (9, [.int (nI N1), .int (nI B1), .int (nI D1), .ref id1, .ref id2, .ref id3, .ref id4, .ref id5, .ref id6])), (id1, .inl (G 0, 10, .inl idf1)), (id2, .inl (G 0, 10, .inl idf2)), (id3, .inl (G 0, 10, .inl idf3)), (id4, .inl (G 0, 6, .inl idf4)), (id5, .inl (G 0, 6, .inl idf5)), (id6, .inl (G 0, 6, .inl idf6))] sz)) 0 0 (va_A [(h0, .inr (10, [.ref rd, .ref wy, .ref tr, .ref im, .ref kp, .ref od, .ref ch, .ref cr, .ref le, .ref mk, .ref tl, .ref sh, .int tf, .int rf])), (wy, .inr (9, [.int (nI N), .int (nI B), .int (nI D), .ref a1, .ref a2, .ref a3, .ref a4, .ref a5, .ref a6])), (a1, .inl (G 0, 10, .inl f1)), (a2, .inl (G 0, 10, .inl f2)), (a3, .inl (G 0, 10, .inl f3)), (a4, .inl (G 0, 6, .inl f4)), (a5, .inl (G 0, 6, .inl f5)), (a6, .inl (G 0, 6, .inl f6)), (im, .inl (G 3, 2, .inr (.inr (.inr (.inr (va_up (va_up (fun _ => none) 0 (some i0)) 1 (some i1))))))), (kp, .inl (G 2, 2, .inl fk)), (i0, .inr (9, [.int (nI N0), .int (nI B0), .int (nI D0), .ref ib1, .ref ib2, .ref ib3, .ref ib4, .ref ib5, .ref ib6])), (ib1, .inl (G 0, 10, .inl ibf1)), (ib2, .inl (G 0, 10, .inl ibf2)), (ib3, .inl (G 0, 10, .inl ibf3)), (ib4, .inl (G 0, 6, .inl ibf4)), (ib5, .inl (G 0, 6, .inl ibf5)), (ib6, .inl (G 0, 6, .inl ibf6)), (i1, .inr (9, [.int (nI N1), .int (nI B1), .int (nI D1), .ref id1, .ref id2, .ref id3, .ref id4, .ref id5, .ref id6])), (id1, .inl (G 0, 10, .inl idf1)), (id2, .inl (G 0, 10, .inl idf2)), (id3, .inl (G 0, 10, .inl idf3)), (id4, .inl (G 0, 6, .inl idf4)), (id5, .inl (G 0, 6, .inl idf5)), (id6, .inl (G 0, 6, .inl idf6))] sz) := by
  refine Met.ofW (cc := cX10_keep) (maxL := 3) (ret := (some .int)) (by decide) rfl ?_
  intro p e s m args below meth c s₁ Bd hml hv
  obtain ⟨rfl, hsz, hP, hK, hD0⟩ := hv
  have hx := Bd.exec
  have hb := Bd.bytes
  have hr := Bd.returns
  have hg : ∀ w ∈ GT, w.before ([.ref h0, .int k] : List Value).toArray s = true := fun w h => atoms_spec (ws := Cond.code yX10_keep cX10_keep 3 (some .int) :: GT) Bd.pre w (List.mem_cons_of_mem _ h)
  have hown : s.vm.findClass RX10 = some m.cls := findClass_of_methodNamed Bd.named
  have hlocks := Bd.notSynchronized
  subst hsz
  have hD := hD0.self (sz := s.heap.size)
  generalize hAe : va_A [(h0, .inr (10, [.ref rd, .ref wy, .ref tr, .ref im, .ref kp, .ref od, .ref ch, .ref cr, .ref le, .ref mk, .ref tl, .ref sh, .int tf, .int rf])), (wy, .inr (9, [.int (nI N), .int (nI B), .int (nI D), .ref a1, .ref a2, .ref a3, .ref a4, .ref a5, .ref a6])), (a1, .inl (G 0, 10, .inl f1)), (a2, .inl (G 0, 10, .inl f2)), (a3, .inl (G 0, 10, .inl f3)), (a4, .inl (G 0, 6, .inl f4)), (a5, .inl (G 0, 6, .inl f5)), (a6, .inl (G 0, 6, .inl f6)), (im, .inl (G 3, 2, .inr (.inr (.inr (.inr (va_up (va_up (fun _ => none) 0 (some i0)) 1 (some i1))))))), (kp, .inl (G 2, 2, .inl fk)), (i0, .inr (9, [.int (nI N0), .int (nI B0), .int (nI D0), .ref ib1, .ref ib2, .ref ib3, .ref ib4, .ref ib5, .ref ib6])), (ib1, .inl (G 0, 10, .inl ibf1)), (ib2, .inl (G 0, 10, .inl ibf2)), (ib3, .inl (G 0, 10, .inl ibf3)), (ib4, .inl (G 0, 6, .inl ibf4)), (ib5, .inl (G 0, 6, .inl ibf5)), (ib6, .inl (G 0, 6, .inl ibf6)), (i1, .inr (9, [.int (nI N1), .int (nI B1), .int (nI D1), .ref id1, .ref id2, .ref id3, .ref id4, .ref id5, .ref id6])), (id1, .inl (G 0, 10, .inl idf1)), (id2, .inl (G 0, 10, .inl idf2)), (id3, .inl (G 0, 10, .inl idf3)), (id4, .inl (G 0, 6, .inl idf4)), (id5, .inl (G 0, 6, .inl idf5)), (id6, .inl (G 0, 6, .inl idf6))] s.heap.size = A at hD ⊢
  have hA : ∀ q : Nat, s.heap.size ≤ q → A q := fun q h => by rw [← hAe]; exact Or.inr h
  have hS : va_S A s.heap s.heap [] := va_S.rf
  have hl := lv_entry ([.ref h0, .int k]) (n := 3) (Nat.le_of_ble_eq_true rfl)
  rw [lg_entry_eq]
  generalize (lg_sl ([.ref h0, .int k]) ++ List.replicate (3 - (lg_sl ([.ref h0, .int k])).length) Slot.unset).toArray = ls at hl ⊢
  have hl : lv_has ls 3 [(0, .ref h0), (1, .int k)] := hl
  refine lv_iload_n hx hb dX10_keep_0 rfl (lv_at hl 1 rfl) ?_
  have hPc := hP.sub (ws' := []) [] rfl
  refine va_calli (va_runS (As := [.int k]) (rest := []) ⟨hx, hb, hml, hown, hg⟩ (c_X10_isImage l dC dI G _ k) (kwS hg mfX10_isImage wt_812 ⟨Nat.le_of_ble_eq_true rfl, Nat.le_of_ble_eq_true rfl⟩) (preSR hK hPc) rfl rfl hl.1 rfl (lv_room (Nat.le_of_ble_eq_true rfl)) dX10_keep_1 ⟨Nat.le_of_ble_eq_true rfl, Nat.le_of_ble_eq_true rfl⟩) hS (fun q h1 h2 => absurd h2 (Nat.not_le.mpr h1)) (fun q h => hA q (Nat.le_trans hS.1 h)) (fun r1 ur1 t H1 locs ht hvm w2 hB hz1 hk1 hS => ?_)
  have hP := keepR hP hk1
  obtain ⟨w2, w2x⟩ := w2
  try simp only [l_ii, show (0 : Int32).toInt = 0 from by decide, show (2 : Int32).toInt = 2 from by decide] at w2
  subst w2
  refine lv_if_ne (tgt := 9) hx hb dX10_keep_4 (by decide) (fun c3 => ?_) (fun c3 => ?_)
  · skip
    have b4 := if10_p c3
    have hsp : k = 0 ∨ k = 1 := by
      have t_b4 := b4
      have tn2652_ : nIT N := fun _ => nI_toInt (by omega)
      have t_n0 : (nI N).toInt = (N : Int) := tn2652_ ()
      have tn2653_ : nIT B := fun _ => nI_toInt (by omega)
      have t_n1 : (nI B).toInt = (B : Int) := tn2653_ ()
      have tn2654_ : nIT D := fun _ => nI_toInt (by omega)
      have t_n2 : (nI D).toInt = (D : Int) := tn2654_ ()
      have tn2655_ : nIT N0 := fun _ => nI_toInt (by omega)
      have t_n3 : (nI N0).toInt = (N0 : Int) := tn2655_ ()
      have tn2656_ : nIT B0 := fun _ => nI_toInt (by omega)
      have t_n4 : (nI B0).toInt = (B0 : Int) := tn2656_ ()
      have tn2657_ : nIT D0 := fun _ => nI_toInt (by omega)
      have t_n5 : (nI D0).toInt = (D0 : Int) := tn2657_ ()
      have tn2658_ : nIT N1 := fun _ => nI_toInt (by omega)
      have t_n6 : (nI N1).toInt = (N1 : Int) := tn2658_ ()
      have tn2659_ : nIT B1 := fun _ => nI_toInt (by omega)
      have t_n7 : (nI B1).toInt = (B1 : Int) := tn2659_ ()
      have tn2660_ : nIT D1 := fun _ => nI_toInt (by omega)
      have t_n8 : (nI D1).toInt = (D1 : Int) := tn2660_ ()
      have : (0 : Int32).toInt = 0 := by decide
      have : (1 : Int32).toInt = 1 := by decide
      rcases (show k.toInt = 0 ∨ k.toInt = 1 by omega) with q | q
      · exact Or.inl (Int32.toInt_inj.mp (by rw [q]; rfl))
      · exact Or.inr ((Int32.toInt_inj.mp (by rw [q]; rfl)))
    rcases hsp with rfl | rfl
    · skip
      refine lv_aload_n hx hb dX10_keep_9 rfl (lv_at hl 0 rfl) ?_
      refine va_get (D := (dC, dI)) (ci := 10) (v := .ref kp) (C := RX10) (T := TX10) (N := 14) hx hb hg inG10 hown hK.1 hP 0 rfl rfl 4 (by decide) (hg _ wt_306) (fun _ h9 => h9) rfl dX10_keep_10 ?_
      refine lv_iload_n hx hb dX10_keep_13 rfl (lv_at hl 1 rfl) ?_
      refine va_zald hx hb hK.1 hP 9 2 rfl rfl (vp_in_iff.mpr ⟨by decide, by decide⟩) dX10_keep_14 ?_
      refine lv_cg (y := fk 0) (by rfl) ?_
      refine lv_if_eq (tgt := 22) hx hb dX10_keep_15 (by decide) (fun c5 => ?_) (fun c5 => ?_)
      · skip
        refine lv_iconst (v := 0) hx hb dX10_keep_22 (by decide) ?_
        refine lv_istore_n (lv' := [(2, .int 0), (0, .ref h0), (1, .int 0)]) hx hb dX10_keep_23 rfl hl (by decide) rfl (fun ls hl => ?_)
        refine lv_aload_n hx hb dX10_keep_24 rfl (lv_at hl 1 rfl) ?_
        refine va_get (D := (dC, dI)) (ci := 10) (v := .ref im) (C := RX10) (T := TX10) (N := 14) hx hb hg inG10 hown hK.1 hP 0 rfl rfl 3 (by decide) (hg _ wt_305) (fun _ h9 => h9) rfl dX10_keep_25 ?_
        refine lv_iload_n hx hb dX10_keep_28 rfl (lv_at hl 2 rfl) ?_
        refine va_aldq hx hb hK.1 hP 8 3 rfl rfl (vp_in_iff.mpr ⟨by decide, by decide⟩) dX10_keep_29 ?_
        refine lv_cgv (y := .ref i0) (by rfl) ?_
        refine lv_aload_n hx hb dX10_keep_30 rfl (lv_at hl 1 rfl) ?_
        refine va_get (D := (dC, dI)) (ci := 10) (v := .ref wy) (C := RX10) (T := TX10) (N := 14) hx hb hg inG10 hown hK.1 hP 0 rfl rfl 1 (by decide) (hg _ wt_303) (fun _ h9 => h9) rfl dX10_keep_31 ?_
        have hPc := hP.sub (ws' := [(i0, .inr (9, [.int (nI N0), .int (nI B0), .int (nI D0), .ref ib1, .ref ib2, .ref ib3, .ref ib4, .ref ib5, .ref ib6])), (ib1, .inl (G 0, 10, .inl ibf1)), (ib2, .inl (G 0, 10, .inl ibf2)), (ib3, .inl (G 0, 10, .inl ibf3)), (ib4, .inl (G 0, 6, .inl ibf4)), (ib5, .inl (G 0, 6, .inl ibf5)), (ib6, .inl (G 0, 6, .inl ibf6)), (wy, .inr (9, [.int (nI N), .int (nI B), .int (nI D), .ref a1, .ref a2, .ref a3, .ref a4, .ref a5, .ref a6])), (a1, .inl (G 0, 10, .inl f1)), (a2, .inl (G 0, 10, .inl f2)), (a3, .inl (G 0, 10, .inl f3)), (a4, .inl (G 0, 6, .inl f4)), (a5, .inl (G 0, 6, .inl f5)), (a6, .inl (G 0, 6, .inl f6))]) [10, 11, 12, 13, 14, 15, 16, 1, 2, 3, 4, 5, 6, 7] rfl
        have hDc := hD.sub (ws' := [(i0, .inr (9, [.int (nI N0), .int (nI B0), .int (nI D0), .ref ib1, .ref ib2, .ref ib3, .ref ib4, .ref ib5, .ref ib6])), (ib1, .inl (G 0, 10, .inl ibf1)), (ib2, .inl (G 0, 10, .inl ibf2)), (ib3, .inl (G 0, 10, .inl ibf3)), (ib4, .inl (G 0, 6, .inl ibf4)), (ib5, .inl (G 0, 6, .inl ibf5)), (ib6, .inl (G 0, 6, .inl ibf6)), (wy, .inr (9, [.int (nI N), .int (nI B), .int (nI D), .ref a1, .ref a2, .ref a3, .ref a4, .ref a5, .ref a6])), (a1, .inl (G 0, 10, .inl f1)), (a2, .inl (G 0, 10, .inl f2)), (a3, .inl (G 0, 10, .inl f3)), (a4, .inl (G 0, 6, .inl f4)), (a5, .inl (G 0, 6, .inl f5)), (a6, .inl (G 0, 6, .inl f6))]) [10, 11, 12, 13, 14, 15, 16, 1, 2, 3, 4, 5, 6, 7] (by decide) rfl
        have hFc := va_free (wc := [(i0, .inr (9, [.int (nI N0), .int (nI B0), .int (nI D0), .ref ib1, .ref ib2, .ref ib3, .ref ib4, .ref ib5, .ref ib6])), (ib1, .inl (G 0, 10, .inl ibf1)), (ib2, .inl (G 0, 10, .inl ibf2)), (ib3, .inl (G 0, 10, .inl ibf3)), (ib4, .inl (G 0, 6, .inl ibf4)), (ib5, .inl (G 0, 6, .inl ibf5)), (ib6, .inl (G 0, 6, .inl ibf6)), (wy, .inr (9, [.int (nI N), .int (nI B), .int (nI D), .ref a1, .ref a2, .ref a3, .ref a4, .ref a5, .ref a6])), (a1, .inl (G 0, 10, .inl f1)), (a2, .inl (G 0, 10, .inl f2)), (a3, .inl (G 0, 10, .inl f3)), (a4, .inl (G 0, 6, .inl f4)), (a5, .inl (G 0, 6, .inl f5)), (a6, .inl (G 0, 6, .inl f6))]) hD hS hA [10, 11, 12, 13, 14, 15, 16, 1, 2, 3, 4, 5, 6, 7] rfl
        refine va_callv (va_runVN (As := [.ref wy]) (rest := []) ⟨hx, hb, hml, hown, hg⟩ (c_X9_copyOfE l dC dI G _ i0 wy ib1 ib2 ib3 ib4 ib5 ib6 a1 a2 a3 a4 a5 a6 (nI N0) (nI B0) (nI D0) (nI N) (nI B) (nI D) ibf1 ibf2 ibf3 ibf4 ibf5 ibf6 f1 f2 f3 f4 f5 f6) (kwVN hg hK mfX9_copyOf wn_507 ⟨Nat.le_of_ble_eq_true rfl, Nat.le_of_ble_eq_true rfl⟩) (preVW hK hPc hDc (ci := 9) rfl rfl) rfl rfl hl.1 rfl (lv_room (Nat.le_of_ble_eq_true rfl)) dX10_keep_34 ⟨Nat.le_of_ble_eq_true rfl, Nat.le_of_ble_eq_true rfl⟩) hS (fun q _ h => hFc q h) hFc (fun ur6 t H1 locs ht hvm w7 hB hz1 hk1 hS => ?_)
        obtain ⟨u8, u9, u10, u11, u12, u13⟩ := ur6
        obtain ⟨hP1, hD1⟩ := hB
        rw [ht] at hP1
        obtain ⟨hP, hD⟩ := va_join (wr := [(h0, .inr (10, [.ref rd, .ref wy, .ref tr, .ref im, .ref kp, .ref od, .ref ch, .ref cr, .ref le, .ref mk, .ref tl, .ref sh, .int tf, .int rf])), (im, .inl (G 3, 2, .inr (.inr (.inr (.inr (va_up (va_up (fun _ => none) 0 (some i0)) 1 (some i1))))))), (kp, .inl (G 2, 2, .inl fk)), (i1, .inr (9, [.int (nI N1), .int (nI B1), .int (nI D1), .ref id1, .ref id2, .ref id3, .ref id4, .ref id5, .ref id6])), (id1, .inl (G 0, 10, .inl idf1)), (id2, .inl (G 0, 10, .inl idf2)), (id3, .inl (G 0, 10, .inl idf3)), (id4, .inl (G 0, 6, .inl idf4)), (id5, .inl (G 0, 6, .inl idf5)), (id6, .inl (G 0, 6, .inl idf6))]) (w1 := [(i0, .inr (9, [.int (nI N), .int (nI B), .int (nI D), .ref ib1, .ref ib2, .ref ib3, .ref ib4, .ref ib5, .ref ib6])), (ib1, .inl (G 0, 10, .inl u8)), (ib2, .inl (G 0, 10, .inl u9)), (ib3, .inl (G 0, 10, .inl u10)), (ib4, .inl (G 0, 6, .inl u11)), (ib5, .inl (G 0, 6, .inl u12)), (ib6, .inl (G 0, 6, .inl u13)), (wy, .inr (9, [.int (nI N), .int (nI B), .int (nI D), .ref a1, .ref a2, .ref a3, .ref a4, .ref a5, .ref a6])), (a1, .inl (G 0, 10, .inl f1)), (a2, .inl (G 0, 10, .inl f2)), (a3, .inl (G 0, 10, .inl f3)), (a4, .inl (G 0, 6, .inl f4)), (a5, .inl (G 0, 6, .inl f5)), (a6, .inl (G 0, 6, .inl f6))]) hP hD [10, 11, 12, 13, 14, 15, 16, 1, 2, 3, 4, 5, 6, 7] [0, 8, 9, 17, 18, 19, 20, 21, 22, 23] rfl rfl (by decide) (by decide) hk1 hFc hP1 hD1
        have w7 : u8 = va_cpy f1 ibf1 0 0 10 ∧ u9 = va_cpy f2 ibf2 0 0 10 ∧ u10 = va_cpy f3 ibf3 0 0 10 ∧ u11 = va_cpy f4 ibf4 0 0 6 ∧ u12 = va_cpy f5 ibf5 0 0 6 ∧ u13 = va_cpy f6 ibf6 0 0 6 := w7
        generalize H1 = H at hP hS ⊢
        have hP : va_P (dC, dI) vwCl [(h0, .inr (10, [.ref rd, .ref wy, .ref tr, .ref im, .ref kp, .ref od, .ref ch, .ref cr, .ref le, .ref mk, .ref tl, .ref sh, .int tf, .int rf])), (im, .inl (G 3, 2, .inr (.inr (.inr (.inr (va_up (va_up (fun _ => none) 0 (some i0)) 1 (some i1))))))), (kp, .inl (G 2, 2, .inl fk)), (i1, .inr (9, [.int (nI N1), .int (nI B1), .int (nI D1), .ref id1, .ref id2, .ref id3, .ref id4, .ref id5, .ref id6])), (id1, .inl (G 0, 10, .inl idf1)), (id2, .inl (G 0, 10, .inl idf2)), (id3, .inl (G 0, 10, .inl idf3)), (id4, .inl (G 0, 6, .inl idf4)), (id5, .inl (G 0, 6, .inl idf5)), (id6, .inl (G 0, 6, .inl idf6)), (i0, .inr (9, [.int (nI N), .int (nI B), .int (nI D), .ref ib1, .ref ib2, .ref ib3, .ref ib4, .ref ib5, .ref ib6])), (ib1, .inl (G 0, 10, .inl u8)), (ib2, .inl (G 0, 10, .inl u9)), (ib3, .inl (G 0, 10, .inl u10)), (ib4, .inl (G 0, 6, .inl u11)), (ib5, .inl (G 0, 6, .inl u12)), (ib6, .inl (G 0, 6, .inl u13)), (wy, .inr (9, [.int (nI N), .int (nI B), .int (nI D), .ref a1, .ref a2, .ref a3, .ref a4, .ref a5, .ref a6])), (a1, .inl (G 0, 10, .inl f1)), (a2, .inl (G 0, 10, .inl f2)), (a3, .inl (G 0, 10, .inl f3)), (a4, .inl (G 0, 6, .inl f4)), (a5, .inl (G 0, 6, .inl f5)), (a6, .inl (G 0, 6, .inl f6))] H := hP
        have hD : va_D A [(h0, .inr (10, [.ref rd, .ref wy, .ref tr, .ref im, .ref kp, .ref od, .ref ch, .ref cr, .ref le, .ref mk, .ref tl, .ref sh, .int tf, .int rf])), (im, .inl (G 3, 2, .inr (.inr (.inr (.inr (va_up (va_up (fun _ => none) 0 (some i0)) 1 (some i1))))))), (kp, .inl (G 2, 2, .inl fk)), (i1, .inr (9, [.int (nI N1), .int (nI B1), .int (nI D1), .ref id1, .ref id2, .ref id3, .ref id4, .ref id5, .ref id6])), (id1, .inl (G 0, 10, .inl idf1)), (id2, .inl (G 0, 10, .inl idf2)), (id3, .inl (G 0, 10, .inl idf3)), (id4, .inl (G 0, 6, .inl idf4)), (id5, .inl (G 0, 6, .inl idf5)), (id6, .inl (G 0, 6, .inl idf6)), (i0, .inr (9, [.int (nI N), .int (nI B), .int (nI D), .ref ib1, .ref ib2, .ref ib3, .ref ib4, .ref ib5, .ref ib6])), (ib1, .inl (G 0, 10, .inl u8)), (ib2, .inl (G 0, 10, .inl u9)), (ib3, .inl (G 0, 10, .inl u10)), (ib4, .inl (G 0, 6, .inl u11)), (ib5, .inl (G 0, 6, .inl u12)), (ib6, .inl (G 0, 6, .inl u13)), (wy, .inr (9, [.int (nI N), .int (nI B), .int (nI D), .ref a1, .ref a2, .ref a3, .ref a4, .ref a5, .ref a6])), (a1, .inl (G 0, 10, .inl f1)), (a2, .inl (G 0, 10, .inl f2)), (a3, .inl (G 0, 10, .inl f3)), (a4, .inl (G 0, 6, .inl f4)), (a5, .inl (G 0, 6, .inl f5)), (a6, .inl (G 0, 6, .inl f6))] := hD
        refine lv_aload_n hx hb dX10_keep_37 rfl (lv_at hl 1 rfl) ?_
        refine va_get (D := (dC, dI)) (ci := 10) (v := .ref kp) (C := RX10) (T := TX10) (N := 14) hx hb hg inG10 hown hK.1 hP 0 rfl rfl 4 (by decide) (hg _ wt_306) (fun _ h9 => h9) rfl dX10_keep_38 ?_
        refine lv_iload_n hx hb dX10_keep_41 rfl (lv_at hl 2 rfl) ?_
        refine lv_iconst (v := 1) hx hb dX10_keep_42 (by decide) ?_
        refine va_zast hx hb hK.1 hP hD hS 2 2 rfl rfl (vp_in_iff.mpr ⟨by decide, by decide⟩) dX10_keep_43 (fun H locs hP hD hS => ?_)
        have hP : va_P (dC, dI) vwCl [(h0, .inr (10, [.ref rd, .ref wy, .ref tr, .ref im, .ref kp, .ref od, .ref ch, .ref cr, .ref le, .ref mk, .ref tl, .ref sh, .int tf, .int rf])), (im, .inl (G 3, 2, .inr (.inr (.inr (.inr (va_up (va_up (fun _ => none) 0 (some i0)) 1 (some i1))))))), (kp, .inl (G 2, 2, .inl (upd fk 0 (vp_nar .boolean 1)))), (i1, .inr (9, [.int (nI N1), .int (nI B1), .int (nI D1), .ref id1, .ref id2, .ref id3, .ref id4, .ref id5, .ref id6])), (id1, .inl (G 0, 10, .inl idf1)), (id2, .inl (G 0, 10, .inl idf2)), (id3, .inl (G 0, 10, .inl idf3)), (id4, .inl (G 0, 6, .inl idf4)), (id5, .inl (G 0, 6, .inl idf5)), (id6, .inl (G 0, 6, .inl idf6)), (i0, .inr (9, [.int (nI N), .int (nI B), .int (nI D), .ref ib1, .ref ib2, .ref ib3, .ref ib4, .ref ib5, .ref ib6])), (ib1, .inl (G 0, 10, .inl u8)), (ib2, .inl (G 0, 10, .inl u9)), (ib3, .inl (G 0, 10, .inl u10)), (ib4, .inl (G 0, 6, .inl u11)), (ib5, .inl (G 0, 6, .inl u12)), (ib6, .inl (G 0, 6, .inl u13)), (wy, .inr (9, [.int (nI N), .int (nI B), .int (nI D), .ref a1, .ref a2, .ref a3, .ref a4, .ref a5, .ref a6])), (a1, .inl (G 0, 10, .inl f1)), (a2, .inl (G 0, 10, .inl f2)), (a3, .inl (G 0, 10, .inl f3)), (a4, .inl (G 0, 6, .inl f4)), (a5, .inl (G 0, 6, .inl f5)), (a6, .inl (G 0, 6, .inl f6))] H := hP
        have hD : va_D A [(h0, .inr (10, [.ref rd, .ref wy, .ref tr, .ref im, .ref kp, .ref od, .ref ch, .ref cr, .ref le, .ref mk, .ref tl, .ref sh, .int tf, .int rf])), (im, .inl (G 3, 2, .inr (.inr (.inr (.inr (va_up (va_up (fun _ => none) 0 (some i0)) 1 (some i1))))))), (kp, .inl (G 2, 2, .inl (upd fk 0 (vp_nar .boolean 1)))), (i1, .inr (9, [.int (nI N1), .int (nI B1), .int (nI D1), .ref id1, .ref id2, .ref id3, .ref id4, .ref id5, .ref id6])), (id1, .inl (G 0, 10, .inl idf1)), (id2, .inl (G 0, 10, .inl idf2)), (id3, .inl (G 0, 10, .inl idf3)), (id4, .inl (G 0, 6, .inl idf4)), (id5, .inl (G 0, 6, .inl idf5)), (id6, .inl (G 0, 6, .inl idf6)), (i0, .inr (9, [.int (nI N), .int (nI B), .int (nI D), .ref ib1, .ref ib2, .ref ib3, .ref ib4, .ref ib5, .ref ib6])), (ib1, .inl (G 0, 10, .inl u8)), (ib2, .inl (G 0, 10, .inl u9)), (ib3, .inl (G 0, 10, .inl u10)), (ib4, .inl (G 0, 6, .inl u11)), (ib5, .inl (G 0, 6, .inl u12)), (ib6, .inl (G 0, 6, .inl u13)), (wy, .inr (9, [.int (nI N), .int (nI B), .int (nI D), .ref a1, .ref a2, .ref a3, .ref a4, .ref a5, .ref a6])), (a1, .inl (G 0, 10, .inl f1)), (a2, .inl (G 0, 10, .inl f2)), (a3, .inl (G 0, 10, .inl f3)), (a4, .inl (G 0, 6, .inl f4)), (a5, .inl (G 0, 6, .inl f5)), (a6, .inl (G 0, 6, .inl f6))] := hD
        refine lv_iload_n hx hb dX10_keep_44 rfl (lv_at hl 0 rfl) ?_
        have hpost : (0 : Int32) = if (0 ≤ (0 : Int32).toInt ∧ (0 : Int32).toInt < 2) then (if fk (0 : Int32).toNatClampNeg = 0 then 0 else 1) else -1 := by
          have tn2661_ : nIT N := fun _ => nI_toInt (by omega)
          have tn2662_ : nIT B := fun _ => nI_toInt (by omega)
          have tn2663_ : nIT D := fun _ => nI_toInt (by omega)
          have tn2664_ : nIT N0 := fun _ => nI_toInt (by omega)
          have tn2665_ : nIT B0 := fun _ => nI_toInt (by omega)
          have tn2666_ : nIT D0 := fun _ => nI_toInt (by omega)
          have tn2667_ : nIT N1 := fun _ => nI_toInt (by omega)
          have tn2668_ : nIT B1 := fun _ => nI_toInt (by omega)
          have tn2669_ : nIT D1 := fun _ => nI_toInt (by omega)
          have k0 : (0 : Int32).toNatClampNeg = 0 := (by decide)
          have k1 : (1 : Int32).toNatClampNeg = 1 := (by decide)
          first | (rw [if_neg (by (have t_c5 := eqI c5; have : (0 : Int32).toInt = 0 := qI_0; have t_n0 : (nI N).toInt = (N : Int) := tn2661_ (); have t_n1 : (nI B).toInt = (B : Int) := tn2662_ (); have t_n2 : (nI D).toInt = (D : Int) := tn2663_ (); have t_n3 : (nI N0).toInt = (N0 : Int) := tn2664_ (); have t_n4 : (nI B0).toInt = (B0 : Int) := tn2665_ (); have t_n5 : (nI D0).toInt = (D0 : Int) := tn2666_ (); have t_n6 : (nI N1).toInt = (N1 : Int) := tn2667_ (); have t_n7 : (nI B1).toInt = (B1 : Int) := tn2668_ (); have t_n8 : (nI D1).toInt = (D1 : Int) := tn2669_ (); have z0 : (0 : Int32).toInt = 0 := qI_0; have z1 : (1 : Int32).toInt = 1 := qI_1; have z2 : (2 : Int32).toInt = 2 := qI_2; have z3 : (3 : Int32).toInt = 3 := qI_3; have z5 : (5 : Int32).toInt = 5 := qI_5; have z9 : (9 : Int32).toInt = 9 := qI_9; have z20 : (20 : Int32).toInt = 20 := qI_20; have z4 : (-4 : Int32).toInt = -4 := (by decide); have z10 : (10 : Int32).toInt = 10 := qI_10; omega))]; done) | (rw [if_pos (by decide)]; (try rw [k0]); (try rw [k1]); first | (rw [if_pos (by assumption)]; done) | (rw [if_neg (by assumption)]; done))
        have hP9 := hP.sub (ws' := [(h0, .inr (10, [.ref rd, .ref wy, .ref tr, .ref im, .ref kp, .ref od, .ref ch, .ref cr, .ref le, .ref mk, .ref tl, .ref sh, .int tf, .int rf])), (wy, .inr (9, [.int (nI N), .int (nI B), .int (nI D), .ref a1, .ref a2, .ref a3, .ref a4, .ref a5, .ref a6])), (a1, .inl (G 0, 10, .inl f1)), (a2, .inl (G 0, 10, .inl f2)), (a3, .inl (G 0, 10, .inl f3)), (a4, .inl (G 0, 6, .inl f4)), (a5, .inl (G 0, 6, .inl f5)), (a6, .inl (G 0, 6, .inl f6)), (im, .inl (G 3, 2, .inr (.inr (.inr (.inr (va_up (va_up (fun _ => none) 0 (some i0)) 1 (some i1))))))), (kp, .inl (G 2, 2, .inl (upd fk 0 (vp_nar .boolean 1)))), (i0, .inr (9, [.int (nI N), .int (nI B), .int (nI D), .ref ib1, .ref ib2, .ref ib3, .ref ib4, .ref ib5, .ref ib6])), (ib1, .inl (G 0, 10, .inl u8)), (ib2, .inl (G 0, 10, .inl u9)), (ib3, .inl (G 0, 10, .inl u10)), (ib4, .inl (G 0, 6, .inl u11)), (ib5, .inl (G 0, 6, .inl u12)), (ib6, .inl (G 0, 6, .inl u13)), (i1, .inr (9, [.int (nI N1), .int (nI B1), .int (nI D1), .ref id1, .ref id2, .ref id3, .ref id4, .ref id5, .ref id6])), (id1, .inl (G 0, 10, .inl idf1)), (id2, .inl (G 0, 10, .inl idf2)), (id3, .inl (G 0, 10, .inl idf3)), (id4, .inl (G 0, 6, .inl idf4)), (id5, .inl (G 0, 6, .inl idf5)), (id6, .inl (G 0, 6, .inl idf6))]) [0, 17, 18, 19, 20, 21, 22, 23, 1, 2, 10, 11, 12, 13, 14, 15, 16, 3, 4, 5, 6, 7, 8, 9] rfl
        have hD9 := hD.sub (ws' := [(h0, .inr (10, [.ref rd, .ref wy, .ref tr, .ref im, .ref kp, .ref od, .ref ch, .ref cr, .ref le, .ref mk, .ref tl, .ref sh, .int tf, .int rf])), (wy, .inr (9, [.int (nI N), .int (nI B), .int (nI D), .ref a1, .ref a2, .ref a3, .ref a4, .ref a5, .ref a6])), (a1, .inl (G 0, 10, .inl f1)), (a2, .inl (G 0, 10, .inl f2)), (a3, .inl (G 0, 10, .inl f3)), (a4, .inl (G 0, 6, .inl f4)), (a5, .inl (G 0, 6, .inl f5)), (a6, .inl (G 0, 6, .inl f6)), (im, .inl (G 3, 2, .inr (.inr (.inr (.inr (va_up (va_up (fun _ => none) 0 (some i0)) 1 (some i1))))))), (kp, .inl (G 2, 2, .inl (upd fk 0 (vp_nar .boolean 1)))), (i0, .inr (9, [.int (nI N), .int (nI B), .int (nI D), .ref ib1, .ref ib2, .ref ib3, .ref ib4, .ref ib5, .ref ib6])), (ib1, .inl (G 0, 10, .inl u8)), (ib2, .inl (G 0, 10, .inl u9)), (ib3, .inl (G 0, 10, .inl u10)), (ib4, .inl (G 0, 6, .inl u11)), (ib5, .inl (G 0, 6, .inl u12)), (ib6, .inl (G 0, 6, .inl u13)), (i1, .inr (9, [.int (nI N1), .int (nI B1), .int (nI D1), .ref id1, .ref id2, .ref id3, .ref id4, .ref id5, .ref id6])), (id1, .inl (G 0, 10, .inl idf1)), (id2, .inl (G 0, 10, .inl idf2)), (id3, .inl (G 0, 10, .inl idf3)), (id4, .inl (G 0, 6, .inl idf4)), (id5, .inl (G 0, 6, .inl idf5)), (id6, .inl (G 0, 6, .inl idf6))]) [0, 17, 18, 19, 20, 21, 22, 23, 1, 2, 10, 11, 12, 13, 14, 15, 16, 3, 4, 5, 6, 7, 8, 9] (by decide) rfl
        refine W.widen (k := 0) (n := 0) (Nat.le_of_ble_eq_true rfl) (Nat.le_of_ble_eq_true rfl) ?_
        have tn2670_ : nIT N := fun _ => nI_toInt (by first | omega | (have t_c5 := eqI c5; have : (0 : Int32).toInt = 0 := qI_0; omega))
        have tn2671_ : nIT B := fun _ => nI_toInt (by first | omega | (have t_c5 := eqI c5; have : (0 : Int32).toInt = 0 := qI_0; omega))
        have tn2672_ : nIT D := fun _ => nI_toInt (by first | omega | (have t_c5 := eqI c5; have : (0 : Int32).toInt = 0 := qI_0; omega))
        have tn2673_ : nIT N0 := fun _ => nI_toInt (by first | omega | (have t_c5 := eqI c5; have : (0 : Int32).toInt = 0 := qI_0; omega))
        have tn2674_ : nIT B0 := fun _ => nI_toInt (by first | omega | (have t_c5 := eqI c5; have : (0 : Int32).toInt = 0 := qI_0; omega))
        have tn2675_ : nIT D0 := fun _ => nI_toInt (by first | omega | (have t_c5 := eqI c5; have : (0 : Int32).toInt = 0 := qI_0; omega))
        have tn2676_ : nIT N1 := fun _ => nI_toInt (by first | omega | (have t_c5 := eqI c5; have : (0 : Int32).toInt = 0 := qI_0; omega))
        have tn2677_ : nIT B1 := fun _ => nI_toInt (by first | omega | (have t_c5 := eqI c5; have : (0 : Int32).toInt = 0 := qI_0; omega))
        have tn2678_ : nIT D1 := fun _ => nI_toInt (by first | omega | (have t_c5 := eqI c5; have : (0 : Int32).toInt = 0 := qI_0; omega))
        exact W.iret (v := 0) hx hb hr (fun t ht hW => ⟨⟨0, (N, B, D, u8, u9, u10, u11, u12, u13, N1, B1, D1, idf1, idf2, idf3, idf4, idf5, idf6, (upd fk 0 (vp_nar .boolean 1))), rfl, ⟨hpost, (by have k0 : (0 : Int32).toNatClampNeg = 0 := (by decide); have k1 : (1 : Int32).toNatClampNeg = 1 := (by decide); refine ⟨⟨⟨by (have t_c5 := eqI c5; have : (0 : Int32).toInt = 0 := qI_0; have t_n0 : (nI N).toInt = (N : Int) := tn2670_ (); have t_n1 : (nI B).toInt = (B : Int) := tn2671_ (); have t_n2 : (nI D).toInt = (D : Int) := tn2672_ (); have t_n3 : (nI N0).toInt = (N0 : Int) := tn2673_ (); have t_n4 : (nI B0).toInt = (B0 : Int) := tn2674_ (); have t_n5 : (nI D0).toInt = (D0 : Int) := tn2675_ (); have t_n6 : (nI N1).toInt = (N1 : Int) := tn2676_ (); have t_n7 : (nI B1).toInt = (B1 : Int) := tn2677_ (); have t_n8 : (nI D1).toInt = (D1 : Int) := tn2678_ (); have z0 : (0 : Int32).toInt = 0 := qI_0; have z1 : (1 : Int32).toInt = 1 := qI_1; have z2 : (2 : Int32).toInt = 2 := qI_2; have z3 : (3 : Int32).toInt = 3 := qI_3; have z5 : (5 : Int32).toInt = 5 := qI_5; have z9 : (9 : Int32).toInt = 9 := qI_9; have z20 : (20 : Int32).toInt = 20 := qI_20; have z4 : (-4 : Int32).toInt = -4 := (by decide); have z10 : (10 : Int32).toInt = 10 := qI_10; omega), by (have t_c5 := eqI c5; have : (0 : Int32).toInt = 0 := qI_0; have t_n0 : (nI N).toInt = (N : Int) := tn2670_ (); have t_n1 : (nI B).toInt = (B : Int) := tn2671_ (); have t_n2 : (nI D).toInt = (D : Int) := tn2672_ (); have t_n3 : (nI N0).toInt = (N0 : Int) := tn2673_ (); have t_n4 : (nI B0).toInt = (B0 : Int) := tn2674_ (); have t_n5 : (nI D0).toInt = (D0 : Int) := tn2675_ (); have t_n6 : (nI N1).toInt = (N1 : Int) := tn2676_ (); have t_n7 : (nI B1).toInt = (B1 : Int) := tn2677_ (); have t_n8 : (nI D1).toInt = (D1 : Int) := tn2678_ (); have z0 : (0 : Int32).toInt = 0 := qI_0; have z1 : (1 : Int32).toInt = 1 := qI_1; have z2 : (2 : Int32).toInt = 2 := qI_2; have z3 : (3 : Int32).toInt = 3 := qI_3; have z5 : (5 : Int32).toInt = 5 := qI_5; have z9 : (9 : Int32).toInt = 9 := qI_9; have z20 : (20 : Int32).toInt = 20 := qI_20; have z4 : (-4 : Int32).toInt = -4 := (by decide); have z10 : (10 : Int32).toInt = 10 := qI_10; omega), by (have t_c5 := eqI c5; have : (0 : Int32).toInt = 0 := qI_0; have t_n0 : (nI N).toInt = (N : Int) := tn2670_ (); have t_n1 : (nI B).toInt = (B : Int) := tn2671_ (); have t_n2 : (nI D).toInt = (D : Int) := tn2672_ (); have t_n3 : (nI N0).toInt = (N0 : Int) := tn2673_ (); have t_n4 : (nI B0).toInt = (B0 : Int) := tn2674_ (); have t_n5 : (nI D0).toInt = (D0 : Int) := tn2675_ (); have t_n6 : (nI N1).toInt = (N1 : Int) := tn2676_ (); have t_n7 : (nI B1).toInt = (B1 : Int) := tn2677_ (); have t_n8 : (nI D1).toInt = (D1 : Int) := tn2678_ (); have z0 : (0 : Int32).toInt = 0 := qI_0; have z1 : (1 : Int32).toInt = 1 := qI_1; have z2 : (2 : Int32).toInt = 2 := qI_2; have z3 : (3 : Int32).toInt = 3 := qI_3; have z5 : (5 : Int32).toInt = 5 := qI_5; have z9 : (9 : Int32).toInt = 9 := qI_9; have z20 : (20 : Int32).toInt = 20 := qI_20; have z4 : (-4 : Int32).toInt = -4 := (by decide); have z10 : (10 : Int32).toInt = 10 := qI_10; omega), by (have t_c5 := eqI c5; have : (0 : Int32).toInt = 0 := qI_0; have t_n0 : (nI N).toInt = (N : Int) := tn2670_ (); have t_n1 : (nI B).toInt = (B : Int) := tn2671_ (); have t_n2 : (nI D).toInt = (D : Int) := tn2672_ (); have t_n3 : (nI N0).toInt = (N0 : Int) := tn2673_ (); have t_n4 : (nI B0).toInt = (B0 : Int) := tn2674_ (); have t_n5 : (nI D0).toInt = (D0 : Int) := tn2675_ (); have t_n6 : (nI N1).toInt = (N1 : Int) := tn2676_ (); have t_n7 : (nI B1).toInt = (B1 : Int) := tn2677_ (); have t_n8 : (nI D1).toInt = (D1 : Int) := tn2678_ (); have z0 : (0 : Int32).toInt = 0 := qI_0; have z1 : (1 : Int32).toInt = 1 := qI_1; have z2 : (2 : Int32).toInt = 2 := qI_2; have z3 : (3 : Int32).toInt = 3 := qI_3; have z5 : (5 : Int32).toInt = 5 := qI_5; have z9 : (9 : Int32).toInt = 9 := qI_9; have z20 : (20 : Int32).toInt = 20 := qI_20; have z4 : (-4 : Int32).toInt = -4 := (by decide); have z10 : (10 : Int32).toInt = 10 := qI_10; omega)⟩, ⟨by (have t_c5 := eqI c5; have : (0 : Int32).toInt = 0 := qI_0; have t_n0 : (nI N).toInt = (N : Int) := tn2670_ (); have t_n1 : (nI B).toInt = (B : Int) := tn2671_ (); have t_n2 : (nI D).toInt = (D : Int) := tn2672_ (); have t_n3 : (nI N0).toInt = (N0 : Int) := tn2673_ (); have t_n4 : (nI B0).toInt = (B0 : Int) := tn2674_ (); have t_n5 : (nI D0).toInt = (D0 : Int) := tn2675_ (); have t_n6 : (nI N1).toInt = (N1 : Int) := tn2676_ (); have t_n7 : (nI B1).toInt = (B1 : Int) := tn2677_ (); have t_n8 : (nI D1).toInt = (D1 : Int) := tn2678_ (); have z0 : (0 : Int32).toInt = 0 := qI_0; have z1 : (1 : Int32).toInt = 1 := qI_1; have z2 : (2 : Int32).toInt = 2 := qI_2; have z3 : (3 : Int32).toInt = 3 := qI_3; have z5 : (5 : Int32).toInt = 5 := qI_5; have z9 : (9 : Int32).toInt = 9 := qI_9; have z20 : (20 : Int32).toInt = 20 := qI_20; have z4 : (-4 : Int32).toInt = -4 := (by decide); have z10 : (10 : Int32).toInt = 10 := qI_10; omega), by (have t_c5 := eqI c5; have : (0 : Int32).toInt = 0 := qI_0; have t_n0 : (nI N).toInt = (N : Int) := tn2670_ (); have t_n1 : (nI B).toInt = (B : Int) := tn2671_ (); have t_n2 : (nI D).toInt = (D : Int) := tn2672_ (); have t_n3 : (nI N0).toInt = (N0 : Int) := tn2673_ (); have t_n4 : (nI B0).toInt = (B0 : Int) := tn2674_ (); have t_n5 : (nI D0).toInt = (D0 : Int) := tn2675_ (); have t_n6 : (nI N1).toInt = (N1 : Int) := tn2676_ (); have t_n7 : (nI B1).toInt = (B1 : Int) := tn2677_ (); have t_n8 : (nI D1).toInt = (D1 : Int) := tn2678_ (); have z0 : (0 : Int32).toInt = 0 := qI_0; have z1 : (1 : Int32).toInt = 1 := qI_1; have z2 : (2 : Int32).toInt = 2 := qI_2; have z3 : (3 : Int32).toInt = 3 := qI_3; have z5 : (5 : Int32).toInt = 5 := qI_5; have z9 : (9 : Int32).toInt = 9 := qI_9; have z20 : (20 : Int32).toInt = 20 := qI_20; have z4 : (-4 : Int32).toInt = -4 := (by decide); have z10 : (10 : Int32).toInt = 10 := qI_10; omega), by (have t_c5 := eqI c5; have : (0 : Int32).toInt = 0 := qI_0; have t_n0 : (nI N).toInt = (N : Int) := tn2670_ (); have t_n1 : (nI B).toInt = (B : Int) := tn2671_ (); have t_n2 : (nI D).toInt = (D : Int) := tn2672_ (); have t_n3 : (nI N0).toInt = (N0 : Int) := tn2673_ (); have t_n4 : (nI B0).toInt = (B0 : Int) := tn2674_ (); have t_n5 : (nI D0).toInt = (D0 : Int) := tn2675_ (); have t_n6 : (nI N1).toInt = (N1 : Int) := tn2676_ (); have t_n7 : (nI B1).toInt = (B1 : Int) := tn2677_ (); have t_n8 : (nI D1).toInt = (D1 : Int) := tn2678_ (); have z0 : (0 : Int32).toInt = 0 := qI_0; have z1 : (1 : Int32).toInt = 1 := qI_1; have z2 : (2 : Int32).toInt = 2 := qI_2; have z3 : (3 : Int32).toInt = 3 := qI_3; have z5 : (5 : Int32).toInt = 5 := qI_5; have z9 : (9 : Int32).toInt = 9 := qI_9; have z20 : (20 : Int32).toInt = 20 := qI_20; have z4 : (-4 : Int32).toInt = -4 := (by decide); have z10 : (10 : Int32).toInt = 10 := qI_10; omega), by (have t_c5 := eqI c5; have : (0 : Int32).toInt = 0 := qI_0; have t_n0 : (nI N).toInt = (N : Int) := tn2670_ (); have t_n1 : (nI B).toInt = (B : Int) := tn2671_ (); have t_n2 : (nI D).toInt = (D : Int) := tn2672_ (); have t_n3 : (nI N0).toInt = (N0 : Int) := tn2673_ (); have t_n4 : (nI B0).toInt = (B0 : Int) := tn2674_ (); have t_n5 : (nI D0).toInt = (D0 : Int) := tn2675_ (); have t_n6 : (nI N1).toInt = (N1 : Int) := tn2676_ (); have t_n7 : (nI B1).toInt = (B1 : Int) := tn2677_ (); have t_n8 : (nI D1).toInt = (D1 : Int) := tn2678_ (); have z0 : (0 : Int32).toInt = 0 := qI_0; have z1 : (1 : Int32).toInt = 1 := qI_1; have z2 : (2 : Int32).toInt = 2 := qI_2; have z3 : (3 : Int32).toInt = 3 := qI_3; have z5 : (5 : Int32).toInt = 5 := qI_5; have z9 : (9 : Int32).toInt = 9 := qI_9; have z20 : (20 : Int32).toInt = 20 := qI_20; have z4 : (-4 : Int32).toInt = -4 := (by decide); have z10 : (10 : Int32).toInt = 10 := qI_10; omega)⟩⟩, ?_, ?_, ?_, ?_, ?_, ?_, ?_, ?_, ?_, ?_, ?_, ?_, ?_, ?_, ?_, ?_, ?_, ?_, ?_⟩ <;> (first | done | rfl | (have t_c5 := eqI c5; have : (0 : Int32).toInt = 0 := qI_0; have t_n0 : (nI N).toInt = (N : Int) := tn2670_ (); have t_n1 : (nI B).toInt = (B : Int) := tn2671_ (); have t_n2 : (nI D).toInt = (D : Int) := tn2672_ (); have t_n3 : (nI N0).toInt = (N0 : Int) := tn2673_ (); have t_n4 : (nI B0).toInt = (B0 : Int) := tn2674_ (); have t_n5 : (nI D0).toInt = (D0 : Int) := tn2675_ (); have t_n6 : (nI N1).toInt = (N1 : Int) := tn2676_ (); have t_n7 : (nI B1).toInt = (B1 : Int) := tn2677_ (); have t_n8 : (nI D1).toInt = (D1 : Int) := tn2678_ (); have z0 : (0 : Int32).toInt = 0 := qI_0; have z1 : (1 : Int32).toInt = 1 := qI_1; have z2 : (2 : Int32).toInt = 2 := qI_2; have z3 : (3 : Int32).toInt = 3 := qI_3; have z5 : (5 : Int32).toInt = 5 := qI_5; have z9 : (9 : Int32).toInt = 9 := qI_9; have z20 : (20 : Int32).toInt = 20 := qI_20; have z4 : (-4 : Int32).toInt = -4 := (by decide); have z10 : (10 : Int32).toInt = 10 := qI_10; omega) | (rw [if_neg (by assumption)]; done) | (rw [if_neg (by decide)]; done) | (rw [if_pos (by decide)]; first | done | rfl | exact w7.1 | exact w7.2.1 | exact w7.2.2.1 | exact w7.2.2.2.1 | exact w7.2.2.2.2.1 | exact w7.2.2.2.2.2 | (rw [k0]; rfl) | (rw [k1]; rfl)) | (rw [if_pos rfl]; first | done | rfl | exact w7.1 | exact w7.2.1 | exact w7.2.2.1 | exact w7.2.2.2.1 | exact w7.2.2.2.2.1 | exact w7.2.2.2.2.2) | (rw [if_neg (by (have t_c5 := eqI c5; have : (0 : Int32).toInt = 0 := qI_0; have t_n0 : (nI N).toInt = (N : Int) := tn2670_ (); have t_n1 : (nI B).toInt = (B : Int) := tn2671_ (); have t_n2 : (nI D).toInt = (D : Int) := tn2672_ (); have t_n3 : (nI N0).toInt = (N0 : Int) := tn2673_ (); have t_n4 : (nI B0).toInt = (B0 : Int) := tn2674_ (); have t_n5 : (nI D0).toInt = (D0 : Int) := tn2675_ (); have t_n6 : (nI N1).toInt = (N1 : Int) := tn2676_ (); have t_n7 : (nI B1).toInt = (B1 : Int) := tn2677_ (); have t_n8 : (nI D1).toInt = (D1 : Int) := tn2678_ (); have z0 : (0 : Int32).toInt = 0 := qI_0; have z1 : (1 : Int32).toInt = 1 := qI_1; have z2 : (2 : Int32).toInt = 2 := qI_2; have z3 : (3 : Int32).toInt = 3 := qI_3; have z5 : (5 : Int32).toInt = 5 := qI_5; have z9 : (9 : Int32).toInt = 9 := qI_9; have z20 : (20 : Int32).toInt = 20 := qI_20; have z4 : (-4 : Int32).toInt = -4 := (by decide); have z10 : (10 : Int32).toInt = 10 := qI_10; omega))]; done) | (rw [if_neg (fun e9 => by have e8 := congrArg Int32.toInt e9; (have t_c5 := eqI c5; have : (0 : Int32).toInt = 0 := qI_0; have t_n0 : (nI N).toInt = (N : Int) := tn2670_ (); have t_n1 : (nI B).toInt = (B : Int) := tn2671_ (); have t_n2 : (nI D).toInt = (D : Int) := tn2672_ (); have t_n3 : (nI N0).toInt = (N0 : Int) := tn2673_ (); have t_n4 : (nI B0).toInt = (B0 : Int) := tn2674_ (); have t_n5 : (nI D0).toInt = (D0 : Int) := tn2675_ (); have t_n6 : (nI N1).toInt = (N1 : Int) := tn2676_ (); have t_n7 : (nI B1).toInt = (B1 : Int) := tn2677_ (); have t_n8 : (nI D1).toInt = (D1 : Int) := tn2678_ (); have z0 : (0 : Int32).toInt = 0 := qI_0; have z1 : (1 : Int32).toInt = 1 := qI_1; have z2 : (2 : Int32).toInt = 2 := qI_2; have z3 : (3 : Int32).toInt = 3 := qI_3; have z5 : (5 : Int32).toInt = 5 := qI_5; have z9 : (9 : Int32).toInt = 9 := qI_9; have z20 : (20 : Int32).toInt = 20 := qI_20; have z4 : (-4 : Int32).toInt = -4 := (by decide); have z10 : (10 : Int32).toInt = 10 := qI_10; omega))]; done)))⟩, ⟨by rw [ht]; exact hP9, hD9⟩⟩, hS.F ht⟩) hS.2.2 dX10_keep_45
      · skip
        refine lv_iconst (v := 1) hx hb dX10_keep_18 (by decide) ?_
        refine lv_goto (tgt := 23) hx hb dX10_keep_19 (by decide) ?_
        refine lv_istore_n (lv' := [(2, .int 1), (0, .ref h0), (1, .int 0)]) hx hb dX10_keep_23 rfl hl (by decide) rfl (fun ls hl => ?_)
        refine lv_aload_n hx hb dX10_keep_24 rfl (lv_at hl 1 rfl) ?_
        refine va_get (D := (dC, dI)) (ci := 10) (v := .ref im) (C := RX10) (T := TX10) (N := 14) hx hb hg inG10 hown hK.1 hP 0 rfl rfl 3 (by decide) (hg _ wt_305) (fun _ h9 => h9) rfl dX10_keep_25 ?_
        refine lv_iload_n hx hb dX10_keep_28 rfl (lv_at hl 2 rfl) ?_
        refine va_aldq hx hb hK.1 hP 8 3 rfl rfl (vp_in_iff.mpr ⟨by decide, by decide⟩) dX10_keep_29 ?_
        refine lv_cgv (y := .ref i0) (by rfl) ?_
        refine lv_aload_n hx hb dX10_keep_30 rfl (lv_at hl 1 rfl) ?_
        refine va_get (D := (dC, dI)) (ci := 10) (v := .ref wy) (C := RX10) (T := TX10) (N := 14) hx hb hg inG10 hown hK.1 hP 0 rfl rfl 1 (by decide) (hg _ wt_303) (fun _ h9 => h9) rfl dX10_keep_31 ?_
        have hPc := hP.sub (ws' := [(i0, .inr (9, [.int (nI N0), .int (nI B0), .int (nI D0), .ref ib1, .ref ib2, .ref ib3, .ref ib4, .ref ib5, .ref ib6])), (ib1, .inl (G 0, 10, .inl ibf1)), (ib2, .inl (G 0, 10, .inl ibf2)), (ib3, .inl (G 0, 10, .inl ibf3)), (ib4, .inl (G 0, 6, .inl ibf4)), (ib5, .inl (G 0, 6, .inl ibf5)), (ib6, .inl (G 0, 6, .inl ibf6)), (wy, .inr (9, [.int (nI N), .int (nI B), .int (nI D), .ref a1, .ref a2, .ref a3, .ref a4, .ref a5, .ref a6])), (a1, .inl (G 0, 10, .inl f1)), (a2, .inl (G 0, 10, .inl f2)), (a3, .inl (G 0, 10, .inl f3)), (a4, .inl (G 0, 6, .inl f4)), (a5, .inl (G 0, 6, .inl f5)), (a6, .inl (G 0, 6, .inl f6))]) [10, 11, 12, 13, 14, 15, 16, 1, 2, 3, 4, 5, 6, 7] rfl
        have hDc := hD.sub (ws' := [(i0, .inr (9, [.int (nI N0), .int (nI B0), .int (nI D0), .ref ib1, .ref ib2, .ref ib3, .ref ib4, .ref ib5, .ref ib6])), (ib1, .inl (G 0, 10, .inl ibf1)), (ib2, .inl (G 0, 10, .inl ibf2)), (ib3, .inl (G 0, 10, .inl ibf3)), (ib4, .inl (G 0, 6, .inl ibf4)), (ib5, .inl (G 0, 6, .inl ibf5)), (ib6, .inl (G 0, 6, .inl ibf6)), (wy, .inr (9, [.int (nI N), .int (nI B), .int (nI D), .ref a1, .ref a2, .ref a3, .ref a4, .ref a5, .ref a6])), (a1, .inl (G 0, 10, .inl f1)), (a2, .inl (G 0, 10, .inl f2)), (a3, .inl (G 0, 10, .inl f3)), (a4, .inl (G 0, 6, .inl f4)), (a5, .inl (G 0, 6, .inl f5)), (a6, .inl (G 0, 6, .inl f6))]) [10, 11, 12, 13, 14, 15, 16, 1, 2, 3, 4, 5, 6, 7] (by decide) rfl
        have hFc := va_free (wc := [(i0, .inr (9, [.int (nI N0), .int (nI B0), .int (nI D0), .ref ib1, .ref ib2, .ref ib3, .ref ib4, .ref ib5, .ref ib6])), (ib1, .inl (G 0, 10, .inl ibf1)), (ib2, .inl (G 0, 10, .inl ibf2)), (ib3, .inl (G 0, 10, .inl ibf3)), (ib4, .inl (G 0, 6, .inl ibf4)), (ib5, .inl (G 0, 6, .inl ibf5)), (ib6, .inl (G 0, 6, .inl ibf6)), (wy, .inr (9, [.int (nI N), .int (nI B), .int (nI D), .ref a1, .ref a2, .ref a3, .ref a4, .ref a5, .ref a6])), (a1, .inl (G 0, 10, .inl f1)), (a2, .inl (G 0, 10, .inl f2)), (a3, .inl (G 0, 10, .inl f3)), (a4, .inl (G 0, 6, .inl f4)), (a5, .inl (G 0, 6, .inl f5)), (a6, .inl (G 0, 6, .inl f6))]) hD hS hA [10, 11, 12, 13, 14, 15, 16, 1, 2, 3, 4, 5, 6, 7] rfl
        refine va_callv (va_runVN (As := [.ref wy]) (rest := []) ⟨hx, hb, hml, hown, hg⟩ (c_X9_copyOfE l dC dI G _ i0 wy ib1 ib2 ib3 ib4 ib5 ib6 a1 a2 a3 a4 a5 a6 (nI N0) (nI B0) (nI D0) (nI N) (nI B) (nI D) ibf1 ibf2 ibf3 ibf4 ibf5 ibf6 f1 f2 f3 f4 f5 f6) (kwVN hg hK mfX9_copyOf wn_507 ⟨Nat.le_of_ble_eq_true rfl, Nat.le_of_ble_eq_true rfl⟩) (preVW hK hPc hDc (ci := 9) rfl rfl) rfl rfl hl.1 rfl (lv_room (Nat.le_of_ble_eq_true rfl)) dX10_keep_34 ⟨Nat.le_of_ble_eq_true rfl, Nat.le_of_ble_eq_true rfl⟩) hS (fun q _ h => hFc q h) hFc (fun ur14 t H1 locs ht hvm w15 hB hz1 hk1 hS => ?_)
        obtain ⟨u16, u17, u18, u19, u20, u21⟩ := ur14
        obtain ⟨hP1, hD1⟩ := hB
        rw [ht] at hP1
        obtain ⟨hP, hD⟩ := va_join (wr := [(h0, .inr (10, [.ref rd, .ref wy, .ref tr, .ref im, .ref kp, .ref od, .ref ch, .ref cr, .ref le, .ref mk, .ref tl, .ref sh, .int tf, .int rf])), (im, .inl (G 3, 2, .inr (.inr (.inr (.inr (va_up (va_up (fun _ => none) 0 (some i0)) 1 (some i1))))))), (kp, .inl (G 2, 2, .inl fk)), (i1, .inr (9, [.int (nI N1), .int (nI B1), .int (nI D1), .ref id1, .ref id2, .ref id3, .ref id4, .ref id5, .ref id6])), (id1, .inl (G 0, 10, .inl idf1)), (id2, .inl (G 0, 10, .inl idf2)), (id3, .inl (G 0, 10, .inl idf3)), (id4, .inl (G 0, 6, .inl idf4)), (id5, .inl (G 0, 6, .inl idf5)), (id6, .inl (G 0, 6, .inl idf6))]) (w1 := [(i0, .inr (9, [.int (nI N), .int (nI B), .int (nI D), .ref ib1, .ref ib2, .ref ib3, .ref ib4, .ref ib5, .ref ib6])), (ib1, .inl (G 0, 10, .inl u16)), (ib2, .inl (G 0, 10, .inl u17)), (ib3, .inl (G 0, 10, .inl u18)), (ib4, .inl (G 0, 6, .inl u19)), (ib5, .inl (G 0, 6, .inl u20)), (ib6, .inl (G 0, 6, .inl u21)), (wy, .inr (9, [.int (nI N), .int (nI B), .int (nI D), .ref a1, .ref a2, .ref a3, .ref a4, .ref a5, .ref a6])), (a1, .inl (G 0, 10, .inl f1)), (a2, .inl (G 0, 10, .inl f2)), (a3, .inl (G 0, 10, .inl f3)), (a4, .inl (G 0, 6, .inl f4)), (a5, .inl (G 0, 6, .inl f5)), (a6, .inl (G 0, 6, .inl f6))]) hP hD [10, 11, 12, 13, 14, 15, 16, 1, 2, 3, 4, 5, 6, 7] [0, 8, 9, 17, 18, 19, 20, 21, 22, 23] rfl rfl (by decide) (by decide) hk1 hFc hP1 hD1
        have w15 : u16 = va_cpy f1 ibf1 0 0 10 ∧ u17 = va_cpy f2 ibf2 0 0 10 ∧ u18 = va_cpy f3 ibf3 0 0 10 ∧ u19 = va_cpy f4 ibf4 0 0 6 ∧ u20 = va_cpy f5 ibf5 0 0 6 ∧ u21 = va_cpy f6 ibf6 0 0 6 := w15
        generalize H1 = H at hP hS ⊢
        have hP : va_P (dC, dI) vwCl [(h0, .inr (10, [.ref rd, .ref wy, .ref tr, .ref im, .ref kp, .ref od, .ref ch, .ref cr, .ref le, .ref mk, .ref tl, .ref sh, .int tf, .int rf])), (im, .inl (G 3, 2, .inr (.inr (.inr (.inr (va_up (va_up (fun _ => none) 0 (some i0)) 1 (some i1))))))), (kp, .inl (G 2, 2, .inl fk)), (i1, .inr (9, [.int (nI N1), .int (nI B1), .int (nI D1), .ref id1, .ref id2, .ref id3, .ref id4, .ref id5, .ref id6])), (id1, .inl (G 0, 10, .inl idf1)), (id2, .inl (G 0, 10, .inl idf2)), (id3, .inl (G 0, 10, .inl idf3)), (id4, .inl (G 0, 6, .inl idf4)), (id5, .inl (G 0, 6, .inl idf5)), (id6, .inl (G 0, 6, .inl idf6)), (i0, .inr (9, [.int (nI N), .int (nI B), .int (nI D), .ref ib1, .ref ib2, .ref ib3, .ref ib4, .ref ib5, .ref ib6])), (ib1, .inl (G 0, 10, .inl u16)), (ib2, .inl (G 0, 10, .inl u17)), (ib3, .inl (G 0, 10, .inl u18)), (ib4, .inl (G 0, 6, .inl u19)), (ib5, .inl (G 0, 6, .inl u20)), (ib6, .inl (G 0, 6, .inl u21)), (wy, .inr (9, [.int (nI N), .int (nI B), .int (nI D), .ref a1, .ref a2, .ref a3, .ref a4, .ref a5, .ref a6])), (a1, .inl (G 0, 10, .inl f1)), (a2, .inl (G 0, 10, .inl f2)), (a3, .inl (G 0, 10, .inl f3)), (a4, .inl (G 0, 6, .inl f4)), (a5, .inl (G 0, 6, .inl f5)), (a6, .inl (G 0, 6, .inl f6))] H := hP
        have hD : va_D A [(h0, .inr (10, [.ref rd, .ref wy, .ref tr, .ref im, .ref kp, .ref od, .ref ch, .ref cr, .ref le, .ref mk, .ref tl, .ref sh, .int tf, .int rf])), (im, .inl (G 3, 2, .inr (.inr (.inr (.inr (va_up (va_up (fun _ => none) 0 (some i0)) 1 (some i1))))))), (kp, .inl (G 2, 2, .inl fk)), (i1, .inr (9, [.int (nI N1), .int (nI B1), .int (nI D1), .ref id1, .ref id2, .ref id3, .ref id4, .ref id5, .ref id6])), (id1, .inl (G 0, 10, .inl idf1)), (id2, .inl (G 0, 10, .inl idf2)), (id3, .inl (G 0, 10, .inl idf3)), (id4, .inl (G 0, 6, .inl idf4)), (id5, .inl (G 0, 6, .inl idf5)), (id6, .inl (G 0, 6, .inl idf6)), (i0, .inr (9, [.int (nI N), .int (nI B), .int (nI D), .ref ib1, .ref ib2, .ref ib3, .ref ib4, .ref ib5, .ref ib6])), (ib1, .inl (G 0, 10, .inl u16)), (ib2, .inl (G 0, 10, .inl u17)), (ib3, .inl (G 0, 10, .inl u18)), (ib4, .inl (G 0, 6, .inl u19)), (ib5, .inl (G 0, 6, .inl u20)), (ib6, .inl (G 0, 6, .inl u21)), (wy, .inr (9, [.int (nI N), .int (nI B), .int (nI D), .ref a1, .ref a2, .ref a3, .ref a4, .ref a5, .ref a6])), (a1, .inl (G 0, 10, .inl f1)), (a2, .inl (G 0, 10, .inl f2)), (a3, .inl (G 0, 10, .inl f3)), (a4, .inl (G 0, 6, .inl f4)), (a5, .inl (G 0, 6, .inl f5)), (a6, .inl (G 0, 6, .inl f6))] := hD
        refine lv_aload_n hx hb dX10_keep_37 rfl (lv_at hl 1 rfl) ?_
        refine va_get (D := (dC, dI)) (ci := 10) (v := .ref kp) (C := RX10) (T := TX10) (N := 14) hx hb hg inG10 hown hK.1 hP 0 rfl rfl 4 (by decide) (hg _ wt_306) (fun _ h9 => h9) rfl dX10_keep_38 ?_
        refine lv_iload_n hx hb dX10_keep_41 rfl (lv_at hl 2 rfl) ?_
        refine lv_iconst (v := 1) hx hb dX10_keep_42 (by decide) ?_
        refine va_zast hx hb hK.1 hP hD hS 2 2 rfl rfl (vp_in_iff.mpr ⟨by decide, by decide⟩) dX10_keep_43 (fun H locs hP hD hS => ?_)
        have hP : va_P (dC, dI) vwCl [(h0, .inr (10, [.ref rd, .ref wy, .ref tr, .ref im, .ref kp, .ref od, .ref ch, .ref cr, .ref le, .ref mk, .ref tl, .ref sh, .int tf, .int rf])), (im, .inl (G 3, 2, .inr (.inr (.inr (.inr (va_up (va_up (fun _ => none) 0 (some i0)) 1 (some i1))))))), (kp, .inl (G 2, 2, .inl (upd fk 0 (vp_nar .boolean 1)))), (i1, .inr (9, [.int (nI N1), .int (nI B1), .int (nI D1), .ref id1, .ref id2, .ref id3, .ref id4, .ref id5, .ref id6])), (id1, .inl (G 0, 10, .inl idf1)), (id2, .inl (G 0, 10, .inl idf2)), (id3, .inl (G 0, 10, .inl idf3)), (id4, .inl (G 0, 6, .inl idf4)), (id5, .inl (G 0, 6, .inl idf5)), (id6, .inl (G 0, 6, .inl idf6)), (i0, .inr (9, [.int (nI N), .int (nI B), .int (nI D), .ref ib1, .ref ib2, .ref ib3, .ref ib4, .ref ib5, .ref ib6])), (ib1, .inl (G 0, 10, .inl u16)), (ib2, .inl (G 0, 10, .inl u17)), (ib3, .inl (G 0, 10, .inl u18)), (ib4, .inl (G 0, 6, .inl u19)), (ib5, .inl (G 0, 6, .inl u20)), (ib6, .inl (G 0, 6, .inl u21)), (wy, .inr (9, [.int (nI N), .int (nI B), .int (nI D), .ref a1, .ref a2, .ref a3, .ref a4, .ref a5, .ref a6])), (a1, .inl (G 0, 10, .inl f1)), (a2, .inl (G 0, 10, .inl f2)), (a3, .inl (G 0, 10, .inl f3)), (a4, .inl (G 0, 6, .inl f4)), (a5, .inl (G 0, 6, .inl f5)), (a6, .inl (G 0, 6, .inl f6))] H := hP
        have hD : va_D A [(h0, .inr (10, [.ref rd, .ref wy, .ref tr, .ref im, .ref kp, .ref od, .ref ch, .ref cr, .ref le, .ref mk, .ref tl, .ref sh, .int tf, .int rf])), (im, .inl (G 3, 2, .inr (.inr (.inr (.inr (va_up (va_up (fun _ => none) 0 (some i0)) 1 (some i1))))))), (kp, .inl (G 2, 2, .inl (upd fk 0 (vp_nar .boolean 1)))), (i1, .inr (9, [.int (nI N1), .int (nI B1), .int (nI D1), .ref id1, .ref id2, .ref id3, .ref id4, .ref id5, .ref id6])), (id1, .inl (G 0, 10, .inl idf1)), (id2, .inl (G 0, 10, .inl idf2)), (id3, .inl (G 0, 10, .inl idf3)), (id4, .inl (G 0, 6, .inl idf4)), (id5, .inl (G 0, 6, .inl idf5)), (id6, .inl (G 0, 6, .inl idf6)), (i0, .inr (9, [.int (nI N), .int (nI B), .int (nI D), .ref ib1, .ref ib2, .ref ib3, .ref ib4, .ref ib5, .ref ib6])), (ib1, .inl (G 0, 10, .inl u16)), (ib2, .inl (G 0, 10, .inl u17)), (ib3, .inl (G 0, 10, .inl u18)), (ib4, .inl (G 0, 6, .inl u19)), (ib5, .inl (G 0, 6, .inl u20)), (ib6, .inl (G 0, 6, .inl u21)), (wy, .inr (9, [.int (nI N), .int (nI B), .int (nI D), .ref a1, .ref a2, .ref a3, .ref a4, .ref a5, .ref a6])), (a1, .inl (G 0, 10, .inl f1)), (a2, .inl (G 0, 10, .inl f2)), (a3, .inl (G 0, 10, .inl f3)), (a4, .inl (G 0, 6, .inl f4)), (a5, .inl (G 0, 6, .inl f5)), (a6, .inl (G 0, 6, .inl f6))] := hD
        refine lv_iload_n hx hb dX10_keep_44 rfl (lv_at hl 0 rfl) ?_
        have hpost : (1 : Int32) = if (0 ≤ (0 : Int32).toInt ∧ (0 : Int32).toInt < 2) then (if fk (0 : Int32).toNatClampNeg = 0 then 0 else 1) else -1 := by
          have tn2679_ : nIT N := fun _ => nI_toInt (by omega)
          have tn2680_ : nIT B := fun _ => nI_toInt (by omega)
          have tn2681_ : nIT D := fun _ => nI_toInt (by omega)
          have tn2682_ : nIT N0 := fun _ => nI_toInt (by omega)
          have tn2683_ : nIT B0 := fun _ => nI_toInt (by omega)
          have tn2684_ : nIT D0 := fun _ => nI_toInt (by omega)
          have tn2685_ : nIT N1 := fun _ => nI_toInt (by omega)
          have tn2686_ : nIT B1 := fun _ => nI_toInt (by omega)
          have tn2687_ : nIT D1 := fun _ => nI_toInt (by omega)
          have k0 : (0 : Int32).toNatClampNeg = 0 := (by decide)
          have k1 : (1 : Int32).toNatClampNeg = 1 := (by decide)
          first | (rw [if_neg (by (have t_c5 := neI c5; have : (0 : Int32).toInt = 0 := qI_0; have t_n0 : (nI N).toInt = (N : Int) := tn2679_ (); have t_n1 : (nI B).toInt = (B : Int) := tn2680_ (); have t_n2 : (nI D).toInt = (D : Int) := tn2681_ (); have t_n3 : (nI N0).toInt = (N0 : Int) := tn2682_ (); have t_n4 : (nI B0).toInt = (B0 : Int) := tn2683_ (); have t_n5 : (nI D0).toInt = (D0 : Int) := tn2684_ (); have t_n6 : (nI N1).toInt = (N1 : Int) := tn2685_ (); have t_n7 : (nI B1).toInt = (B1 : Int) := tn2686_ (); have t_n8 : (nI D1).toInt = (D1 : Int) := tn2687_ (); have z0 : (0 : Int32).toInt = 0 := qI_0; have z1 : (1 : Int32).toInt = 1 := qI_1; have z2 : (2 : Int32).toInt = 2 := qI_2; have z3 : (3 : Int32).toInt = 3 := qI_3; have z5 : (5 : Int32).toInt = 5 := qI_5; have z9 : (9 : Int32).toInt = 9 := qI_9; have z20 : (20 : Int32).toInt = 20 := qI_20; have z4 : (-4 : Int32).toInt = -4 := (by decide); have z10 : (10 : Int32).toInt = 10 := qI_10; omega))]; done) | (rw [if_pos (by decide)]; (try rw [k0]); (try rw [k1]); first | (rw [if_pos (by assumption)]; done) | (rw [if_neg (by assumption)]; done))
        have hP9 := hP.sub (ws' := [(h0, .inr (10, [.ref rd, .ref wy, .ref tr, .ref im, .ref kp, .ref od, .ref ch, .ref cr, .ref le, .ref mk, .ref tl, .ref sh, .int tf, .int rf])), (wy, .inr (9, [.int (nI N), .int (nI B), .int (nI D), .ref a1, .ref a2, .ref a3, .ref a4, .ref a5, .ref a6])), (a1, .inl (G 0, 10, .inl f1)), (a2, .inl (G 0, 10, .inl f2)), (a3, .inl (G 0, 10, .inl f3)), (a4, .inl (G 0, 6, .inl f4)), (a5, .inl (G 0, 6, .inl f5)), (a6, .inl (G 0, 6, .inl f6)), (im, .inl (G 3, 2, .inr (.inr (.inr (.inr (va_up (va_up (fun _ => none) 0 (some i0)) 1 (some i1))))))), (kp, .inl (G 2, 2, .inl (upd fk 0 (vp_nar .boolean 1)))), (i0, .inr (9, [.int (nI N), .int (nI B), .int (nI D), .ref ib1, .ref ib2, .ref ib3, .ref ib4, .ref ib5, .ref ib6])), (ib1, .inl (G 0, 10, .inl u16)), (ib2, .inl (G 0, 10, .inl u17)), (ib3, .inl (G 0, 10, .inl u18)), (ib4, .inl (G 0, 6, .inl u19)), (ib5, .inl (G 0, 6, .inl u20)), (ib6, .inl (G 0, 6, .inl u21)), (i1, .inr (9, [.int (nI N1), .int (nI B1), .int (nI D1), .ref id1, .ref id2, .ref id3, .ref id4, .ref id5, .ref id6])), (id1, .inl (G 0, 10, .inl idf1)), (id2, .inl (G 0, 10, .inl idf2)), (id3, .inl (G 0, 10, .inl idf3)), (id4, .inl (G 0, 6, .inl idf4)), (id5, .inl (G 0, 6, .inl idf5)), (id6, .inl (G 0, 6, .inl idf6))]) [0, 17, 18, 19, 20, 21, 22, 23, 1, 2, 10, 11, 12, 13, 14, 15, 16, 3, 4, 5, 6, 7, 8, 9] rfl
        have hD9 := hD.sub (ws' := [(h0, .inr (10, [.ref rd, .ref wy, .ref tr, .ref im, .ref kp, .ref od, .ref ch, .ref cr, .ref le, .ref mk, .ref tl, .ref sh, .int tf, .int rf])), (wy, .inr (9, [.int (nI N), .int (nI B), .int (nI D), .ref a1, .ref a2, .ref a3, .ref a4, .ref a5, .ref a6])), (a1, .inl (G 0, 10, .inl f1)), (a2, .inl (G 0, 10, .inl f2)), (a3, .inl (G 0, 10, .inl f3)), (a4, .inl (G 0, 6, .inl f4)), (a5, .inl (G 0, 6, .inl f5)), (a6, .inl (G 0, 6, .inl f6)), (im, .inl (G 3, 2, .inr (.inr (.inr (.inr (va_up (va_up (fun _ => none) 0 (some i0)) 1 (some i1))))))), (kp, .inl (G 2, 2, .inl (upd fk 0 (vp_nar .boolean 1)))), (i0, .inr (9, [.int (nI N), .int (nI B), .int (nI D), .ref ib1, .ref ib2, .ref ib3, .ref ib4, .ref ib5, .ref ib6])), (ib1, .inl (G 0, 10, .inl u16)), (ib2, .inl (G 0, 10, .inl u17)), (ib3, .inl (G 0, 10, .inl u18)), (ib4, .inl (G 0, 6, .inl u19)), (ib5, .inl (G 0, 6, .inl u20)), (ib6, .inl (G 0, 6, .inl u21)), (i1, .inr (9, [.int (nI N1), .int (nI B1), .int (nI D1), .ref id1, .ref id2, .ref id3, .ref id4, .ref id5, .ref id6])), (id1, .inl (G 0, 10, .inl idf1)), (id2, .inl (G 0, 10, .inl idf2)), (id3, .inl (G 0, 10, .inl idf3)), (id4, .inl (G 0, 6, .inl idf4)), (id5, .inl (G 0, 6, .inl idf5)), (id6, .inl (G 0, 6, .inl idf6))]) [0, 17, 18, 19, 20, 21, 22, 23, 1, 2, 10, 11, 12, 13, 14, 15, 16, 3, 4, 5, 6, 7, 8, 9] (by decide) rfl
        refine W.widen (k := 0) (n := 0) (Nat.le_of_ble_eq_true rfl) (Nat.le_of_ble_eq_true rfl) ?_
        have tn2688_ : nIT N := fun _ => nI_toInt (by first | omega | (have t_c5 := neI c5; have : (0 : Int32).toInt = 0 := qI_0; omega))
        have tn2689_ : nIT B := fun _ => nI_toInt (by first | omega | (have t_c5 := neI c5; have : (0 : Int32).toInt = 0 := qI_0; omega))
        have tn2690_ : nIT D := fun _ => nI_toInt (by first | omega | (have t_c5 := neI c5; have : (0 : Int32).toInt = 0 := qI_0; omega))
        have tn2691_ : nIT N0 := fun _ => nI_toInt (by first | omega | (have t_c5 := neI c5; have : (0 : Int32).toInt = 0 := qI_0; omega))
        have tn2692_ : nIT B0 := fun _ => nI_toInt (by first | omega | (have t_c5 := neI c5; have : (0 : Int32).toInt = 0 := qI_0; omega))
        have tn2693_ : nIT D0 := fun _ => nI_toInt (by first | omega | (have t_c5 := neI c5; have : (0 : Int32).toInt = 0 := qI_0; omega))
        have tn2694_ : nIT N1 := fun _ => nI_toInt (by first | omega | (have t_c5 := neI c5; have : (0 : Int32).toInt = 0 := qI_0; omega))
        have tn2695_ : nIT B1 := fun _ => nI_toInt (by first | omega | (have t_c5 := neI c5; have : (0 : Int32).toInt = 0 := qI_0; omega))
        have tn2696_ : nIT D1 := fun _ => nI_toInt (by first | omega | (have t_c5 := neI c5; have : (0 : Int32).toInt = 0 := qI_0; omega))
        exact W.iret (v := 1) hx hb hr (fun t ht hW => ⟨⟨1, (N, B, D, u16, u17, u18, u19, u20, u21, N1, B1, D1, idf1, idf2, idf3, idf4, idf5, idf6, (upd fk 0 (vp_nar .boolean 1))), rfl, ⟨hpost, (by have k0 : (0 : Int32).toNatClampNeg = 0 := (by decide); have k1 : (1 : Int32).toNatClampNeg = 1 := (by decide); refine ⟨⟨⟨by (have t_c5 := neI c5; have : (0 : Int32).toInt = 0 := qI_0; have t_n0 : (nI N).toInt = (N : Int) := tn2688_ (); have t_n1 : (nI B).toInt = (B : Int) := tn2689_ (); have t_n2 : (nI D).toInt = (D : Int) := tn2690_ (); have t_n3 : (nI N0).toInt = (N0 : Int) := tn2691_ (); have t_n4 : (nI B0).toInt = (B0 : Int) := tn2692_ (); have t_n5 : (nI D0).toInt = (D0 : Int) := tn2693_ (); have t_n6 : (nI N1).toInt = (N1 : Int) := tn2694_ (); have t_n7 : (nI B1).toInt = (B1 : Int) := tn2695_ (); have t_n8 : (nI D1).toInt = (D1 : Int) := tn2696_ (); have z0 : (0 : Int32).toInt = 0 := qI_0; have z1 : (1 : Int32).toInt = 1 := qI_1; have z2 : (2 : Int32).toInt = 2 := qI_2; have z3 : (3 : Int32).toInt = 3 := qI_3; have z5 : (5 : Int32).toInt = 5 := qI_5; have z9 : (9 : Int32).toInt = 9 := qI_9; have z20 : (20 : Int32).toInt = 20 := qI_20; have z4 : (-4 : Int32).toInt = -4 := (by decide); have z10 : (10 : Int32).toInt = 10 := qI_10; omega), by (have t_c5 := neI c5; have : (0 : Int32).toInt = 0 := qI_0; have t_n0 : (nI N).toInt = (N : Int) := tn2688_ (); have t_n1 : (nI B).toInt = (B : Int) := tn2689_ (); have t_n2 : (nI D).toInt = (D : Int) := tn2690_ (); have t_n3 : (nI N0).toInt = (N0 : Int) := tn2691_ (); have t_n4 : (nI B0).toInt = (B0 : Int) := tn2692_ (); have t_n5 : (nI D0).toInt = (D0 : Int) := tn2693_ (); have t_n6 : (nI N1).toInt = (N1 : Int) := tn2694_ (); have t_n7 : (nI B1).toInt = (B1 : Int) := tn2695_ (); have t_n8 : (nI D1).toInt = (D1 : Int) := tn2696_ (); have z0 : (0 : Int32).toInt = 0 := qI_0; have z1 : (1 : Int32).toInt = 1 := qI_1; have z2 : (2 : Int32).toInt = 2 := qI_2; have z3 : (3 : Int32).toInt = 3 := qI_3; have z5 : (5 : Int32).toInt = 5 := qI_5; have z9 : (9 : Int32).toInt = 9 := qI_9; have z20 : (20 : Int32).toInt = 20 := qI_20; have z4 : (-4 : Int32).toInt = -4 := (by decide); have z10 : (10 : Int32).toInt = 10 := qI_10; omega), by (have t_c5 := neI c5; have : (0 : Int32).toInt = 0 := qI_0; have t_n0 : (nI N).toInt = (N : Int) := tn2688_ (); have t_n1 : (nI B).toInt = (B : Int) := tn2689_ (); have t_n2 : (nI D).toInt = (D : Int) := tn2690_ (); have t_n3 : (nI N0).toInt = (N0 : Int) := tn2691_ (); have t_n4 : (nI B0).toInt = (B0 : Int) := tn2692_ (); have t_n5 : (nI D0).toInt = (D0 : Int) := tn2693_ (); have t_n6 : (nI N1).toInt = (N1 : Int) := tn2694_ (); have t_n7 : (nI B1).toInt = (B1 : Int) := tn2695_ (); have t_n8 : (nI D1).toInt = (D1 : Int) := tn2696_ (); have z0 : (0 : Int32).toInt = 0 := qI_0; have z1 : (1 : Int32).toInt = 1 := qI_1; have z2 : (2 : Int32).toInt = 2 := qI_2; have z3 : (3 : Int32).toInt = 3 := qI_3; have z5 : (5 : Int32).toInt = 5 := qI_5; have z9 : (9 : Int32).toInt = 9 := qI_9; have z20 : (20 : Int32).toInt = 20 := qI_20; have z4 : (-4 : Int32).toInt = -4 := (by decide); have z10 : (10 : Int32).toInt = 10 := qI_10; omega), by (have t_c5 := neI c5; have : (0 : Int32).toInt = 0 := qI_0; have t_n0 : (nI N).toInt = (N : Int) := tn2688_ (); have t_n1 : (nI B).toInt = (B : Int) := tn2689_ (); have t_n2 : (nI D).toInt = (D : Int) := tn2690_ (); have t_n3 : (nI N0).toInt = (N0 : Int) := tn2691_ (); have t_n4 : (nI B0).toInt = (B0 : Int) := tn2692_ (); have t_n5 : (nI D0).toInt = (D0 : Int) := tn2693_ (); have t_n6 : (nI N1).toInt = (N1 : Int) := tn2694_ (); have t_n7 : (nI B1).toInt = (B1 : Int) := tn2695_ (); have t_n8 : (nI D1).toInt = (D1 : Int) := tn2696_ (); have z0 : (0 : Int32).toInt = 0 := qI_0; have z1 : (1 : Int32).toInt = 1 := qI_1; have z2 : (2 : Int32).toInt = 2 := qI_2; have z3 : (3 : Int32).toInt = 3 := qI_3; have z5 : (5 : Int32).toInt = 5 := qI_5; have z9 : (9 : Int32).toInt = 9 := qI_9; have z20 : (20 : Int32).toInt = 20 := qI_20; have z4 : (-4 : Int32).toInt = -4 := (by decide); have z10 : (10 : Int32).toInt = 10 := qI_10; omega)⟩, ⟨by (have t_c5 := neI c5; have : (0 : Int32).toInt = 0 := qI_0; have t_n0 : (nI N).toInt = (N : Int) := tn2688_ (); have t_n1 : (nI B).toInt = (B : Int) := tn2689_ (); have t_n2 : (nI D).toInt = (D : Int) := tn2690_ (); have t_n3 : (nI N0).toInt = (N0 : Int) := tn2691_ (); have t_n4 : (nI B0).toInt = (B0 : Int) := tn2692_ (); have t_n5 : (nI D0).toInt = (D0 : Int) := tn2693_ (); have t_n6 : (nI N1).toInt = (N1 : Int) := tn2694_ (); have t_n7 : (nI B1).toInt = (B1 : Int) := tn2695_ (); have t_n8 : (nI D1).toInt = (D1 : Int) := tn2696_ (); have z0 : (0 : Int32).toInt = 0 := qI_0; have z1 : (1 : Int32).toInt = 1 := qI_1; have z2 : (2 : Int32).toInt = 2 := qI_2; have z3 : (3 : Int32).toInt = 3 := qI_3; have z5 : (5 : Int32).toInt = 5 := qI_5; have z9 : (9 : Int32).toInt = 9 := qI_9; have z20 : (20 : Int32).toInt = 20 := qI_20; have z4 : (-4 : Int32).toInt = -4 := (by decide); have z10 : (10 : Int32).toInt = 10 := qI_10; omega), by (have t_c5 := neI c5; have : (0 : Int32).toInt = 0 := qI_0; have t_n0 : (nI N).toInt = (N : Int) := tn2688_ (); have t_n1 : (nI B).toInt = (B : Int) := tn2689_ (); have t_n2 : (nI D).toInt = (D : Int) := tn2690_ (); have t_n3 : (nI N0).toInt = (N0 : Int) := tn2691_ (); have t_n4 : (nI B0).toInt = (B0 : Int) := tn2692_ (); have t_n5 : (nI D0).toInt = (D0 : Int) := tn2693_ (); have t_n6 : (nI N1).toInt = (N1 : Int) := tn2694_ (); have t_n7 : (nI B1).toInt = (B1 : Int) := tn2695_ (); have t_n8 : (nI D1).toInt = (D1 : Int) := tn2696_ (); have z0 : (0 : Int32).toInt = 0 := qI_0; have z1 : (1 : Int32).toInt = 1 := qI_1; have z2 : (2 : Int32).toInt = 2 := qI_2; have z3 : (3 : Int32).toInt = 3 := qI_3; have z5 : (5 : Int32).toInt = 5 := qI_5; have z9 : (9 : Int32).toInt = 9 := qI_9; have z20 : (20 : Int32).toInt = 20 := qI_20; have z4 : (-4 : Int32).toInt = -4 := (by decide); have z10 : (10 : Int32).toInt = 10 := qI_10; omega), by (have t_c5 := neI c5; have : (0 : Int32).toInt = 0 := qI_0; have t_n0 : (nI N).toInt = (N : Int) := tn2688_ (); have t_n1 : (nI B).toInt = (B : Int) := tn2689_ (); have t_n2 : (nI D).toInt = (D : Int) := tn2690_ (); have t_n3 : (nI N0).toInt = (N0 : Int) := tn2691_ (); have t_n4 : (nI B0).toInt = (B0 : Int) := tn2692_ (); have t_n5 : (nI D0).toInt = (D0 : Int) := tn2693_ (); have t_n6 : (nI N1).toInt = (N1 : Int) := tn2694_ (); have t_n7 : (nI B1).toInt = (B1 : Int) := tn2695_ (); have t_n8 : (nI D1).toInt = (D1 : Int) := tn2696_ (); have z0 : (0 : Int32).toInt = 0 := qI_0; have z1 : (1 : Int32).toInt = 1 := qI_1; have z2 : (2 : Int32).toInt = 2 := qI_2; have z3 : (3 : Int32).toInt = 3 := qI_3; have z5 : (5 : Int32).toInt = 5 := qI_5; have z9 : (9 : Int32).toInt = 9 := qI_9; have z20 : (20 : Int32).toInt = 20 := qI_20; have z4 : (-4 : Int32).toInt = -4 := (by decide); have z10 : (10 : Int32).toInt = 10 := qI_10; omega), by (have t_c5 := neI c5; have : (0 : Int32).toInt = 0 := qI_0; have t_n0 : (nI N).toInt = (N : Int) := tn2688_ (); have t_n1 : (nI B).toInt = (B : Int) := tn2689_ (); have t_n2 : (nI D).toInt = (D : Int) := tn2690_ (); have t_n3 : (nI N0).toInt = (N0 : Int) := tn2691_ (); have t_n4 : (nI B0).toInt = (B0 : Int) := tn2692_ (); have t_n5 : (nI D0).toInt = (D0 : Int) := tn2693_ (); have t_n6 : (nI N1).toInt = (N1 : Int) := tn2694_ (); have t_n7 : (nI B1).toInt = (B1 : Int) := tn2695_ (); have t_n8 : (nI D1).toInt = (D1 : Int) := tn2696_ (); have z0 : (0 : Int32).toInt = 0 := qI_0; have z1 : (1 : Int32).toInt = 1 := qI_1; have z2 : (2 : Int32).toInt = 2 := qI_2; have z3 : (3 : Int32).toInt = 3 := qI_3; have z5 : (5 : Int32).toInt = 5 := qI_5; have z9 : (9 : Int32).toInt = 9 := qI_9; have z20 : (20 : Int32).toInt = 20 := qI_20; have z4 : (-4 : Int32).toInt = -4 := (by decide); have z10 : (10 : Int32).toInt = 10 := qI_10; omega)⟩⟩, ?_, ?_, ?_, ?_, ?_, ?_, ?_, ?_, ?_, ?_, ?_, ?_, ?_, ?_, ?_, ?_, ?_, ?_, ?_⟩ <;> (first | done | rfl | (have t_c5 := neI c5; have : (0 : Int32).toInt = 0 := qI_0; have t_n0 : (nI N).toInt = (N : Int) := tn2688_ (); have t_n1 : (nI B).toInt = (B : Int) := tn2689_ (); have t_n2 : (nI D).toInt = (D : Int) := tn2690_ (); have t_n3 : (nI N0).toInt = (N0 : Int) := tn2691_ (); have t_n4 : (nI B0).toInt = (B0 : Int) := tn2692_ (); have t_n5 : (nI D0).toInt = (D0 : Int) := tn2693_ (); have t_n6 : (nI N1).toInt = (N1 : Int) := tn2694_ (); have t_n7 : (nI B1).toInt = (B1 : Int) := tn2695_ (); have t_n8 : (nI D1).toInt = (D1 : Int) := tn2696_ (); have z0 : (0 : Int32).toInt = 0 := qI_0; have z1 : (1 : Int32).toInt = 1 := qI_1; have z2 : (2 : Int32).toInt = 2 := qI_2; have z3 : (3 : Int32).toInt = 3 := qI_3; have z5 : (5 : Int32).toInt = 5 := qI_5; have z9 : (9 : Int32).toInt = 9 := qI_9; have z20 : (20 : Int32).toInt = 20 := qI_20; have z4 : (-4 : Int32).toInt = -4 := (by decide); have z10 : (10 : Int32).toInt = 10 := qI_10; omega) | (rw [if_neg (by assumption)]; done) | (rw [if_neg (by decide)]; done) | (rw [if_pos (by decide)]; first | done | rfl | exact w15.1 | exact w15.2.1 | exact w15.2.2.1 | exact w15.2.2.2.1 | exact w15.2.2.2.2.1 | exact w15.2.2.2.2.2 | (rw [k0]; rfl) | (rw [k1]; rfl)) | (rw [if_pos rfl]; first | done | rfl | exact w15.1 | exact w15.2.1 | exact w15.2.2.1 | exact w15.2.2.2.1 | exact w15.2.2.2.2.1 | exact w15.2.2.2.2.2) | (rw [if_neg (by (have t_c5 := neI c5; have : (0 : Int32).toInt = 0 := qI_0; have t_n0 : (nI N).toInt = (N : Int) := tn2688_ (); have t_n1 : (nI B).toInt = (B : Int) := tn2689_ (); have t_n2 : (nI D).toInt = (D : Int) := tn2690_ (); have t_n3 : (nI N0).toInt = (N0 : Int) := tn2691_ (); have t_n4 : (nI B0).toInt = (B0 : Int) := tn2692_ (); have t_n5 : (nI D0).toInt = (D0 : Int) := tn2693_ (); have t_n6 : (nI N1).toInt = (N1 : Int) := tn2694_ (); have t_n7 : (nI B1).toInt = (B1 : Int) := tn2695_ (); have t_n8 : (nI D1).toInt = (D1 : Int) := tn2696_ (); have z0 : (0 : Int32).toInt = 0 := qI_0; have z1 : (1 : Int32).toInt = 1 := qI_1; have z2 : (2 : Int32).toInt = 2 := qI_2; have z3 : (3 : Int32).toInt = 3 := qI_3; have z5 : (5 : Int32).toInt = 5 := qI_5; have z9 : (9 : Int32).toInt = 9 := qI_9; have z20 : (20 : Int32).toInt = 20 := qI_20; have z4 : (-4 : Int32).toInt = -4 := (by decide); have z10 : (10 : Int32).toInt = 10 := qI_10; omega))]; done) | (rw [if_neg (fun e9 => by have e8 := congrArg Int32.toInt e9; (have t_c5 := neI c5; have : (0 : Int32).toInt = 0 := qI_0; have t_n0 : (nI N).toInt = (N : Int) := tn2688_ (); have t_n1 : (nI B).toInt = (B : Int) := tn2689_ (); have t_n2 : (nI D).toInt = (D : Int) := tn2690_ (); have t_n3 : (nI N0).toInt = (N0 : Int) := tn2691_ (); have t_n4 : (nI B0).toInt = (B0 : Int) := tn2692_ (); have t_n5 : (nI D0).toInt = (D0 : Int) := tn2693_ (); have t_n6 : (nI N1).toInt = (N1 : Int) := tn2694_ (); have t_n7 : (nI B1).toInt = (B1 : Int) := tn2695_ (); have t_n8 : (nI D1).toInt = (D1 : Int) := tn2696_ (); have z0 : (0 : Int32).toInt = 0 := qI_0; have z1 : (1 : Int32).toInt = 1 := qI_1; have z2 : (2 : Int32).toInt = 2 := qI_2; have z3 : (3 : Int32).toInt = 3 := qI_3; have z5 : (5 : Int32).toInt = 5 := qI_5; have z9 : (9 : Int32).toInt = 9 := qI_9; have z20 : (20 : Int32).toInt = 20 := qI_20; have z4 : (-4 : Int32).toInt = -4 := (by decide); have z10 : (10 : Int32).toInt = 10 := qI_10; omega))]; done)))⟩, ⟨by rw [ht]; exact hP9, hD9⟩⟩, hS.F ht⟩) hS.2.2 dX10_keep_45
    · skip
      refine lv_aload_n hx hb dX10_keep_9 rfl (lv_at hl 0 rfl) ?_
      refine va_get (D := (dC, dI)) (ci := 10) (v := .ref kp) (C := RX10) (T := TX10) (N := 14) hx hb hg inG10 hown hK.1 hP 0 rfl rfl 4 (by decide) (hg _ wt_306) (fun _ h9 => h9) rfl dX10_keep_10 ?_
      refine lv_iload_n hx hb dX10_keep_13 rfl (lv_at hl 1 rfl) ?_
      refine va_zald hx hb hK.1 hP 9 2 rfl rfl (vp_in_iff.mpr ⟨by decide, by decide⟩) dX10_keep_14 ?_
      refine lv_cg (y := fk 1) (by rfl) ?_
      refine lv_if_eq (tgt := 22) hx hb dX10_keep_15 (by decide) (fun c22 => ?_) (fun c22 => ?_)
      · skip
        refine lv_iconst (v := 0) hx hb dX10_keep_22 (by decide) ?_
        refine lv_istore_n (lv' := [(2, .int 0), (0, .ref h0), (1, .int 1)]) hx hb dX10_keep_23 rfl hl (by decide) rfl (fun ls hl => ?_)
        refine lv_aload_n hx hb dX10_keep_24 rfl (lv_at hl 1 rfl) ?_
        refine va_get (D := (dC, dI)) (ci := 10) (v := .ref im) (C := RX10) (T := TX10) (N := 14) hx hb hg inG10 hown hK.1 hP 0 rfl rfl 3 (by decide) (hg _ wt_305) (fun _ h9 => h9) rfl dX10_keep_25 ?_
        refine lv_iload_n hx hb dX10_keep_28 rfl (lv_at hl 2 rfl) ?_
        refine va_aldq hx hb hK.1 hP 8 3 rfl rfl (vp_in_iff.mpr ⟨by decide, by decide⟩) dX10_keep_29 ?_
        refine lv_cgv (y := .ref i1) (by rfl) ?_
        refine lv_aload_n hx hb dX10_keep_30 rfl (lv_at hl 1 rfl) ?_
        refine va_get (D := (dC, dI)) (ci := 10) (v := .ref wy) (C := RX10) (T := TX10) (N := 14) hx hb hg inG10 hown hK.1 hP 0 rfl rfl 1 (by decide) (hg _ wt_303) (fun _ h9 => h9) rfl dX10_keep_31 ?_
        have hPc := hP.sub (ws' := [(i1, .inr (9, [.int (nI N1), .int (nI B1), .int (nI D1), .ref id1, .ref id2, .ref id3, .ref id4, .ref id5, .ref id6])), (id1, .inl (G 0, 10, .inl idf1)), (id2, .inl (G 0, 10, .inl idf2)), (id3, .inl (G 0, 10, .inl idf3)), (id4, .inl (G 0, 6, .inl idf4)), (id5, .inl (G 0, 6, .inl idf5)), (id6, .inl (G 0, 6, .inl idf6)), (wy, .inr (9, [.int (nI N), .int (nI B), .int (nI D), .ref a1, .ref a2, .ref a3, .ref a4, .ref a5, .ref a6])), (a1, .inl (G 0, 10, .inl f1)), (a2, .inl (G 0, 10, .inl f2)), (a3, .inl (G 0, 10, .inl f3)), (a4, .inl (G 0, 6, .inl f4)), (a5, .inl (G 0, 6, .inl f5)), (a6, .inl (G 0, 6, .inl f6))]) [17, 18, 19, 20, 21, 22, 23, 1, 2, 3, 4, 5, 6, 7] rfl
        have hDc := hD.sub (ws' := [(i1, .inr (9, [.int (nI N1), .int (nI B1), .int (nI D1), .ref id1, .ref id2, .ref id3, .ref id4, .ref id5, .ref id6])), (id1, .inl (G 0, 10, .inl idf1)), (id2, .inl (G 0, 10, .inl idf2)), (id3, .inl (G 0, 10, .inl idf3)), (id4, .inl (G 0, 6, .inl idf4)), (id5, .inl (G 0, 6, .inl idf5)), (id6, .inl (G 0, 6, .inl idf6)), (wy, .inr (9, [.int (nI N), .int (nI B), .int (nI D), .ref a1, .ref a2, .ref a3, .ref a4, .ref a5, .ref a6])), (a1, .inl (G 0, 10, .inl f1)), (a2, .inl (G 0, 10, .inl f2)), (a3, .inl (G 0, 10, .inl f3)), (a4, .inl (G 0, 6, .inl f4)), (a5, .inl (G 0, 6, .inl f5)), (a6, .inl (G 0, 6, .inl f6))]) [17, 18, 19, 20, 21, 22, 23, 1, 2, 3, 4, 5, 6, 7] (by decide) rfl
        have hFc := va_free (wc := [(i1, .inr (9, [.int (nI N1), .int (nI B1), .int (nI D1), .ref id1, .ref id2, .ref id3, .ref id4, .ref id5, .ref id6])), (id1, .inl (G 0, 10, .inl idf1)), (id2, .inl (G 0, 10, .inl idf2)), (id3, .inl (G 0, 10, .inl idf3)), (id4, .inl (G 0, 6, .inl idf4)), (id5, .inl (G 0, 6, .inl idf5)), (id6, .inl (G 0, 6, .inl idf6)), (wy, .inr (9, [.int (nI N), .int (nI B), .int (nI D), .ref a1, .ref a2, .ref a3, .ref a4, .ref a5, .ref a6])), (a1, .inl (G 0, 10, .inl f1)), (a2, .inl (G 0, 10, .inl f2)), (a3, .inl (G 0, 10, .inl f3)), (a4, .inl (G 0, 6, .inl f4)), (a5, .inl (G 0, 6, .inl f5)), (a6, .inl (G 0, 6, .inl f6))]) hD hS hA [17, 18, 19, 20, 21, 22, 23, 1, 2, 3, 4, 5, 6, 7] rfl
        refine va_callv (va_runVN (As := [.ref wy]) (rest := []) ⟨hx, hb, hml, hown, hg⟩ (c_X9_copyOfE l dC dI G _ i1 wy id1 id2 id3 id4 id5 id6 a1 a2 a3 a4 a5 a6 (nI N1) (nI B1) (nI D1) (nI N) (nI B) (nI D) idf1 idf2 idf3 idf4 idf5 idf6 f1 f2 f3 f4 f5 f6) (kwVN hg hK mfX9_copyOf wn_507 ⟨Nat.le_of_ble_eq_true rfl, Nat.le_of_ble_eq_true rfl⟩) (preVW hK hPc hDc (ci := 9) rfl rfl) rfl rfl hl.1 rfl (lv_room (Nat.le_of_ble_eq_true rfl)) dX10_keep_34 ⟨Nat.le_of_ble_eq_true rfl, Nat.le_of_ble_eq_true rfl⟩) hS (fun q _ h => hFc q h) hFc (fun ur23 t H1 locs ht hvm w24 hB hz1 hk1 hS => ?_)
        obtain ⟨u25, u26, u27, u28, u29, u30⟩ := ur23
        obtain ⟨hP1, hD1⟩ := hB
        rw [ht] at hP1
        obtain ⟨hP, hD⟩ := va_join (wr := [(h0, .inr (10, [.ref rd, .ref wy, .ref tr, .ref im, .ref kp, .ref od, .ref ch, .ref cr, .ref le, .ref mk, .ref tl, .ref sh, .int tf, .int rf])), (im, .inl (G 3, 2, .inr (.inr (.inr (.inr (va_up (va_up (fun _ => none) 0 (some i0)) 1 (some i1))))))), (kp, .inl (G 2, 2, .inl fk)), (i0, .inr (9, [.int (nI N0), .int (nI B0), .int (nI D0), .ref ib1, .ref ib2, .ref ib3, .ref ib4, .ref ib5, .ref ib6])), (ib1, .inl (G 0, 10, .inl ibf1)), (ib2, .inl (G 0, 10, .inl ibf2)), (ib3, .inl (G 0, 10, .inl ibf3)), (ib4, .inl (G 0, 6, .inl ibf4)), (ib5, .inl (G 0, 6, .inl ibf5)), (ib6, .inl (G 0, 6, .inl ibf6))]) (w1 := [(i1, .inr (9, [.int (nI N), .int (nI B), .int (nI D), .ref id1, .ref id2, .ref id3, .ref id4, .ref id5, .ref id6])), (id1, .inl (G 0, 10, .inl u25)), (id2, .inl (G 0, 10, .inl u26)), (id3, .inl (G 0, 10, .inl u27)), (id4, .inl (G 0, 6, .inl u28)), (id5, .inl (G 0, 6, .inl u29)), (id6, .inl (G 0, 6, .inl u30)), (wy, .inr (9, [.int (nI N), .int (nI B), .int (nI D), .ref a1, .ref a2, .ref a3, .ref a4, .ref a5, .ref a6])), (a1, .inl (G 0, 10, .inl f1)), (a2, .inl (G 0, 10, .inl f2)), (a3, .inl (G 0, 10, .inl f3)), (a4, .inl (G 0, 6, .inl f4)), (a5, .inl (G 0, 6, .inl f5)), (a6, .inl (G 0, 6, .inl f6))]) hP hD [17, 18, 19, 20, 21, 22, 23, 1, 2, 3, 4, 5, 6, 7] [0, 8, 9, 10, 11, 12, 13, 14, 15, 16] rfl rfl (by decide) (by decide) hk1 hFc hP1 hD1
        have w24 : u25 = va_cpy f1 idf1 0 0 10 ∧ u26 = va_cpy f2 idf2 0 0 10 ∧ u27 = va_cpy f3 idf3 0 0 10 ∧ u28 = va_cpy f4 idf4 0 0 6 ∧ u29 = va_cpy f5 idf5 0 0 6 ∧ u30 = va_cpy f6 idf6 0 0 6 := w24
        generalize H1 = H at hP hS ⊢
        have hP : va_P (dC, dI) vwCl [(h0, .inr (10, [.ref rd, .ref wy, .ref tr, .ref im, .ref kp, .ref od, .ref ch, .ref cr, .ref le, .ref mk, .ref tl, .ref sh, .int tf, .int rf])), (im, .inl (G 3, 2, .inr (.inr (.inr (.inr (va_up (va_up (fun _ => none) 0 (some i0)) 1 (some i1))))))), (kp, .inl (G 2, 2, .inl fk)), (i0, .inr (9, [.int (nI N0), .int (nI B0), .int (nI D0), .ref ib1, .ref ib2, .ref ib3, .ref ib4, .ref ib5, .ref ib6])), (ib1, .inl (G 0, 10, .inl ibf1)), (ib2, .inl (G 0, 10, .inl ibf2)), (ib3, .inl (G 0, 10, .inl ibf3)), (ib4, .inl (G 0, 6, .inl ibf4)), (ib5, .inl (G 0, 6, .inl ibf5)), (ib6, .inl (G 0, 6, .inl ibf6)), (i1, .inr (9, [.int (nI N), .int (nI B), .int (nI D), .ref id1, .ref id2, .ref id3, .ref id4, .ref id5, .ref id6])), (id1, .inl (G 0, 10, .inl u25)), (id2, .inl (G 0, 10, .inl u26)), (id3, .inl (G 0, 10, .inl u27)), (id4, .inl (G 0, 6, .inl u28)), (id5, .inl (G 0, 6, .inl u29)), (id6, .inl (G 0, 6, .inl u30)), (wy, .inr (9, [.int (nI N), .int (nI B), .int (nI D), .ref a1, .ref a2, .ref a3, .ref a4, .ref a5, .ref a6])), (a1, .inl (G 0, 10, .inl f1)), (a2, .inl (G 0, 10, .inl f2)), (a3, .inl (G 0, 10, .inl f3)), (a4, .inl (G 0, 6, .inl f4)), (a5, .inl (G 0, 6, .inl f5)), (a6, .inl (G 0, 6, .inl f6))] H := hP
        have hD : va_D A [(h0, .inr (10, [.ref rd, .ref wy, .ref tr, .ref im, .ref kp, .ref od, .ref ch, .ref cr, .ref le, .ref mk, .ref tl, .ref sh, .int tf, .int rf])), (im, .inl (G 3, 2, .inr (.inr (.inr (.inr (va_up (va_up (fun _ => none) 0 (some i0)) 1 (some i1))))))), (kp, .inl (G 2, 2, .inl fk)), (i0, .inr (9, [.int (nI N0), .int (nI B0), .int (nI D0), .ref ib1, .ref ib2, .ref ib3, .ref ib4, .ref ib5, .ref ib6])), (ib1, .inl (G 0, 10, .inl ibf1)), (ib2, .inl (G 0, 10, .inl ibf2)), (ib3, .inl (G 0, 10, .inl ibf3)), (ib4, .inl (G 0, 6, .inl ibf4)), (ib5, .inl (G 0, 6, .inl ibf5)), (ib6, .inl (G 0, 6, .inl ibf6)), (i1, .inr (9, [.int (nI N), .int (nI B), .int (nI D), .ref id1, .ref id2, .ref id3, .ref id4, .ref id5, .ref id6])), (id1, .inl (G 0, 10, .inl u25)), (id2, .inl (G 0, 10, .inl u26)), (id3, .inl (G 0, 10, .inl u27)), (id4, .inl (G 0, 6, .inl u28)), (id5, .inl (G 0, 6, .inl u29)), (id6, .inl (G 0, 6, .inl u30)), (wy, .inr (9, [.int (nI N), .int (nI B), .int (nI D), .ref a1, .ref a2, .ref a3, .ref a4, .ref a5, .ref a6])), (a1, .inl (G 0, 10, .inl f1)), (a2, .inl (G 0, 10, .inl f2)), (a3, .inl (G 0, 10, .inl f3)), (a4, .inl (G 0, 6, .inl f4)), (a5, .inl (G 0, 6, .inl f5)), (a6, .inl (G 0, 6, .inl f6))] := hD
        refine lv_aload_n hx hb dX10_keep_37 rfl (lv_at hl 1 rfl) ?_
        refine va_get (D := (dC, dI)) (ci := 10) (v := .ref kp) (C := RX10) (T := TX10) (N := 14) hx hb hg inG10 hown hK.1 hP 0 rfl rfl 4 (by decide) (hg _ wt_306) (fun _ h9 => h9) rfl dX10_keep_38 ?_
        refine lv_iload_n hx hb dX10_keep_41 rfl (lv_at hl 2 rfl) ?_
        refine lv_iconst (v := 1) hx hb dX10_keep_42 (by decide) ?_
        refine va_zast hx hb hK.1 hP hD hS 2 2 rfl rfl (vp_in_iff.mpr ⟨by decide, by decide⟩) dX10_keep_43 (fun H locs hP hD hS => ?_)
        have hP : va_P (dC, dI) vwCl [(h0, .inr (10, [.ref rd, .ref wy, .ref tr, .ref im, .ref kp, .ref od, .ref ch, .ref cr, .ref le, .ref mk, .ref tl, .ref sh, .int tf, .int rf])), (im, .inl (G 3, 2, .inr (.inr (.inr (.inr (va_up (va_up (fun _ => none) 0 (some i0)) 1 (some i1))))))), (kp, .inl (G 2, 2, .inl (upd fk 1 (vp_nar .boolean 1)))), (i0, .inr (9, [.int (nI N0), .int (nI B0), .int (nI D0), .ref ib1, .ref ib2, .ref ib3, .ref ib4, .ref ib5, .ref ib6])), (ib1, .inl (G 0, 10, .inl ibf1)), (ib2, .inl (G 0, 10, .inl ibf2)), (ib3, .inl (G 0, 10, .inl ibf3)), (ib4, .inl (G 0, 6, .inl ibf4)), (ib5, .inl (G 0, 6, .inl ibf5)), (ib6, .inl (G 0, 6, .inl ibf6)), (i1, .inr (9, [.int (nI N), .int (nI B), .int (nI D), .ref id1, .ref id2, .ref id3, .ref id4, .ref id5, .ref id6])), (id1, .inl (G 0, 10, .inl u25)), (id2, .inl (G 0, 10, .inl u26)), (id3, .inl (G 0, 10, .inl u27)), (id4, .inl (G 0, 6, .inl u28)), (id5, .inl (G 0, 6, .inl u29)), (id6, .inl (G 0, 6, .inl u30)), (wy, .inr (9, [.int (nI N), .int (nI B), .int (nI D), .ref a1, .ref a2, .ref a3, .ref a4, .ref a5, .ref a6])), (a1, .inl (G 0, 10, .inl f1)), (a2, .inl (G 0, 10, .inl f2)), (a3, .inl (G 0, 10, .inl f3)), (a4, .inl (G 0, 6, .inl f4)), (a5, .inl (G 0, 6, .inl f5)), (a6, .inl (G 0, 6, .inl f6))] H := hP
        have hD : va_D A [(h0, .inr (10, [.ref rd, .ref wy, .ref tr, .ref im, .ref kp, .ref od, .ref ch, .ref cr, .ref le, .ref mk, .ref tl, .ref sh, .int tf, .int rf])), (im, .inl (G 3, 2, .inr (.inr (.inr (.inr (va_up (va_up (fun _ => none) 0 (some i0)) 1 (some i1))))))), (kp, .inl (G 2, 2, .inl (upd fk 1 (vp_nar .boolean 1)))), (i0, .inr (9, [.int (nI N0), .int (nI B0), .int (nI D0), .ref ib1, .ref ib2, .ref ib3, .ref ib4, .ref ib5, .ref ib6])), (ib1, .inl (G 0, 10, .inl ibf1)), (ib2, .inl (G 0, 10, .inl ibf2)), (ib3, .inl (G 0, 10, .inl ibf3)), (ib4, .inl (G 0, 6, .inl ibf4)), (ib5, .inl (G 0, 6, .inl ibf5)), (ib6, .inl (G 0, 6, .inl ibf6)), (i1, .inr (9, [.int (nI N), .int (nI B), .int (nI D), .ref id1, .ref id2, .ref id3, .ref id4, .ref id5, .ref id6])), (id1, .inl (G 0, 10, .inl u25)), (id2, .inl (G 0, 10, .inl u26)), (id3, .inl (G 0, 10, .inl u27)), (id4, .inl (G 0, 6, .inl u28)), (id5, .inl (G 0, 6, .inl u29)), (id6, .inl (G 0, 6, .inl u30)), (wy, .inr (9, [.int (nI N), .int (nI B), .int (nI D), .ref a1, .ref a2, .ref a3, .ref a4, .ref a5, .ref a6])), (a1, .inl (G 0, 10, .inl f1)), (a2, .inl (G 0, 10, .inl f2)), (a3, .inl (G 0, 10, .inl f3)), (a4, .inl (G 0, 6, .inl f4)), (a5, .inl (G 0, 6, .inl f5)), (a6, .inl (G 0, 6, .inl f6))] := hD
        refine lv_iload_n hx hb dX10_keep_44 rfl (lv_at hl 0 rfl) ?_
        have hpost : (0 : Int32) = if (0 ≤ (1 : Int32).toInt ∧ (1 : Int32).toInt < 2) then (if fk (1 : Int32).toNatClampNeg = 0 then 0 else 1) else -1 := by
          have tn2697_ : nIT N := fun _ => nI_toInt (by omega)
          have tn2698_ : nIT B := fun _ => nI_toInt (by omega)
          have tn2699_ : nIT D := fun _ => nI_toInt (by omega)
          have tn2700_ : nIT N0 := fun _ => nI_toInt (by omega)
          have tn2701_ : nIT B0 := fun _ => nI_toInt (by omega)
          have tn2702_ : nIT D0 := fun _ => nI_toInt (by omega)
          have tn2703_ : nIT N1 := fun _ => nI_toInt (by omega)
          have tn2704_ : nIT B1 := fun _ => nI_toInt (by omega)
          have tn2705_ : nIT D1 := fun _ => nI_toInt (by omega)
          have k0 : (0 : Int32).toNatClampNeg = 0 := (by decide)
          have k1 : (1 : Int32).toNatClampNeg = 1 := (by decide)
          first | (rw [if_neg (by (have t_c22 := eqI c22; have : (0 : Int32).toInt = 0 := qI_0; have t_n0 : (nI N).toInt = (N : Int) := tn2697_ (); have t_n1 : (nI B).toInt = (B : Int) := tn2698_ (); have t_n2 : (nI D).toInt = (D : Int) := tn2699_ (); have t_n3 : (nI N0).toInt = (N0 : Int) := tn2700_ (); have t_n4 : (nI B0).toInt = (B0 : Int) := tn2701_ (); have t_n5 : (nI D0).toInt = (D0 : Int) := tn2702_ (); have t_n6 : (nI N1).toInt = (N1 : Int) := tn2703_ (); have t_n7 : (nI B1).toInt = (B1 : Int) := tn2704_ (); have t_n8 : (nI D1).toInt = (D1 : Int) := tn2705_ (); have z0 : (0 : Int32).toInt = 0 := qI_0; have z1 : (1 : Int32).toInt = 1 := qI_1; have z2 : (2 : Int32).toInt = 2 := qI_2; have z3 : (3 : Int32).toInt = 3 := qI_3; have z5 : (5 : Int32).toInt = 5 := qI_5; have z9 : (9 : Int32).toInt = 9 := qI_9; have z20 : (20 : Int32).toInt = 20 := qI_20; have z4 : (-4 : Int32).toInt = -4 := (by decide); have z10 : (10 : Int32).toInt = 10 := qI_10; omega))]; done) | (rw [if_pos (by decide)]; (try rw [k0]); (try rw [k1]); first | (rw [if_pos (by assumption)]; done) | (rw [if_neg (by assumption)]; done))
        have hP9 := hP.sub (ws' := [(h0, .inr (10, [.ref rd, .ref wy, .ref tr, .ref im, .ref kp, .ref od, .ref ch, .ref cr, .ref le, .ref mk, .ref tl, .ref sh, .int tf, .int rf])), (wy, .inr (9, [.int (nI N), .int (nI B), .int (nI D), .ref a1, .ref a2, .ref a3, .ref a4, .ref a5, .ref a6])), (a1, .inl (G 0, 10, .inl f1)), (a2, .inl (G 0, 10, .inl f2)), (a3, .inl (G 0, 10, .inl f3)), (a4, .inl (G 0, 6, .inl f4)), (a5, .inl (G 0, 6, .inl f5)), (a6, .inl (G 0, 6, .inl f6)), (im, .inl (G 3, 2, .inr (.inr (.inr (.inr (va_up (va_up (fun _ => none) 0 (some i0)) 1 (some i1))))))), (kp, .inl (G 2, 2, .inl (upd fk 1 (vp_nar .boolean 1)))), (i0, .inr (9, [.int (nI N0), .int (nI B0), .int (nI D0), .ref ib1, .ref ib2, .ref ib3, .ref ib4, .ref ib5, .ref ib6])), (ib1, .inl (G 0, 10, .inl ibf1)), (ib2, .inl (G 0, 10, .inl ibf2)), (ib3, .inl (G 0, 10, .inl ibf3)), (ib4, .inl (G 0, 6, .inl ibf4)), (ib5, .inl (G 0, 6, .inl ibf5)), (ib6, .inl (G 0, 6, .inl ibf6)), (i1, .inr (9, [.int (nI N), .int (nI B), .int (nI D), .ref id1, .ref id2, .ref id3, .ref id4, .ref id5, .ref id6])), (id1, .inl (G 0, 10, .inl u25)), (id2, .inl (G 0, 10, .inl u26)), (id3, .inl (G 0, 10, .inl u27)), (id4, .inl (G 0, 6, .inl u28)), (id5, .inl (G 0, 6, .inl u29)), (id6, .inl (G 0, 6, .inl u30))]) [0, 17, 18, 19, 20, 21, 22, 23, 1, 2, 3, 4, 5, 6, 7, 8, 9, 10, 11, 12, 13, 14, 15, 16] rfl
        have hD9 := hD.sub (ws' := [(h0, .inr (10, [.ref rd, .ref wy, .ref tr, .ref im, .ref kp, .ref od, .ref ch, .ref cr, .ref le, .ref mk, .ref tl, .ref sh, .int tf, .int rf])), (wy, .inr (9, [.int (nI N), .int (nI B), .int (nI D), .ref a1, .ref a2, .ref a3, .ref a4, .ref a5, .ref a6])), (a1, .inl (G 0, 10, .inl f1)), (a2, .inl (G 0, 10, .inl f2)), (a3, .inl (G 0, 10, .inl f3)), (a4, .inl (G 0, 6, .inl f4)), (a5, .inl (G 0, 6, .inl f5)), (a6, .inl (G 0, 6, .inl f6)), (im, .inl (G 3, 2, .inr (.inr (.inr (.inr (va_up (va_up (fun _ => none) 0 (some i0)) 1 (some i1))))))), (kp, .inl (G 2, 2, .inl (upd fk 1 (vp_nar .boolean 1)))), (i0, .inr (9, [.int (nI N0), .int (nI B0), .int (nI D0), .ref ib1, .ref ib2, .ref ib3, .ref ib4, .ref ib5, .ref ib6])), (ib1, .inl (G 0, 10, .inl ibf1)), (ib2, .inl (G 0, 10, .inl ibf2)), (ib3, .inl (G 0, 10, .inl ibf3)), (ib4, .inl (G 0, 6, .inl ibf4)), (ib5, .inl (G 0, 6, .inl ibf5)), (ib6, .inl (G 0, 6, .inl ibf6)), (i1, .inr (9, [.int (nI N), .int (nI B), .int (nI D), .ref id1, .ref id2, .ref id3, .ref id4, .ref id5, .ref id6])), (id1, .inl (G 0, 10, .inl u25)), (id2, .inl (G 0, 10, .inl u26)), (id3, .inl (G 0, 10, .inl u27)), (id4, .inl (G 0, 6, .inl u28)), (id5, .inl (G 0, 6, .inl u29)), (id6, .inl (G 0, 6, .inl u30))]) [0, 17, 18, 19, 20, 21, 22, 23, 1, 2, 3, 4, 5, 6, 7, 8, 9, 10, 11, 12, 13, 14, 15, 16] (by decide) rfl
        refine W.widen (k := 0) (n := 0) (Nat.le_of_ble_eq_true rfl) (Nat.le_of_ble_eq_true rfl) ?_
        have tn2706_ : nIT N := fun _ => nI_toInt (by first | omega | (have t_c22 := eqI c22; have : (0 : Int32).toInt = 0 := qI_0; omega))
        have tn2707_ : nIT B := fun _ => nI_toInt (by first | omega | (have t_c22 := eqI c22; have : (0 : Int32).toInt = 0 := qI_0; omega))
        have tn2708_ : nIT D := fun _ => nI_toInt (by first | omega | (have t_c22 := eqI c22; have : (0 : Int32).toInt = 0 := qI_0; omega))
        have tn2709_ : nIT N0 := fun _ => nI_toInt (by first | omega | (have t_c22 := eqI c22; have : (0 : Int32).toInt = 0 := qI_0; omega))
        have tn2710_ : nIT B0 := fun _ => nI_toInt (by first | omega | (have t_c22 := eqI c22; have : (0 : Int32).toInt = 0 := qI_0; omega))
        have tn2711_ : nIT D0 := fun _ => nI_toInt (by first | omega | (have t_c22 := eqI c22; have : (0 : Int32).toInt = 0 := qI_0; omega))
        have tn2712_ : nIT N1 := fun _ => nI_toInt (by first | omega | (have t_c22 := eqI c22; have : (0 : Int32).toInt = 0 := qI_0; omega))
        have tn2713_ : nIT B1 := fun _ => nI_toInt (by first | omega | (have t_c22 := eqI c22; have : (0 : Int32).toInt = 0 := qI_0; omega))
        have tn2714_ : nIT D1 := fun _ => nI_toInt (by first | omega | (have t_c22 := eqI c22; have : (0 : Int32).toInt = 0 := qI_0; omega))
        exact W.iret (v := 0) hx hb hr (fun t ht hW => ⟨⟨0, (N0, B0, D0, ibf1, ibf2, ibf3, ibf4, ibf5, ibf6, N, B, D, u25, u26, u27, u28, u29, u30, (upd fk 1 (vp_nar .boolean 1))), rfl, ⟨hpost, (by have k0 : (0 : Int32).toNatClampNeg = 0 := (by decide); have k1 : (1 : Int32).toNatClampNeg = 1 := (by decide); refine ⟨⟨⟨by (have t_c22 := eqI c22; have : (0 : Int32).toInt = 0 := qI_0; have t_n0 : (nI N).toInt = (N : Int) := tn2706_ (); have t_n1 : (nI B).toInt = (B : Int) := tn2707_ (); have t_n2 : (nI D).toInt = (D : Int) := tn2708_ (); have t_n3 : (nI N0).toInt = (N0 : Int) := tn2709_ (); have t_n4 : (nI B0).toInt = (B0 : Int) := tn2710_ (); have t_n5 : (nI D0).toInt = (D0 : Int) := tn2711_ (); have t_n6 : (nI N1).toInt = (N1 : Int) := tn2712_ (); have t_n7 : (nI B1).toInt = (B1 : Int) := tn2713_ (); have t_n8 : (nI D1).toInt = (D1 : Int) := tn2714_ (); have z0 : (0 : Int32).toInt = 0 := qI_0; have z1 : (1 : Int32).toInt = 1 := qI_1; have z2 : (2 : Int32).toInt = 2 := qI_2; have z3 : (3 : Int32).toInt = 3 := qI_3; have z5 : (5 : Int32).toInt = 5 := qI_5; have z9 : (9 : Int32).toInt = 9 := qI_9; have z20 : (20 : Int32).toInt = 20 := qI_20; have z4 : (-4 : Int32).toInt = -4 := (by decide); have z10 : (10 : Int32).toInt = 10 := qI_10; omega), by (have t_c22 := eqI c22; have : (0 : Int32).toInt = 0 := qI_0; have t_n0 : (nI N).toInt = (N : Int) := tn2706_ (); have t_n1 : (nI B).toInt = (B : Int) := tn2707_ (); have t_n2 : (nI D).toInt = (D : Int) := tn2708_ (); have t_n3 : (nI N0).toInt = (N0 : Int) := tn2709_ (); have t_n4 : (nI B0).toInt = (B0 : Int) := tn2710_ (); have t_n5 : (nI D0).toInt = (D0 : Int) := tn2711_ (); have t_n6 : (nI N1).toInt = (N1 : Int) := tn2712_ (); have t_n7 : (nI B1).toInt = (B1 : Int) := tn2713_ (); have t_n8 : (nI D1).toInt = (D1 : Int) := tn2714_ (); have z0 : (0 : Int32).toInt = 0 := qI_0; have z1 : (1 : Int32).toInt = 1 := qI_1; have z2 : (2 : Int32).toInt = 2 := qI_2; have z3 : (3 : Int32).toInt = 3 := qI_3; have z5 : (5 : Int32).toInt = 5 := qI_5; have z9 : (9 : Int32).toInt = 9 := qI_9; have z20 : (20 : Int32).toInt = 20 := qI_20; have z4 : (-4 : Int32).toInt = -4 := (by decide); have z10 : (10 : Int32).toInt = 10 := qI_10; omega), by (have t_c22 := eqI c22; have : (0 : Int32).toInt = 0 := qI_0; have t_n0 : (nI N).toInt = (N : Int) := tn2706_ (); have t_n1 : (nI B).toInt = (B : Int) := tn2707_ (); have t_n2 : (nI D).toInt = (D : Int) := tn2708_ (); have t_n3 : (nI N0).toInt = (N0 : Int) := tn2709_ (); have t_n4 : (nI B0).toInt = (B0 : Int) := tn2710_ (); have t_n5 : (nI D0).toInt = (D0 : Int) := tn2711_ (); have t_n6 : (nI N1).toInt = (N1 : Int) := tn2712_ (); have t_n7 : (nI B1).toInt = (B1 : Int) := tn2713_ (); have t_n8 : (nI D1).toInt = (D1 : Int) := tn2714_ (); have z0 : (0 : Int32).toInt = 0 := qI_0; have z1 : (1 : Int32).toInt = 1 := qI_1; have z2 : (2 : Int32).toInt = 2 := qI_2; have z3 : (3 : Int32).toInt = 3 := qI_3; have z5 : (5 : Int32).toInt = 5 := qI_5; have z9 : (9 : Int32).toInt = 9 := qI_9; have z20 : (20 : Int32).toInt = 20 := qI_20; have z4 : (-4 : Int32).toInt = -4 := (by decide); have z10 : (10 : Int32).toInt = 10 := qI_10; omega), by (have t_c22 := eqI c22; have : (0 : Int32).toInt = 0 := qI_0; have t_n0 : (nI N).toInt = (N : Int) := tn2706_ (); have t_n1 : (nI B).toInt = (B : Int) := tn2707_ (); have t_n2 : (nI D).toInt = (D : Int) := tn2708_ (); have t_n3 : (nI N0).toInt = (N0 : Int) := tn2709_ (); have t_n4 : (nI B0).toInt = (B0 : Int) := tn2710_ (); have t_n5 : (nI D0).toInt = (D0 : Int) := tn2711_ (); have t_n6 : (nI N1).toInt = (N1 : Int) := tn2712_ (); have t_n7 : (nI B1).toInt = (B1 : Int) := tn2713_ (); have t_n8 : (nI D1).toInt = (D1 : Int) := tn2714_ (); have z0 : (0 : Int32).toInt = 0 := qI_0; have z1 : (1 : Int32).toInt = 1 := qI_1; have z2 : (2 : Int32).toInt = 2 := qI_2; have z3 : (3 : Int32).toInt = 3 := qI_3; have z5 : (5 : Int32).toInt = 5 := qI_5; have z9 : (9 : Int32).toInt = 9 := qI_9; have z20 : (20 : Int32).toInt = 20 := qI_20; have z4 : (-4 : Int32).toInt = -4 := (by decide); have z10 : (10 : Int32).toInt = 10 := qI_10; omega)⟩, ⟨by (have t_c22 := eqI c22; have : (0 : Int32).toInt = 0 := qI_0; have t_n0 : (nI N).toInt = (N : Int) := tn2706_ (); have t_n1 : (nI B).toInt = (B : Int) := tn2707_ (); have t_n2 : (nI D).toInt = (D : Int) := tn2708_ (); have t_n3 : (nI N0).toInt = (N0 : Int) := tn2709_ (); have t_n4 : (nI B0).toInt = (B0 : Int) := tn2710_ (); have t_n5 : (nI D0).toInt = (D0 : Int) := tn2711_ (); have t_n6 : (nI N1).toInt = (N1 : Int) := tn2712_ (); have t_n7 : (nI B1).toInt = (B1 : Int) := tn2713_ (); have t_n8 : (nI D1).toInt = (D1 : Int) := tn2714_ (); have z0 : (0 : Int32).toInt = 0 := qI_0; have z1 : (1 : Int32).toInt = 1 := qI_1; have z2 : (2 : Int32).toInt = 2 := qI_2; have z3 : (3 : Int32).toInt = 3 := qI_3; have z5 : (5 : Int32).toInt = 5 := qI_5; have z9 : (9 : Int32).toInt = 9 := qI_9; have z20 : (20 : Int32).toInt = 20 := qI_20; have z4 : (-4 : Int32).toInt = -4 := (by decide); have z10 : (10 : Int32).toInt = 10 := qI_10; omega), by (have t_c22 := eqI c22; have : (0 : Int32).toInt = 0 := qI_0; have t_n0 : (nI N).toInt = (N : Int) := tn2706_ (); have t_n1 : (nI B).toInt = (B : Int) := tn2707_ (); have t_n2 : (nI D).toInt = (D : Int) := tn2708_ (); have t_n3 : (nI N0).toInt = (N0 : Int) := tn2709_ (); have t_n4 : (nI B0).toInt = (B0 : Int) := tn2710_ (); have t_n5 : (nI D0).toInt = (D0 : Int) := tn2711_ (); have t_n6 : (nI N1).toInt = (N1 : Int) := tn2712_ (); have t_n7 : (nI B1).toInt = (B1 : Int) := tn2713_ (); have t_n8 : (nI D1).toInt = (D1 : Int) := tn2714_ (); have z0 : (0 : Int32).toInt = 0 := qI_0; have z1 : (1 : Int32).toInt = 1 := qI_1; have z2 : (2 : Int32).toInt = 2 := qI_2; have z3 : (3 : Int32).toInt = 3 := qI_3; have z5 : (5 : Int32).toInt = 5 := qI_5; have z9 : (9 : Int32).toInt = 9 := qI_9; have z20 : (20 : Int32).toInt = 20 := qI_20; have z4 : (-4 : Int32).toInt = -4 := (by decide); have z10 : (10 : Int32).toInt = 10 := qI_10; omega), by (have t_c22 := eqI c22; have : (0 : Int32).toInt = 0 := qI_0; have t_n0 : (nI N).toInt = (N : Int) := tn2706_ (); have t_n1 : (nI B).toInt = (B : Int) := tn2707_ (); have t_n2 : (nI D).toInt = (D : Int) := tn2708_ (); have t_n3 : (nI N0).toInt = (N0 : Int) := tn2709_ (); have t_n4 : (nI B0).toInt = (B0 : Int) := tn2710_ (); have t_n5 : (nI D0).toInt = (D0 : Int) := tn2711_ (); have t_n6 : (nI N1).toInt = (N1 : Int) := tn2712_ (); have t_n7 : (nI B1).toInt = (B1 : Int) := tn2713_ (); have t_n8 : (nI D1).toInt = (D1 : Int) := tn2714_ (); have z0 : (0 : Int32).toInt = 0 := qI_0; have z1 : (1 : Int32).toInt = 1 := qI_1; have z2 : (2 : Int32).toInt = 2 := qI_2; have z3 : (3 : Int32).toInt = 3 := qI_3; have z5 : (5 : Int32).toInt = 5 := qI_5; have z9 : (9 : Int32).toInt = 9 := qI_9; have z20 : (20 : Int32).toInt = 20 := qI_20; have z4 : (-4 : Int32).toInt = -4 := (by decide); have z10 : (10 : Int32).toInt = 10 := qI_10; omega), by (have t_c22 := eqI c22; have : (0 : Int32).toInt = 0 := qI_0; have t_n0 : (nI N).toInt = (N : Int) := tn2706_ (); have t_n1 : (nI B).toInt = (B : Int) := tn2707_ (); have t_n2 : (nI D).toInt = (D : Int) := tn2708_ (); have t_n3 : (nI N0).toInt = (N0 : Int) := tn2709_ (); have t_n4 : (nI B0).toInt = (B0 : Int) := tn2710_ (); have t_n5 : (nI D0).toInt = (D0 : Int) := tn2711_ (); have t_n6 : (nI N1).toInt = (N1 : Int) := tn2712_ (); have t_n7 : (nI B1).toInt = (B1 : Int) := tn2713_ (); have t_n8 : (nI D1).toInt = (D1 : Int) := tn2714_ (); have z0 : (0 : Int32).toInt = 0 := qI_0; have z1 : (1 : Int32).toInt = 1 := qI_1; have z2 : (2 : Int32).toInt = 2 := qI_2; have z3 : (3 : Int32).toInt = 3 := qI_3; have z5 : (5 : Int32).toInt = 5 := qI_5; have z9 : (9 : Int32).toInt = 9 := qI_9; have z20 : (20 : Int32).toInt = 20 := qI_20; have z4 : (-4 : Int32).toInt = -4 := (by decide); have z10 : (10 : Int32).toInt = 10 := qI_10; omega)⟩⟩, ?_, ?_, ?_, ?_, ?_, ?_, ?_, ?_, ?_, ?_, ?_, ?_, ?_, ?_, ?_, ?_, ?_, ?_, ?_⟩ <;> (first | done | rfl | (have t_c22 := eqI c22; have : (0 : Int32).toInt = 0 := qI_0; have t_n0 : (nI N).toInt = (N : Int) := tn2706_ (); have t_n1 : (nI B).toInt = (B : Int) := tn2707_ (); have t_n2 : (nI D).toInt = (D : Int) := tn2708_ (); have t_n3 : (nI N0).toInt = (N0 : Int) := tn2709_ (); have t_n4 : (nI B0).toInt = (B0 : Int) := tn2710_ (); have t_n5 : (nI D0).toInt = (D0 : Int) := tn2711_ (); have t_n6 : (nI N1).toInt = (N1 : Int) := tn2712_ (); have t_n7 : (nI B1).toInt = (B1 : Int) := tn2713_ (); have t_n8 : (nI D1).toInt = (D1 : Int) := tn2714_ (); have z0 : (0 : Int32).toInt = 0 := qI_0; have z1 : (1 : Int32).toInt = 1 := qI_1; have z2 : (2 : Int32).toInt = 2 := qI_2; have z3 : (3 : Int32).toInt = 3 := qI_3; have z5 : (5 : Int32).toInt = 5 := qI_5; have z9 : (9 : Int32).toInt = 9 := qI_9; have z20 : (20 : Int32).toInt = 20 := qI_20; have z4 : (-4 : Int32).toInt = -4 := (by decide); have z10 : (10 : Int32).toInt = 10 := qI_10; omega) | (rw [if_neg (by assumption)]; done) | (rw [if_neg (by decide)]; done) | (rw [if_pos (by decide)]; first | done | rfl | exact w24.1 | exact w24.2.1 | exact w24.2.2.1 | exact w24.2.2.2.1 | exact w24.2.2.2.2.1 | exact w24.2.2.2.2.2 | (rw [k0]; rfl) | (rw [k1]; rfl)) | (rw [if_pos rfl]; first | done | rfl | exact w24.1 | exact w24.2.1 | exact w24.2.2.1 | exact w24.2.2.2.1 | exact w24.2.2.2.2.1 | exact w24.2.2.2.2.2) | (rw [if_neg (by (have t_c22 := eqI c22; have : (0 : Int32).toInt = 0 := qI_0; have t_n0 : (nI N).toInt = (N : Int) := tn2706_ (); have t_n1 : (nI B).toInt = (B : Int) := tn2707_ (); have t_n2 : (nI D).toInt = (D : Int) := tn2708_ (); have t_n3 : (nI N0).toInt = (N0 : Int) := tn2709_ (); have t_n4 : (nI B0).toInt = (B0 : Int) := tn2710_ (); have t_n5 : (nI D0).toInt = (D0 : Int) := tn2711_ (); have t_n6 : (nI N1).toInt = (N1 : Int) := tn2712_ (); have t_n7 : (nI B1).toInt = (B1 : Int) := tn2713_ (); have t_n8 : (nI D1).toInt = (D1 : Int) := tn2714_ (); have z0 : (0 : Int32).toInt = 0 := qI_0; have z1 : (1 : Int32).toInt = 1 := qI_1; have z2 : (2 : Int32).toInt = 2 := qI_2; have z3 : (3 : Int32).toInt = 3 := qI_3; have z5 : (5 : Int32).toInt = 5 := qI_5; have z9 : (9 : Int32).toInt = 9 := qI_9; have z20 : (20 : Int32).toInt = 20 := qI_20; have z4 : (-4 : Int32).toInt = -4 := (by decide); have z10 : (10 : Int32).toInt = 10 := qI_10; omega))]; done) | (rw [if_neg (fun e9 => by have e8 := congrArg Int32.toInt e9; (have t_c22 := eqI c22; have : (0 : Int32).toInt = 0 := qI_0; have t_n0 : (nI N).toInt = (N : Int) := tn2706_ (); have t_n1 : (nI B).toInt = (B : Int) := tn2707_ (); have t_n2 : (nI D).toInt = (D : Int) := tn2708_ (); have t_n3 : (nI N0).toInt = (N0 : Int) := tn2709_ (); have t_n4 : (nI B0).toInt = (B0 : Int) := tn2710_ (); have t_n5 : (nI D0).toInt = (D0 : Int) := tn2711_ (); have t_n6 : (nI N1).toInt = (N1 : Int) := tn2712_ (); have t_n7 : (nI B1).toInt = (B1 : Int) := tn2713_ (); have t_n8 : (nI D1).toInt = (D1 : Int) := tn2714_ (); have z0 : (0 : Int32).toInt = 0 := qI_0; have z1 : (1 : Int32).toInt = 1 := qI_1; have z2 : (2 : Int32).toInt = 2 := qI_2; have z3 : (3 : Int32).toInt = 3 := qI_3; have z5 : (5 : Int32).toInt = 5 := qI_5; have z9 : (9 : Int32).toInt = 9 := qI_9; have z20 : (20 : Int32).toInt = 20 := qI_20; have z4 : (-4 : Int32).toInt = -4 := (by decide); have z10 : (10 : Int32).toInt = 10 := qI_10; omega))]; done)))⟩, ⟨by rw [ht]; exact hP9, hD9⟩⟩, hS.F ht⟩) hS.2.2 dX10_keep_45
      · skip
        refine lv_iconst (v := 1) hx hb dX10_keep_18 (by decide) ?_
        refine lv_goto (tgt := 23) hx hb dX10_keep_19 (by decide) ?_
        refine lv_istore_n (lv' := [(2, .int 1), (0, .ref h0), (1, .int 1)]) hx hb dX10_keep_23 rfl hl (by decide) rfl (fun ls hl => ?_)
        refine lv_aload_n hx hb dX10_keep_24 rfl (lv_at hl 1 rfl) ?_
        refine va_get (D := (dC, dI)) (ci := 10) (v := .ref im) (C := RX10) (T := TX10) (N := 14) hx hb hg inG10 hown hK.1 hP 0 rfl rfl 3 (by decide) (hg _ wt_305) (fun _ h9 => h9) rfl dX10_keep_25 ?_
        refine lv_iload_n hx hb dX10_keep_28 rfl (lv_at hl 2 rfl) ?_
        refine va_aldq hx hb hK.1 hP 8 3 rfl rfl (vp_in_iff.mpr ⟨by decide, by decide⟩) dX10_keep_29 ?_
        refine lv_cgv (y := .ref i1) (by rfl) ?_
        refine lv_aload_n hx hb dX10_keep_30 rfl (lv_at hl 1 rfl) ?_
        refine va_get (D := (dC, dI)) (ci := 10) (v := .ref wy) (C := RX10) (T := TX10) (N := 14) hx hb hg inG10 hown hK.1 hP 0 rfl rfl 1 (by decide) (hg _ wt_303) (fun _ h9 => h9) rfl dX10_keep_31 ?_
        have hPc := hP.sub (ws' := [(i1, .inr (9, [.int (nI N1), .int (nI B1), .int (nI D1), .ref id1, .ref id2, .ref id3, .ref id4, .ref id5, .ref id6])), (id1, .inl (G 0, 10, .inl idf1)), (id2, .inl (G 0, 10, .inl idf2)), (id3, .inl (G 0, 10, .inl idf3)), (id4, .inl (G 0, 6, .inl idf4)), (id5, .inl (G 0, 6, .inl idf5)), (id6, .inl (G 0, 6, .inl idf6)), (wy, .inr (9, [.int (nI N), .int (nI B), .int (nI D), .ref a1, .ref a2, .ref a3, .ref a4, .ref a5, .ref a6])), (a1, .inl (G 0, 10, .inl f1)), (a2, .inl (G 0, 10, .inl f2)), (a3, .inl (G 0, 10, .inl f3)), (a4, .inl (G 0, 6, .inl f4)), (a5, .inl (G 0, 6, .inl f5)), (a6, .inl (G 0, 6, .inl f6))]) [17, 18, 19, 20, 21, 22, 23, 1, 2, 3, 4, 5, 6, 7] rfl
        have hDc := hD.sub (ws' := [(i1, .inr (9, [.int (nI N1), .int (nI B1), .int (nI D1), .ref id1, .ref id2, .ref id3, .ref id4, .ref id5, .ref id6])), (id1, .inl (G 0, 10, .inl idf1)), (id2, .inl (G 0, 10, .inl idf2)), (id3, .inl (G 0, 10, .inl idf3)), (id4, .inl (G 0, 6, .inl idf4)), (id5, .inl (G 0, 6, .inl idf5)), (id6, .inl (G 0, 6, .inl idf6)), (wy, .inr (9, [.int (nI N), .int (nI B), .int (nI D), .ref a1, .ref a2, .ref a3, .ref a4, .ref a5, .ref a6])), (a1, .inl (G 0, 10, .inl f1)), (a2, .inl (G 0, 10, .inl f2)), (a3, .inl (G 0, 10, .inl f3)), (a4, .inl (G 0, 6, .inl f4)), (a5, .inl (G 0, 6, .inl f5)), (a6, .inl (G 0, 6, .inl f6))]) [17, 18, 19, 20, 21, 22, 23, 1, 2, 3, 4, 5, 6, 7] (by decide) rfl
        have hFc := va_free (wc := [(i1, .inr (9, [.int (nI N1), .int (nI B1), .int (nI D1), .ref id1, .ref id2, .ref id3, .ref id4, .ref id5, .ref id6])), (id1, .inl (G 0, 10, .inl idf1)), (id2, .inl (G 0, 10, .inl idf2)), (id3, .inl (G 0, 10, .inl idf3)), (id4, .inl (G 0, 6, .inl idf4)), (id5, .inl (G 0, 6, .inl idf5)), (id6, .inl (G 0, 6, .inl idf6)), (wy, .inr (9, [.int (nI N), .int (nI B), .int (nI D), .ref a1, .ref a2, .ref a3, .ref a4, .ref a5, .ref a6])), (a1, .inl (G 0, 10, .inl f1)), (a2, .inl (G 0, 10, .inl f2)), (a3, .inl (G 0, 10, .inl f3)), (a4, .inl (G 0, 6, .inl f4)), (a5, .inl (G 0, 6, .inl f5)), (a6, .inl (G 0, 6, .inl f6))]) hD hS hA [17, 18, 19, 20, 21, 22, 23, 1, 2, 3, 4, 5, 6, 7] rfl
        refine va_callv (va_runVN (As := [.ref wy]) (rest := []) ⟨hx, hb, hml, hown, hg⟩ (c_X9_copyOfE l dC dI G _ i1 wy id1 id2 id3 id4 id5 id6 a1 a2 a3 a4 a5 a6 (nI N1) (nI B1) (nI D1) (nI N) (nI B) (nI D) idf1 idf2 idf3 idf4 idf5 idf6 f1 f2 f3 f4 f5 f6) (kwVN hg hK mfX9_copyOf wn_507 ⟨Nat.le_of_ble_eq_true rfl, Nat.le_of_ble_eq_true rfl⟩) (preVW hK hPc hDc (ci := 9) rfl rfl) rfl rfl hl.1 rfl (lv_room (Nat.le_of_ble_eq_true rfl)) dX10_keep_34 ⟨Nat.le_of_ble_eq_true rfl, Nat.le_of_ble_eq_true rfl⟩) hS (fun q _ h => hFc q h) hFc (fun ur31 t H1 locs ht hvm w32 hB hz1 hk1 hS => ?_)
        obtain ⟨u33, u34, u35, u36, u37, u38⟩ := ur31
        obtain ⟨hP1, hD1⟩ := hB
        rw [ht] at hP1
        obtain ⟨hP, hD⟩ := va_join (wr := [(h0, .inr (10, [.ref rd, .ref wy, .ref tr, .ref im, .ref kp, .ref od, .ref ch, .ref cr, .ref le, .ref mk, .ref tl, .ref sh, .int tf, .int rf])), (im, .inl (G 3, 2, .inr (.inr (.inr (.inr (va_up (va_up (fun _ => none) 0 (some i0)) 1 (some i1))))))), (kp, .inl (G 2, 2, .inl fk)), (i0, .inr (9, [.int (nI N0), .int (nI B0), .int (nI D0), .ref ib1, .ref ib2, .ref ib3, .ref ib4, .ref ib5, .ref ib6])), (ib1, .inl (G 0, 10, .inl ibf1)), (ib2, .inl (G 0, 10, .inl ibf2)), (ib3, .inl (G 0, 10, .inl ibf3)), (ib4, .inl (G 0, 6, .inl ibf4)), (ib5, .inl (G 0, 6, .inl ibf5)), (ib6, .inl (G 0, 6, .inl ibf6))]) (w1 := [(i1, .inr (9, [.int (nI N), .int (nI B), .int (nI D), .ref id1, .ref id2, .ref id3, .ref id4, .ref id5, .ref id6])), (id1, .inl (G 0, 10, .inl u33)), (id2, .inl (G 0, 10, .inl u34)), (id3, .inl (G 0, 10, .inl u35)), (id4, .inl (G 0, 6, .inl u36)), (id5, .inl (G 0, 6, .inl u37)), (id6, .inl (G 0, 6, .inl u38)), (wy, .inr (9, [.int (nI N), .int (nI B), .int (nI D), .ref a1, .ref a2, .ref a3, .ref a4, .ref a5, .ref a6])), (a1, .inl (G 0, 10, .inl f1)), (a2, .inl (G 0, 10, .inl f2)), (a3, .inl (G 0, 10, .inl f3)), (a4, .inl (G 0, 6, .inl f4)), (a5, .inl (G 0, 6, .inl f5)), (a6, .inl (G 0, 6, .inl f6))]) hP hD [17, 18, 19, 20, 21, 22, 23, 1, 2, 3, 4, 5, 6, 7] [0, 8, 9, 10, 11, 12, 13, 14, 15, 16] rfl rfl (by decide) (by decide) hk1 hFc hP1 hD1
        have w32 : u33 = va_cpy f1 idf1 0 0 10 ∧ u34 = va_cpy f2 idf2 0 0 10 ∧ u35 = va_cpy f3 idf3 0 0 10 ∧ u36 = va_cpy f4 idf4 0 0 6 ∧ u37 = va_cpy f5 idf5 0 0 6 ∧ u38 = va_cpy f6 idf6 0 0 6 := w32
        generalize H1 = H at hP hS ⊢
        have hP : va_P (dC, dI) vwCl [(h0, .inr (10, [.ref rd, .ref wy, .ref tr, .ref im, .ref kp, .ref od, .ref ch, .ref cr, .ref le, .ref mk, .ref tl, .ref sh, .int tf, .int rf])), (im, .inl (G 3, 2, .inr (.inr (.inr (.inr (va_up (va_up (fun _ => none) 0 (some i0)) 1 (some i1))))))), (kp, .inl (G 2, 2, .inl fk)), (i0, .inr (9, [.int (nI N0), .int (nI B0), .int (nI D0), .ref ib1, .ref ib2, .ref ib3, .ref ib4, .ref ib5, .ref ib6])), (ib1, .inl (G 0, 10, .inl ibf1)), (ib2, .inl (G 0, 10, .inl ibf2)), (ib3, .inl (G 0, 10, .inl ibf3)), (ib4, .inl (G 0, 6, .inl ibf4)), (ib5, .inl (G 0, 6, .inl ibf5)), (ib6, .inl (G 0, 6, .inl ibf6)), (i1, .inr (9, [.int (nI N), .int (nI B), .int (nI D), .ref id1, .ref id2, .ref id3, .ref id4, .ref id5, .ref id6])), (id1, .inl (G 0, 10, .inl u33)), (id2, .inl (G 0, 10, .inl u34)), (id3, .inl (G 0, 10, .inl u35)), (id4, .inl (G 0, 6, .inl u36)), (id5, .inl (G 0, 6, .inl u37)), (id6, .inl (G 0, 6, .inl u38)), (wy, .inr (9, [.int (nI N), .int (nI B), .int (nI D), .ref a1, .ref a2, .ref a3, .ref a4, .ref a5, .ref a6])), (a1, .inl (G 0, 10, .inl f1)), (a2, .inl (G 0, 10, .inl f2)), (a3, .inl (G 0, 10, .inl f3)), (a4, .inl (G 0, 6, .inl f4)), (a5, .inl (G 0, 6, .inl f5)), (a6, .inl (G 0, 6, .inl f6))] H := hP
        have hD : va_D A [(h0, .inr (10, [.ref rd, .ref wy, .ref tr, .ref im, .ref kp, .ref od, .ref ch, .ref cr, .ref le, .ref mk, .ref tl, .ref sh, .int tf, .int rf])), (im, .inl (G 3, 2, .inr (.inr (.inr (.inr (va_up (va_up (fun _ => none) 0 (some i0)) 1 (some i1))))))), (kp, .inl (G 2, 2, .inl fk)), (i0, .inr (9, [.int (nI N0), .int (nI B0), .int (nI D0), .ref ib1, .ref ib2, .ref ib3, .ref ib4, .ref ib5, .ref ib6])), (ib1, .inl (G 0, 10, .inl ibf1)), (ib2, .inl (G 0, 10, .inl ibf2)), (ib3, .inl (G 0, 10, .inl ibf3)), (ib4, .inl (G 0, 6, .inl ibf4)), (ib5, .inl (G 0, 6, .inl ibf5)), (ib6, .inl (G 0, 6, .inl ibf6)), (i1, .inr (9, [.int (nI N), .int (nI B), .int (nI D), .ref id1, .ref id2, .ref id3, .ref id4, .ref id5, .ref id6])), (id1, .inl (G 0, 10, .inl u33)), (id2, .inl (G 0, 10, .inl u34)), (id3, .inl (G 0, 10, .inl u35)), (id4, .inl (G 0, 6, .inl u36)), (id5, .inl (G 0, 6, .inl u37)), (id6, .inl (G 0, 6, .inl u38)), (wy, .inr (9, [.int (nI N), .int (nI B), .int (nI D), .ref a1, .ref a2, .ref a3, .ref a4, .ref a5, .ref a6])), (a1, .inl (G 0, 10, .inl f1)), (a2, .inl (G 0, 10, .inl f2)), (a3, .inl (G 0, 10, .inl f3)), (a4, .inl (G 0, 6, .inl f4)), (a5, .inl (G 0, 6, .inl f5)), (a6, .inl (G 0, 6, .inl f6))] := hD
        refine lv_aload_n hx hb dX10_keep_37 rfl (lv_at hl 1 rfl) ?_
        refine va_get (D := (dC, dI)) (ci := 10) (v := .ref kp) (C := RX10) (T := TX10) (N := 14) hx hb hg inG10 hown hK.1 hP 0 rfl rfl 4 (by decide) (hg _ wt_306) (fun _ h9 => h9) rfl dX10_keep_38 ?_
        refine lv_iload_n hx hb dX10_keep_41 rfl (lv_at hl 2 rfl) ?_
        refine lv_iconst (v := 1) hx hb dX10_keep_42 (by decide) ?_
        refine va_zast hx hb hK.1 hP hD hS 2 2 rfl rfl (vp_in_iff.mpr ⟨by decide, by decide⟩) dX10_keep_43 (fun H locs hP hD hS => ?_)
        have hP : va_P (dC, dI) vwCl [(h0, .inr (10, [.ref rd, .ref wy, .ref tr, .ref im, .ref kp, .ref od, .ref ch, .ref cr, .ref le, .ref mk, .ref tl, .ref sh, .int tf, .int rf])), (im, .inl (G 3, 2, .inr (.inr (.inr (.inr (va_up (va_up (fun _ => none) 0 (some i0)) 1 (some i1))))))), (kp, .inl (G 2, 2, .inl (upd fk 1 (vp_nar .boolean 1)))), (i0, .inr (9, [.int (nI N0), .int (nI B0), .int (nI D0), .ref ib1, .ref ib2, .ref ib3, .ref ib4, .ref ib5, .ref ib6])), (ib1, .inl (G 0, 10, .inl ibf1)), (ib2, .inl (G 0, 10, .inl ibf2)), (ib3, .inl (G 0, 10, .inl ibf3)), (ib4, .inl (G 0, 6, .inl ibf4)), (ib5, .inl (G 0, 6, .inl ibf5)), (ib6, .inl (G 0, 6, .inl ibf6)), (i1, .inr (9, [.int (nI N), .int (nI B), .int (nI D), .ref id1, .ref id2, .ref id3, .ref id4, .ref id5, .ref id6])), (id1, .inl (G 0, 10, .inl u33)), (id2, .inl (G 0, 10, .inl u34)), (id3, .inl (G 0, 10, .inl u35)), (id4, .inl (G 0, 6, .inl u36)), (id5, .inl (G 0, 6, .inl u37)), (id6, .inl (G 0, 6, .inl u38)), (wy, .inr (9, [.int (nI N), .int (nI B), .int (nI D), .ref a1, .ref a2, .ref a3, .ref a4, .ref a5, .ref a6])), (a1, .inl (G 0, 10, .inl f1)), (a2, .inl (G 0, 10, .inl f2)), (a3, .inl (G 0, 10, .inl f3)), (a4, .inl (G 0, 6, .inl f4)), (a5, .inl (G 0, 6, .inl f5)), (a6, .inl (G 0, 6, .inl f6))] H := hP
        have hD : va_D A [(h0, .inr (10, [.ref rd, .ref wy, .ref tr, .ref im, .ref kp, .ref od, .ref ch, .ref cr, .ref le, .ref mk, .ref tl, .ref sh, .int tf, .int rf])), (im, .inl (G 3, 2, .inr (.inr (.inr (.inr (va_up (va_up (fun _ => none) 0 (some i0)) 1 (some i1))))))), (kp, .inl (G 2, 2, .inl (upd fk 1 (vp_nar .boolean 1)))), (i0, .inr (9, [.int (nI N0), .int (nI B0), .int (nI D0), .ref ib1, .ref ib2, .ref ib3, .ref ib4, .ref ib5, .ref ib6])), (ib1, .inl (G 0, 10, .inl ibf1)), (ib2, .inl (G 0, 10, .inl ibf2)), (ib3, .inl (G 0, 10, .inl ibf3)), (ib4, .inl (G 0, 6, .inl ibf4)), (ib5, .inl (G 0, 6, .inl ibf5)), (ib6, .inl (G 0, 6, .inl ibf6)), (i1, .inr (9, [.int (nI N), .int (nI B), .int (nI D), .ref id1, .ref id2, .ref id3, .ref id4, .ref id5, .ref id6])), (id1, .inl (G 0, 10, .inl u33)), (id2, .inl (G 0, 10, .inl u34)), (id3, .inl (G 0, 10, .inl u35)), (id4, .inl (G 0, 6, .inl u36)), (id5, .inl (G 0, 6, .inl u37)), (id6, .inl (G 0, 6, .inl u38)), (wy, .inr (9, [.int (nI N), .int (nI B), .int (nI D), .ref a1, .ref a2, .ref a3, .ref a4, .ref a5, .ref a6])), (a1, .inl (G 0, 10, .inl f1)), (a2, .inl (G 0, 10, .inl f2)), (a3, .inl (G 0, 10, .inl f3)), (a4, .inl (G 0, 6, .inl f4)), (a5, .inl (G 0, 6, .inl f5)), (a6, .inl (G 0, 6, .inl f6))] := hD
        refine lv_iload_n hx hb dX10_keep_44 rfl (lv_at hl 0 rfl) ?_
        have hpost : (1 : Int32) = if (0 ≤ (1 : Int32).toInt ∧ (1 : Int32).toInt < 2) then (if fk (1 : Int32).toNatClampNeg = 0 then 0 else 1) else -1 := by
          have tn2715_ : nIT N := fun _ => nI_toInt (by omega)
          have tn2716_ : nIT B := fun _ => nI_toInt (by omega)
          have tn2717_ : nIT D := fun _ => nI_toInt (by omega)
          have tn2718_ : nIT N0 := fun _ => nI_toInt (by omega)
          have tn2719_ : nIT B0 := fun _ => nI_toInt (by omega)
          have tn2720_ : nIT D0 := fun _ => nI_toInt (by omega)
          have tn2721_ : nIT N1 := fun _ => nI_toInt (by omega)
          have tn2722_ : nIT B1 := fun _ => nI_toInt (by omega)
          have tn2723_ : nIT D1 := fun _ => nI_toInt (by omega)
          have k0 : (0 : Int32).toNatClampNeg = 0 := (by decide)
          have k1 : (1 : Int32).toNatClampNeg = 1 := (by decide)
          first | (rw [if_neg (by (have t_c22 := neI c22; have : (0 : Int32).toInt = 0 := qI_0; have t_n0 : (nI N).toInt = (N : Int) := tn2715_ (); have t_n1 : (nI B).toInt = (B : Int) := tn2716_ (); have t_n2 : (nI D).toInt = (D : Int) := tn2717_ (); have t_n3 : (nI N0).toInt = (N0 : Int) := tn2718_ (); have t_n4 : (nI B0).toInt = (B0 : Int) := tn2719_ (); have t_n5 : (nI D0).toInt = (D0 : Int) := tn2720_ (); have t_n6 : (nI N1).toInt = (N1 : Int) := tn2721_ (); have t_n7 : (nI B1).toInt = (B1 : Int) := tn2722_ (); have t_n8 : (nI D1).toInt = (D1 : Int) := tn2723_ (); have z0 : (0 : Int32).toInt = 0 := qI_0; have z1 : (1 : Int32).toInt = 1 := qI_1; have z2 : (2 : Int32).toInt = 2 := qI_2; have z3 : (3 : Int32).toInt = 3 := qI_3; have z5 : (5 : Int32).toInt = 5 := qI_5; have z9 : (9 : Int32).toInt = 9 := qI_9; have z20 : (20 : Int32).toInt = 20 := qI_20; have z4 : (-4 : Int32).toInt = -4 := (by decide); have z10 : (10 : Int32).toInt = 10 := qI_10; omega))]; done) | (rw [if_pos (by decide)]; (try rw [k0]); (try rw [k1]); first | (rw [if_pos (by assumption)]; done) | (rw [if_neg (by assumption)]; done))
        have hP9 := hP.sub (ws' := [(h0, .inr (10, [.ref rd, .ref wy, .ref tr, .ref im, .ref kp, .ref od, .ref ch, .ref cr, .ref le, .ref mk, .ref tl, .ref sh, .int tf, .int rf])), (wy, .inr (9, [.int (nI N), .int (nI B), .int (nI D), .ref a1, .ref a2, .ref a3, .ref a4, .ref a5, .ref a6])), (a1, .inl (G 0, 10, .inl f1)), (a2, .inl (G 0, 10, .inl f2)), (a3, .inl (G 0, 10, .inl f3)), (a4, .inl (G 0, 6, .inl f4)), (a5, .inl (G 0, 6, .inl f5)), (a6, .inl (G 0, 6, .inl f6)), (im, .inl (G 3, 2, .inr (.inr (.inr (.inr (va_up (va_up (fun _ => none) 0 (some i0)) 1 (some i1))))))), (kp, .inl (G 2, 2, .inl (upd fk 1 (vp_nar .boolean 1)))), (i0, .inr (9, [.int (nI N0), .int (nI B0), .int (nI D0), .ref ib1, .ref ib2, .ref ib3, .ref ib4, .ref ib5, .ref ib6])), (ib1, .inl (G 0, 10, .inl ibf1)), (ib2, .inl (G 0, 10, .inl ibf2)), (ib3, .inl (G 0, 10, .inl ibf3)), (ib4, .inl (G 0, 6, .inl ibf4)), (ib5, .inl (G 0, 6, .inl ibf5)), (ib6, .inl (G 0, 6, .inl ibf6)), (i1, .inr (9, [.int (nI N), .int (nI B), .int (nI D), .ref id1, .ref id2, .ref id3, .ref id4, .ref id5, .ref id6])), (id1, .inl (G 0, 10, .inl u33)), (id2, .inl (G 0, 10, .inl u34)), (id3, .inl (G 0, 10, .inl u35)), (id4, .inl (G 0, 6, .inl u36)), (id5, .inl (G 0, 6, .inl u37)), (id6, .inl (G 0, 6, .inl u38))]) [0, 17, 18, 19, 20, 21, 22, 23, 1, 2, 3, 4, 5, 6, 7, 8, 9, 10, 11, 12, 13, 14, 15, 16] rfl
        have hD9 := hD.sub (ws' := [(h0, .inr (10, [.ref rd, .ref wy, .ref tr, .ref im, .ref kp, .ref od, .ref ch, .ref cr, .ref le, .ref mk, .ref tl, .ref sh, .int tf, .int rf])), (wy, .inr (9, [.int (nI N), .int (nI B), .int (nI D), .ref a1, .ref a2, .ref a3, .ref a4, .ref a5, .ref a6])), (a1, .inl (G 0, 10, .inl f1)), (a2, .inl (G 0, 10, .inl f2)), (a3, .inl (G 0, 10, .inl f3)), (a4, .inl (G 0, 6, .inl f4)), (a5, .inl (G 0, 6, .inl f5)), (a6, .inl (G 0, 6, .inl f6)), (im, .inl (G 3, 2, .inr (.inr (.inr (.inr (va_up (va_up (fun _ => none) 0 (some i0)) 1 (some i1))))))), (kp, .inl (G 2, 2, .inl (upd fk 1 (vp_nar .boolean 1)))), (i0, .inr (9, [.int (nI N0), .int (nI B0), .int (nI D0), .ref ib1, .ref ib2, .ref ib3, .ref ib4, .ref ib5, .ref ib6])), (ib1, .inl (G 0, 10, .inl ibf1)), (ib2, .inl (G 0, 10, .inl ibf2)), (ib3, .inl (G 0, 10, .inl ibf3)), (ib4, .inl (G 0, 6, .inl ibf4)), (ib5, .inl (G 0, 6, .inl ibf5)), (ib6, .inl (G 0, 6, .inl ibf6)), (i1, .inr (9, [.int (nI N), .int (nI B), .int (nI D), .ref id1, .ref id2, .ref id3, .ref id4, .ref id5, .ref id6])), (id1, .inl (G 0, 10, .inl u33)), (id2, .inl (G 0, 10, .inl u34)), (id3, .inl (G 0, 10, .inl u35)), (id4, .inl (G 0, 6, .inl u36)), (id5, .inl (G 0, 6, .inl u37)), (id6, .inl (G 0, 6, .inl u38))]) [0, 17, 18, 19, 20, 21, 22, 23, 1, 2, 3, 4, 5, 6, 7, 8, 9, 10, 11, 12, 13, 14, 15, 16] (by decide) rfl
        refine W.widen (k := 0) (n := 0) (Nat.le_of_ble_eq_true rfl) (Nat.le_of_ble_eq_true rfl) ?_
        have tn2724_ : nIT N := fun _ => nI_toInt (by first | omega | (have t_c22 := neI c22; have : (0 : Int32).toInt = 0 := qI_0; omega))
        have tn2725_ : nIT B := fun _ => nI_toInt (by first | omega | (have t_c22 := neI c22; have : (0 : Int32).toInt = 0 := qI_0; omega))
        have tn2726_ : nIT D := fun _ => nI_toInt (by first | omega | (have t_c22 := neI c22; have : (0 : Int32).toInt = 0 := qI_0; omega))
        have tn2727_ : nIT N0 := fun _ => nI_toInt (by first | omega | (have t_c22 := neI c22; have : (0 : Int32).toInt = 0 := qI_0; omega))
        have tn2728_ : nIT B0 := fun _ => nI_toInt (by first | omega | (have t_c22 := neI c22; have : (0 : Int32).toInt = 0 := qI_0; omega))
        have tn2729_ : nIT D0 := fun _ => nI_toInt (by first | omega | (have t_c22 := neI c22; have : (0 : Int32).toInt = 0 := qI_0; omega))
        have tn2730_ : nIT N1 := fun _ => nI_toInt (by first | omega | (have t_c22 := neI c22; have : (0 : Int32).toInt = 0 := qI_0; omega))
        have tn2731_ : nIT B1 := fun _ => nI_toInt (by first | omega | (have t_c22 := neI c22; have : (0 : Int32).toInt = 0 := qI_0; omega))
        have tn2732_ : nIT D1 := fun _ => nI_toInt (by first | omega | (have t_c22 := neI c22; have : (0 : Int32).toInt = 0 := qI_0; omega))
        exact W.iret (v := 1) hx hb hr (fun t ht hW => ⟨⟨1, (N0, B0, D0, ibf1, ibf2, ibf3, ibf4, ibf5, ibf6, N, B, D, u33, u34, u35, u36, u37, u38, (upd fk 1 (vp_nar .boolean 1))), rfl, ⟨hpost, (by have k0 : (0 : Int32).toNatClampNeg = 0 := (by decide); have k1 : (1 : Int32).toNatClampNeg = 1 := (by decide); refine ⟨⟨⟨by (have t_c22 := neI c22; have : (0 : Int32).toInt = 0 := qI_0; have t_n0 : (nI N).toInt = (N : Int) := tn2724_ (); have t_n1 : (nI B).toInt = (B : Int) := tn2725_ (); have t_n2 : (nI D).toInt = (D : Int) := tn2726_ (); have t_n3 : (nI N0).toInt = (N0 : Int) := tn2727_ (); have t_n4 : (nI B0).toInt = (B0 : Int) := tn2728_ (); have t_n5 : (nI D0).toInt = (D0 : Int) := tn2729_ (); have t_n6 : (nI N1).toInt = (N1 : Int) := tn2730_ (); have t_n7 : (nI B1).toInt = (B1 : Int) := tn2731_ (); have t_n8 : (nI D1).toInt = (D1 : Int) := tn2732_ (); have z0 : (0 : Int32).toInt = 0 := qI_0; have z1 : (1 : Int32).toInt = 1 := qI_1; have z2 : (2 : Int32).toInt = 2 := qI_2; have z3 : (3 : Int32).toInt = 3 := qI_3; have z5 : (5 : Int32).toInt = 5 := qI_5; have z9 : (9 : Int32).toInt = 9 := qI_9; have z20 : (20 : Int32).toInt = 20 := qI_20; have z4 : (-4 : Int32).toInt = -4 := (by decide); have z10 : (10 : Int32).toInt = 10 := qI_10; omega), by (have t_c22 := neI c22; have : (0 : Int32).toInt = 0 := qI_0; have t_n0 : (nI N).toInt = (N : Int) := tn2724_ (); have t_n1 : (nI B).toInt = (B : Int) := tn2725_ (); have t_n2 : (nI D).toInt = (D : Int) := tn2726_ (); have t_n3 : (nI N0).toInt = (N0 : Int) := tn2727_ (); have t_n4 : (nI B0).toInt = (B0 : Int) := tn2728_ (); have t_n5 : (nI D0).toInt = (D0 : Int) := tn2729_ (); have t_n6 : (nI N1).toInt = (N1 : Int) := tn2730_ (); have t_n7 : (nI B1).toInt = (B1 : Int) := tn2731_ (); have t_n8 : (nI D1).toInt = (D1 : Int) := tn2732_ (); have z0 : (0 : Int32).toInt = 0 := qI_0; have z1 : (1 : Int32).toInt = 1 := qI_1; have z2 : (2 : Int32).toInt = 2 := qI_2; have z3 : (3 : Int32).toInt = 3 := qI_3; have z5 : (5 : Int32).toInt = 5 := qI_5; have z9 : (9 : Int32).toInt = 9 := qI_9; have z20 : (20 : Int32).toInt = 20 := qI_20; have z4 : (-4 : Int32).toInt = -4 := (by decide); have z10 : (10 : Int32).toInt = 10 := qI_10; omega), by (have t_c22 := neI c22; have : (0 : Int32).toInt = 0 := qI_0; have t_n0 : (nI N).toInt = (N : Int) := tn2724_ (); have t_n1 : (nI B).toInt = (B : Int) := tn2725_ (); have t_n2 : (nI D).toInt = (D : Int) := tn2726_ (); have t_n3 : (nI N0).toInt = (N0 : Int) := tn2727_ (); have t_n4 : (nI B0).toInt = (B0 : Int) := tn2728_ (); have t_n5 : (nI D0).toInt = (D0 : Int) := tn2729_ (); have t_n6 : (nI N1).toInt = (N1 : Int) := tn2730_ (); have t_n7 : (nI B1).toInt = (B1 : Int) := tn2731_ (); have t_n8 : (nI D1).toInt = (D1 : Int) := tn2732_ (); have z0 : (0 : Int32).toInt = 0 := qI_0; have z1 : (1 : Int32).toInt = 1 := qI_1; have z2 : (2 : Int32).toInt = 2 := qI_2; have z3 : (3 : Int32).toInt = 3 := qI_3; have z5 : (5 : Int32).toInt = 5 := qI_5; have z9 : (9 : Int32).toInt = 9 := qI_9; have z20 : (20 : Int32).toInt = 20 := qI_20; have z4 : (-4 : Int32).toInt = -4 := (by decide); have z10 : (10 : Int32).toInt = 10 := qI_10; omega), by (have t_c22 := neI c22; have : (0 : Int32).toInt = 0 := qI_0; have t_n0 : (nI N).toInt = (N : Int) := tn2724_ (); have t_n1 : (nI B).toInt = (B : Int) := tn2725_ (); have t_n2 : (nI D).toInt = (D : Int) := tn2726_ (); have t_n3 : (nI N0).toInt = (N0 : Int) := tn2727_ (); have t_n4 : (nI B0).toInt = (B0 : Int) := tn2728_ (); have t_n5 : (nI D0).toInt = (D0 : Int) := tn2729_ (); have t_n6 : (nI N1).toInt = (N1 : Int) := tn2730_ (); have t_n7 : (nI B1).toInt = (B1 : Int) := tn2731_ (); have t_n8 : (nI D1).toInt = (D1 : Int) := tn2732_ (); have z0 : (0 : Int32).toInt = 0 := qI_0; have z1 : (1 : Int32).toInt = 1 := qI_1; have z2 : (2 : Int32).toInt = 2 := qI_2; have z3 : (3 : Int32).toInt = 3 := qI_3; have z5 : (5 : Int32).toInt = 5 := qI_5; have z9 : (9 : Int32).toInt = 9 := qI_9; have z20 : (20 : Int32).toInt = 20 := qI_20; have z4 : (-4 : Int32).toInt = -4 := (by decide); have z10 : (10 : Int32).toInt = 10 := qI_10; omega)⟩, ⟨by (have t_c22 := neI c22; have : (0 : Int32).toInt = 0 := qI_0; have t_n0 : (nI N).toInt = (N : Int) := tn2724_ (); have t_n1 : (nI B).toInt = (B : Int) := tn2725_ (); have t_n2 : (nI D).toInt = (D : Int) := tn2726_ (); have t_n3 : (nI N0).toInt = (N0 : Int) := tn2727_ (); have t_n4 : (nI B0).toInt = (B0 : Int) := tn2728_ (); have t_n5 : (nI D0).toInt = (D0 : Int) := tn2729_ (); have t_n6 : (nI N1).toInt = (N1 : Int) := tn2730_ (); have t_n7 : (nI B1).toInt = (B1 : Int) := tn2731_ (); have t_n8 : (nI D1).toInt = (D1 : Int) := tn2732_ (); have z0 : (0 : Int32).toInt = 0 := qI_0; have z1 : (1 : Int32).toInt = 1 := qI_1; have z2 : (2 : Int32).toInt = 2 := qI_2; have z3 : (3 : Int32).toInt = 3 := qI_3; have z5 : (5 : Int32).toInt = 5 := qI_5; have z9 : (9 : Int32).toInt = 9 := qI_9; have z20 : (20 : Int32).toInt = 20 := qI_20; have z4 : (-4 : Int32).toInt = -4 := (by decide); have z10 : (10 : Int32).toInt = 10 := qI_10; omega), by (have t_c22 := neI c22; have : (0 : Int32).toInt = 0 := qI_0; have t_n0 : (nI N).toInt = (N : Int) := tn2724_ (); have t_n1 : (nI B).toInt = (B : Int) := tn2725_ (); have t_n2 : (nI D).toInt = (D : Int) := tn2726_ (); have t_n3 : (nI N0).toInt = (N0 : Int) := tn2727_ (); have t_n4 : (nI B0).toInt = (B0 : Int) := tn2728_ (); have t_n5 : (nI D0).toInt = (D0 : Int) := tn2729_ (); have t_n6 : (nI N1).toInt = (N1 : Int) := tn2730_ (); have t_n7 : (nI B1).toInt = (B1 : Int) := tn2731_ (); have t_n8 : (nI D1).toInt = (D1 : Int) := tn2732_ (); have z0 : (0 : Int32).toInt = 0 := qI_0; have z1 : (1 : Int32).toInt = 1 := qI_1; have z2 : (2 : Int32).toInt = 2 := qI_2; have z3 : (3 : Int32).toInt = 3 := qI_3; have z5 : (5 : Int32).toInt = 5 := qI_5; have z9 : (9 : Int32).toInt = 9 := qI_9; have z20 : (20 : Int32).toInt = 20 := qI_20; have z4 : (-4 : Int32).toInt = -4 := (by decide); have z10 : (10 : Int32).toInt = 10 := qI_10; omega), by (have t_c22 := neI c22; have : (0 : Int32).toInt = 0 := qI_0; have t_n0 : (nI N).toInt = (N : Int) := tn2724_ (); have t_n1 : (nI B).toInt = (B : Int) := tn2725_ (); have t_n2 : (nI D).toInt = (D : Int) := tn2726_ (); have t_n3 : (nI N0).toInt = (N0 : Int) := tn2727_ (); have t_n4 : (nI B0).toInt = (B0 : Int) := tn2728_ (); have t_n5 : (nI D0).toInt = (D0 : Int) := tn2729_ (); have t_n6 : (nI N1).toInt = (N1 : Int) := tn2730_ (); have t_n7 : (nI B1).toInt = (B1 : Int) := tn2731_ (); have t_n8 : (nI D1).toInt = (D1 : Int) := tn2732_ (); have z0 : (0 : Int32).toInt = 0 := qI_0; have z1 : (1 : Int32).toInt = 1 := qI_1; have z2 : (2 : Int32).toInt = 2 := qI_2; have z3 : (3 : Int32).toInt = 3 := qI_3; have z5 : (5 : Int32).toInt = 5 := qI_5; have z9 : (9 : Int32).toInt = 9 := qI_9; have z20 : (20 : Int32).toInt = 20 := qI_20; have z4 : (-4 : Int32).toInt = -4 := (by decide); have z10 : (10 : Int32).toInt = 10 := qI_10; omega), by (have t_c22 := neI c22; have : (0 : Int32).toInt = 0 := qI_0; have t_n0 : (nI N).toInt = (N : Int) := tn2724_ (); have t_n1 : (nI B).toInt = (B : Int) := tn2725_ (); have t_n2 : (nI D).toInt = (D : Int) := tn2726_ (); have t_n3 : (nI N0).toInt = (N0 : Int) := tn2727_ (); have t_n4 : (nI B0).toInt = (B0 : Int) := tn2728_ (); have t_n5 : (nI D0).toInt = (D0 : Int) := tn2729_ (); have t_n6 : (nI N1).toInt = (N1 : Int) := tn2730_ (); have t_n7 : (nI B1).toInt = (B1 : Int) := tn2731_ (); have t_n8 : (nI D1).toInt = (D1 : Int) := tn2732_ (); have z0 : (0 : Int32).toInt = 0 := qI_0; have z1 : (1 : Int32).toInt = 1 := qI_1; have z2 : (2 : Int32).toInt = 2 := qI_2; have z3 : (3 : Int32).toInt = 3 := qI_3; have z5 : (5 : Int32).toInt = 5 := qI_5; have z9 : (9 : Int32).toInt = 9 := qI_9; have z20 : (20 : Int32).toInt = 20 := qI_20; have z4 : (-4 : Int32).toInt = -4 := (by decide); have z10 : (10 : Int32).toInt = 10 := qI_10; omega)⟩⟩, ?_, ?_, ?_, ?_, ?_, ?_, ?_, ?_, ?_, ?_, ?_, ?_, ?_, ?_, ?_, ?_, ?_, ?_, ?_⟩ <;> (first | done | rfl | (have t_c22 := neI c22; have : (0 : Int32).toInt = 0 := qI_0; have t_n0 : (nI N).toInt = (N : Int) := tn2724_ (); have t_n1 : (nI B).toInt = (B : Int) := tn2725_ (); have t_n2 : (nI D).toInt = (D : Int) := tn2726_ (); have t_n3 : (nI N0).toInt = (N0 : Int) := tn2727_ (); have t_n4 : (nI B0).toInt = (B0 : Int) := tn2728_ (); have t_n5 : (nI D0).toInt = (D0 : Int) := tn2729_ (); have t_n6 : (nI N1).toInt = (N1 : Int) := tn2730_ (); have t_n7 : (nI B1).toInt = (B1 : Int) := tn2731_ (); have t_n8 : (nI D1).toInt = (D1 : Int) := tn2732_ (); have z0 : (0 : Int32).toInt = 0 := qI_0; have z1 : (1 : Int32).toInt = 1 := qI_1; have z2 : (2 : Int32).toInt = 2 := qI_2; have z3 : (3 : Int32).toInt = 3 := qI_3; have z5 : (5 : Int32).toInt = 5 := qI_5; have z9 : (9 : Int32).toInt = 9 := qI_9; have z20 : (20 : Int32).toInt = 20 := qI_20; have z4 : (-4 : Int32).toInt = -4 := (by decide); have z10 : (10 : Int32).toInt = 10 := qI_10; omega) | (rw [if_neg (by assumption)]; done) | (rw [if_neg (by decide)]; done) | (rw [if_pos (by decide)]; first | done | rfl | exact w32.1 | exact w32.2.1 | exact w32.2.2.1 | exact w32.2.2.2.1 | exact w32.2.2.2.2.1 | exact w32.2.2.2.2.2 | (rw [k0]; rfl) | (rw [k1]; rfl)) | (rw [if_pos rfl]; first | done | rfl | exact w32.1 | exact w32.2.1 | exact w32.2.2.1 | exact w32.2.2.2.1 | exact w32.2.2.2.2.1 | exact w32.2.2.2.2.2) | (rw [if_neg (by (have t_c22 := neI c22; have : (0 : Int32).toInt = 0 := qI_0; have t_n0 : (nI N).toInt = (N : Int) := tn2724_ (); have t_n1 : (nI B).toInt = (B : Int) := tn2725_ (); have t_n2 : (nI D).toInt = (D : Int) := tn2726_ (); have t_n3 : (nI N0).toInt = (N0 : Int) := tn2727_ (); have t_n4 : (nI B0).toInt = (B0 : Int) := tn2728_ (); have t_n5 : (nI D0).toInt = (D0 : Int) := tn2729_ (); have t_n6 : (nI N1).toInt = (N1 : Int) := tn2730_ (); have t_n7 : (nI B1).toInt = (B1 : Int) := tn2731_ (); have t_n8 : (nI D1).toInt = (D1 : Int) := tn2732_ (); have z0 : (0 : Int32).toInt = 0 := qI_0; have z1 : (1 : Int32).toInt = 1 := qI_1; have z2 : (2 : Int32).toInt = 2 := qI_2; have z3 : (3 : Int32).toInt = 3 := qI_3; have z5 : (5 : Int32).toInt = 5 := qI_5; have z9 : (9 : Int32).toInt = 9 := qI_9; have z20 : (20 : Int32).toInt = 20 := qI_20; have z4 : (-4 : Int32).toInt = -4 := (by decide); have z10 : (10 : Int32).toInt = 10 := qI_10; omega))]; done) | (rw [if_neg (fun e9 => by have e8 := congrArg Int32.toInt e9; (have t_c22 := neI c22; have : (0 : Int32).toInt = 0 := qI_0; have t_n0 : (nI N).toInt = (N : Int) := tn2724_ (); have t_n1 : (nI B).toInt = (B : Int) := tn2725_ (); have t_n2 : (nI D).toInt = (D : Int) := tn2726_ (); have t_n3 : (nI N0).toInt = (N0 : Int) := tn2727_ (); have t_n4 : (nI B0).toInt = (B0 : Int) := tn2728_ (); have t_n5 : (nI D0).toInt = (D0 : Int) := tn2729_ (); have t_n6 : (nI N1).toInt = (N1 : Int) := tn2730_ (); have t_n7 : (nI B1).toInt = (B1 : Int) := tn2731_ (); have t_n8 : (nI D1).toInt = (D1 : Int) := tn2732_ (); have z0 : (0 : Int32).toInt = 0 := qI_0; have z1 : (1 : Int32).toInt = 1 := qI_1; have z2 : (2 : Int32).toInt = 2 := qI_2; have z3 : (3 : Int32).toInt = 3 := qI_3; have z5 : (5 : Int32).toInt = 5 := qI_5; have z9 : (9 : Int32).toInt = 9 := qI_9; have z20 : (20 : Int32).toInt = 20 := qI_20; have z4 : (-4 : Int32).toInt = -4 := (by decide); have z10 : (10 : Int32).toInt = 10 := qI_10; omega))]; done)))⟩, ⟨by rw [ht]; exact hP9, hD9⟩⟩, hS.F ht⟩) hS.2.2 dX10_keep_45
  · skip
    have b39 := if10_n c3
    refine lv_iconst (v := (-1)) hx hb dX10_keep_7 (by decide) ?_
    have hpost : ((-1) : Int32) = if (0 ≤ k.toInt ∧ k.toInt < 2) then (if fk k.toNatClampNeg = 0 then 0 else 1) else -1 := by
      have tn2733_ : nIT N := fun _ => nI_toInt (by omega)
      have tn2734_ : nIT B := fun _ => nI_toInt (by omega)
      have tn2735_ : nIT D := fun _ => nI_toInt (by omega)
      have tn2736_ : nIT N0 := fun _ => nI_toInt (by omega)
      have tn2737_ : nIT B0 := fun _ => nI_toInt (by omega)
      have tn2738_ : nIT D0 := fun _ => nI_toInt (by omega)
      have tn2739_ : nIT N1 := fun _ => nI_toInt (by omega)
      have tn2740_ : nIT B1 := fun _ => nI_toInt (by omega)
      have tn2741_ : nIT D1 := fun _ => nI_toInt (by omega)
      have k0 : (0 : Int32).toNatClampNeg = 0 := (by decide)
      have k1 : (1 : Int32).toNatClampNeg = 1 := (by decide)
      first | (rw [if_neg (by (have t_b39 := b39; have t_n0 : (nI N).toInt = (N : Int) := tn2733_ (); have t_n1 : (nI B).toInt = (B : Int) := tn2734_ (); have t_n2 : (nI D).toInt = (D : Int) := tn2735_ (); have t_n3 : (nI N0).toInt = (N0 : Int) := tn2736_ (); have t_n4 : (nI B0).toInt = (B0 : Int) := tn2737_ (); have t_n5 : (nI D0).toInt = (D0 : Int) := tn2738_ (); have t_n6 : (nI N1).toInt = (N1 : Int) := tn2739_ (); have t_n7 : (nI B1).toInt = (B1 : Int) := tn2740_ (); have t_n8 : (nI D1).toInt = (D1 : Int) := tn2741_ (); have z0 : (0 : Int32).toInt = 0 := qI_0; have z1 : (1 : Int32).toInt = 1 := qI_1; have z2 : (2 : Int32).toInt = 2 := qI_2; have z3 : (3 : Int32).toInt = 3 := qI_3; have z5 : (5 : Int32).toInt = 5 := qI_5; have z9 : (9 : Int32).toInt = 9 := qI_9; have z20 : (20 : Int32).toInt = 20 := qI_20; have z4 : (-4 : Int32).toInt = -4 := (by decide); have z10 : (10 : Int32).toInt = 10 := qI_10; omega))]; done) | (rw [if_pos (by decide)]; (try rw [k0]); (try rw [k1]); first | (rw [if_pos (by assumption)]; done) | (rw [if_neg (by assumption)]; done))
    have hP9 := hP.sub (ws' := [(h0, .inr (10, [.ref rd, .ref wy, .ref tr, .ref im, .ref kp, .ref od, .ref ch, .ref cr, .ref le, .ref mk, .ref tl, .ref sh, .int tf, .int rf])), (wy, .inr (9, [.int (nI N), .int (nI B), .int (nI D), .ref a1, .ref a2, .ref a3, .ref a4, .ref a5, .ref a6])), (a1, .inl (G 0, 10, .inl f1)), (a2, .inl (G 0, 10, .inl f2)), (a3, .inl (G 0, 10, .inl f3)), (a4, .inl (G 0, 6, .inl f4)), (a5, .inl (G 0, 6, .inl f5)), (a6, .inl (G 0, 6, .inl f6)), (im, .inl (G 3, 2, .inr (.inr (.inr (.inr (va_up (va_up (fun _ => none) 0 (some i0)) 1 (some i1))))))), (kp, .inl (G 2, 2, .inl fk)), (i0, .inr (9, [.int (nI N0), .int (nI B0), .int (nI D0), .ref ib1, .ref ib2, .ref ib3, .ref ib4, .ref ib5, .ref ib6])), (ib1, .inl (G 0, 10, .inl ibf1)), (ib2, .inl (G 0, 10, .inl ibf2)), (ib3, .inl (G 0, 10, .inl ibf3)), (ib4, .inl (G 0, 6, .inl ibf4)), (ib5, .inl (G 0, 6, .inl ibf5)), (ib6, .inl (G 0, 6, .inl ibf6)), (i1, .inr (9, [.int (nI N1), .int (nI B1), .int (nI D1), .ref id1, .ref id2, .ref id3, .ref id4, .ref id5, .ref id6])), (id1, .inl (G 0, 10, .inl idf1)), (id2, .inl (G 0, 10, .inl idf2)), (id3, .inl (G 0, 10, .inl idf3)), (id4, .inl (G 0, 6, .inl idf4)), (id5, .inl (G 0, 6, .inl idf5)), (id6, .inl (G 0, 6, .inl idf6))]) [0, 1, 2, 3, 4, 5, 6, 7, 8, 9, 10, 11, 12, 13, 14, 15, 16, 17, 18, 19, 20, 21, 22, 23] rfl
    have hD9 := hD.sub (ws' := [(h0, .inr (10, [.ref rd, .ref wy, .ref tr, .ref im, .ref kp, .ref od, .ref ch, .ref cr, .ref le, .ref mk, .ref tl, .ref sh, .int tf, .int rf])), (wy, .inr (9, [.int (nI N), .int (nI B), .int (nI D), .ref a1, .ref a2, .ref a3, .ref a4, .ref a5, .ref a6])), (a1, .inl (G 0, 10, .inl f1)), (a2, .inl (G 0, 10, .inl f2)), (a3, .inl (G 0, 10, .inl f3)), (a4, .inl (G 0, 6, .inl f4)), (a5, .inl (G 0, 6, .inl f5)), (a6, .inl (G 0, 6, .inl f6)), (im, .inl (G 3, 2, .inr (.inr (.inr (.inr (va_up (va_up (fun _ => none) 0 (some i0)) 1 (some i1))))))), (kp, .inl (G 2, 2, .inl fk)), (i0, .inr (9, [.int (nI N0), .int (nI B0), .int (nI D0), .ref ib1, .ref ib2, .ref ib3, .ref ib4, .ref ib5, .ref ib6])), (ib1, .inl (G 0, 10, .inl ibf1)), (ib2, .inl (G 0, 10, .inl ibf2)), (ib3, .inl (G 0, 10, .inl ibf3)), (ib4, .inl (G 0, 6, .inl ibf4)), (ib5, .inl (G 0, 6, .inl ibf5)), (ib6, .inl (G 0, 6, .inl ibf6)), (i1, .inr (9, [.int (nI N1), .int (nI B1), .int (nI D1), .ref id1, .ref id2, .ref id3, .ref id4, .ref id5, .ref id6])), (id1, .inl (G 0, 10, .inl idf1)), (id2, .inl (G 0, 10, .inl idf2)), (id3, .inl (G 0, 10, .inl idf3)), (id4, .inl (G 0, 6, .inl idf4)), (id5, .inl (G 0, 6, .inl idf5)), (id6, .inl (G 0, 6, .inl idf6))]) [0, 1, 2, 3, 4, 5, 6, 7, 8, 9, 10, 11, 12, 13, 14, 15, 16, 17, 18, 19, 20, 21, 22, 23] (by decide) rfl
    refine W.widen (k := 0) (n := 0) (Nat.le_of_ble_eq_true rfl) (Nat.le_of_ble_eq_true rfl) ?_
    have tn2742_ : nIT N := fun _ => nI_toInt (by first | omega | (have t_b39 := b39; omega))
    have tn2743_ : nIT B := fun _ => nI_toInt (by first | omega | (have t_b39 := b39; omega))
    have tn2744_ : nIT D := fun _ => nI_toInt (by first | omega | (have t_b39 := b39; omega))
    have tn2745_ : nIT N0 := fun _ => nI_toInt (by first | omega | (have t_b39 := b39; omega))
    have tn2746_ : nIT B0 := fun _ => nI_toInt (by first | omega | (have t_b39 := b39; omega))
    have tn2747_ : nIT D0 := fun _ => nI_toInt (by first | omega | (have t_b39 := b39; omega))
    have tn2748_ : nIT N1 := fun _ => nI_toInt (by first | omega | (have t_b39 := b39; omega))
    have tn2749_ : nIT B1 := fun _ => nI_toInt (by first | omega | (have t_b39 := b39; omega))
    have tn2750_ : nIT D1 := fun _ => nI_toInt (by first | omega | (have t_b39 := b39; omega))
    exact W.iret (v := (-1)) hx hb hr (fun t ht hW => ⟨⟨(-1), (N0, B0, D0, ibf1, ibf2, ibf3, ibf4, ibf5, ibf6, N1, B1, D1, idf1, idf2, idf3, idf4, idf5, idf6, fk), rfl, ⟨hpost, (by have k0 : (0 : Int32).toNatClampNeg = 0 := (by decide); have k1 : (1 : Int32).toNatClampNeg = 1 := (by decide); refine ⟨⟨⟨by (have t_b39 := b39; have t_n0 : (nI N).toInt = (N : Int) := tn2742_ (); have t_n1 : (nI B).toInt = (B : Int) := tn2743_ (); have t_n2 : (nI D).toInt = (D : Int) := tn2744_ (); have t_n3 : (nI N0).toInt = (N0 : Int) := tn2745_ (); have t_n4 : (nI B0).toInt = (B0 : Int) := tn2746_ (); have t_n5 : (nI D0).toInt = (D0 : Int) := tn2747_ (); have t_n6 : (nI N1).toInt = (N1 : Int) := tn2748_ (); have t_n7 : (nI B1).toInt = (B1 : Int) := tn2749_ (); have t_n8 : (nI D1).toInt = (D1 : Int) := tn2750_ (); have z0 : (0 : Int32).toInt = 0 := qI_0; have z1 : (1 : Int32).toInt = 1 := qI_1; have z2 : (2 : Int32).toInt = 2 := qI_2; have z3 : (3 : Int32).toInt = 3 := qI_3; have z5 : (5 : Int32).toInt = 5 := qI_5; have z9 : (9 : Int32).toInt = 9 := qI_9; have z20 : (20 : Int32).toInt = 20 := qI_20; have z4 : (-4 : Int32).toInt = -4 := (by decide); have z10 : (10 : Int32).toInt = 10 := qI_10; omega), by (have t_b39 := b39; have t_n0 : (nI N).toInt = (N : Int) := tn2742_ (); have t_n1 : (nI B).toInt = (B : Int) := tn2743_ (); have t_n2 : (nI D).toInt = (D : Int) := tn2744_ (); have t_n3 : (nI N0).toInt = (N0 : Int) := tn2745_ (); have t_n4 : (nI B0).toInt = (B0 : Int) := tn2746_ (); have t_n5 : (nI D0).toInt = (D0 : Int) := tn2747_ (); have t_n6 : (nI N1).toInt = (N1 : Int) := tn2748_ (); have t_n7 : (nI B1).toInt = (B1 : Int) := tn2749_ (); have t_n8 : (nI D1).toInt = (D1 : Int) := tn2750_ (); have z0 : (0 : Int32).toInt = 0 := qI_0; have z1 : (1 : Int32).toInt = 1 := qI_1; have z2 : (2 : Int32).toInt = 2 := qI_2; have z3 : (3 : Int32).toInt = 3 := qI_3; have z5 : (5 : Int32).toInt = 5 := qI_5; have z9 : (9 : Int32).toInt = 9 := qI_9; have z20 : (20 : Int32).toInt = 20 := qI_20; have z4 : (-4 : Int32).toInt = -4 := (by decide); have z10 : (10 : Int32).toInt = 10 := qI_10; omega), by (have t_b39 := b39; have t_n0 : (nI N).toInt = (N : Int) := tn2742_ (); have t_n1 : (nI B).toInt = (B : Int) := tn2743_ (); have t_n2 : (nI D).toInt = (D : Int) := tn2744_ (); have t_n3 : (nI N0).toInt = (N0 : Int) := tn2745_ (); have t_n4 : (nI B0).toInt = (B0 : Int) := tn2746_ (); have t_n5 : (nI D0).toInt = (D0 : Int) := tn2747_ (); have t_n6 : (nI N1).toInt = (N1 : Int) := tn2748_ (); have t_n7 : (nI B1).toInt = (B1 : Int) := tn2749_ (); have t_n8 : (nI D1).toInt = (D1 : Int) := tn2750_ (); have z0 : (0 : Int32).toInt = 0 := qI_0; have z1 : (1 : Int32).toInt = 1 := qI_1; have z2 : (2 : Int32).toInt = 2 := qI_2; have z3 : (3 : Int32).toInt = 3 := qI_3; have z5 : (5 : Int32).toInt = 5 := qI_5; have z9 : (9 : Int32).toInt = 9 := qI_9; have z20 : (20 : Int32).toInt = 20 := qI_20; have z4 : (-4 : Int32).toInt = -4 := (by decide); have z10 : (10 : Int32).toInt = 10 := qI_10; omega), by (have t_b39 := b39; have t_n0 : (nI N).toInt = (N : Int) := tn2742_ (); have t_n1 : (nI B).toInt = (B : Int) := tn2743_ (); have t_n2 : (nI D).toInt = (D : Int) := tn2744_ (); have t_n3 : (nI N0).toInt = (N0 : Int) := tn2745_ (); have t_n4 : (nI B0).toInt = (B0 : Int) := tn2746_ (); have t_n5 : (nI D0).toInt = (D0 : Int) := tn2747_ (); have t_n6 : (nI N1).toInt = (N1 : Int) := tn2748_ (); have t_n7 : (nI B1).toInt = (B1 : Int) := tn2749_ (); have t_n8 : (nI D1).toInt = (D1 : Int) := tn2750_ (); have z0 : (0 : Int32).toInt = 0 := qI_0; have z1 : (1 : Int32).toInt = 1 := qI_1; have z2 : (2 : Int32).toInt = 2 := qI_2; have z3 : (3 : Int32).toInt = 3 := qI_3; have z5 : (5 : Int32).toInt = 5 := qI_5; have z9 : (9 : Int32).toInt = 9 := qI_9; have z20 : (20 : Int32).toInt = 20 := qI_20; have z4 : (-4 : Int32).toInt = -4 := (by decide); have z10 : (10 : Int32).toInt = 10 := qI_10; omega)⟩, ⟨by (have t_b39 := b39; have t_n0 : (nI N).toInt = (N : Int) := tn2742_ (); have t_n1 : (nI B).toInt = (B : Int) := tn2743_ (); have t_n2 : (nI D).toInt = (D : Int) := tn2744_ (); have t_n3 : (nI N0).toInt = (N0 : Int) := tn2745_ (); have t_n4 : (nI B0).toInt = (B0 : Int) := tn2746_ (); have t_n5 : (nI D0).toInt = (D0 : Int) := tn2747_ (); have t_n6 : (nI N1).toInt = (N1 : Int) := tn2748_ (); have t_n7 : (nI B1).toInt = (B1 : Int) := tn2749_ (); have t_n8 : (nI D1).toInt = (D1 : Int) := tn2750_ (); have z0 : (0 : Int32).toInt = 0 := qI_0; have z1 : (1 : Int32).toInt = 1 := qI_1; have z2 : (2 : Int32).toInt = 2 := qI_2; have z3 : (3 : Int32).toInt = 3 := qI_3; have z5 : (5 : Int32).toInt = 5 := qI_5; have z9 : (9 : Int32).toInt = 9 := qI_9; have z20 : (20 : Int32).toInt = 20 := qI_20; have z4 : (-4 : Int32).toInt = -4 := (by decide); have z10 : (10 : Int32).toInt = 10 := qI_10; omega), by (have t_b39 := b39; have t_n0 : (nI N).toInt = (N : Int) := tn2742_ (); have t_n1 : (nI B).toInt = (B : Int) := tn2743_ (); have t_n2 : (nI D).toInt = (D : Int) := tn2744_ (); have t_n3 : (nI N0).toInt = (N0 : Int) := tn2745_ (); have t_n4 : (nI B0).toInt = (B0 : Int) := tn2746_ (); have t_n5 : (nI D0).toInt = (D0 : Int) := tn2747_ (); have t_n6 : (nI N1).toInt = (N1 : Int) := tn2748_ (); have t_n7 : (nI B1).toInt = (B1 : Int) := tn2749_ (); have t_n8 : (nI D1).toInt = (D1 : Int) := tn2750_ (); have z0 : (0 : Int32).toInt = 0 := qI_0; have z1 : (1 : Int32).toInt = 1 := qI_1; have z2 : (2 : Int32).toInt = 2 := qI_2; have z3 : (3 : Int32).toInt = 3 := qI_3; have z5 : (5 : Int32).toInt = 5 := qI_5; have z9 : (9 : Int32).toInt = 9 := qI_9; have z20 : (20 : Int32).toInt = 20 := qI_20; have z4 : (-4 : Int32).toInt = -4 := (by decide); have z10 : (10 : Int32).toInt = 10 := qI_10; omega), by (have t_b39 := b39; have t_n0 : (nI N).toInt = (N : Int) := tn2742_ (); have t_n1 : (nI B).toInt = (B : Int) := tn2743_ (); have t_n2 : (nI D).toInt = (D : Int) := tn2744_ (); have t_n3 : (nI N0).toInt = (N0 : Int) := tn2745_ (); have t_n4 : (nI B0).toInt = (B0 : Int) := tn2746_ (); have t_n5 : (nI D0).toInt = (D0 : Int) := tn2747_ (); have t_n6 : (nI N1).toInt = (N1 : Int) := tn2748_ (); have t_n7 : (nI B1).toInt = (B1 : Int) := tn2749_ (); have t_n8 : (nI D1).toInt = (D1 : Int) := tn2750_ (); have z0 : (0 : Int32).toInt = 0 := qI_0; have z1 : (1 : Int32).toInt = 1 := qI_1; have z2 : (2 : Int32).toInt = 2 := qI_2; have z3 : (3 : Int32).toInt = 3 := qI_3; have z5 : (5 : Int32).toInt = 5 := qI_5; have z9 : (9 : Int32).toInt = 9 := qI_9; have z20 : (20 : Int32).toInt = 20 := qI_20; have z4 : (-4 : Int32).toInt = -4 := (by decide); have z10 : (10 : Int32).toInt = 10 := qI_10; omega), by (have t_b39 := b39; have t_n0 : (nI N).toInt = (N : Int) := tn2742_ (); have t_n1 : (nI B).toInt = (B : Int) := tn2743_ (); have t_n2 : (nI D).toInt = (D : Int) := tn2744_ (); have t_n3 : (nI N0).toInt = (N0 : Int) := tn2745_ (); have t_n4 : (nI B0).toInt = (B0 : Int) := tn2746_ (); have t_n5 : (nI D0).toInt = (D0 : Int) := tn2747_ (); have t_n6 : (nI N1).toInt = (N1 : Int) := tn2748_ (); have t_n7 : (nI B1).toInt = (B1 : Int) := tn2749_ (); have t_n8 : (nI D1).toInt = (D1 : Int) := tn2750_ (); have z0 : (0 : Int32).toInt = 0 := qI_0; have z1 : (1 : Int32).toInt = 1 := qI_1; have z2 : (2 : Int32).toInt = 2 := qI_2; have z3 : (3 : Int32).toInt = 3 := qI_3; have z5 : (5 : Int32).toInt = 5 := qI_5; have z9 : (9 : Int32).toInt = 9 := qI_9; have z20 : (20 : Int32).toInt = 20 := qI_20; have z4 : (-4 : Int32).toInt = -4 := (by decide); have z10 : (10 : Int32).toInt = 10 := qI_10; omega)⟩⟩, ?_, ?_, ?_, ?_, ?_, ?_, ?_, ?_, ?_, ?_, ?_, ?_, ?_, ?_, ?_, ?_, ?_, ?_, ?_⟩ <;> (first | done | rfl | (have t_b39 := b39; have t_n0 : (nI N).toInt = (N : Int) := tn2742_ (); have t_n1 : (nI B).toInt = (B : Int) := tn2743_ (); have t_n2 : (nI D).toInt = (D : Int) := tn2744_ (); have t_n3 : (nI N0).toInt = (N0 : Int) := tn2745_ (); have t_n4 : (nI B0).toInt = (B0 : Int) := tn2746_ (); have t_n5 : (nI D0).toInt = (D0 : Int) := tn2747_ (); have t_n6 : (nI N1).toInt = (N1 : Int) := tn2748_ (); have t_n7 : (nI B1).toInt = (B1 : Int) := tn2749_ (); have t_n8 : (nI D1).toInt = (D1 : Int) := tn2750_ (); have z0 : (0 : Int32).toInt = 0 := qI_0; have z1 : (1 : Int32).toInt = 1 := qI_1; have z2 : (2 : Int32).toInt = 2 := qI_2; have z3 : (3 : Int32).toInt = 3 := qI_3; have z5 : (5 : Int32).toInt = 5 := qI_5; have z9 : (9 : Int32).toInt = 9 := qI_9; have z20 : (20 : Int32).toInt = 20 := qI_20; have z4 : (-4 : Int32).toInt = -4 := (by decide); have z10 : (10 : Int32).toInt = 10 := qI_10; omega) | (rw [if_neg (by assumption)]; done) | (rw [if_neg (by decide)]; done) | (rw [if_pos (by decide)]; first | done | rfl | (rw [k0]; rfl) | (rw [k1]; rfl)) | (rw [if_pos rfl]; first | done | rfl) | (rw [if_neg (by (have t_b39 := b39; have t_n0 : (nI N).toInt = (N : Int) := tn2742_ (); have t_n1 : (nI B).toInt = (B : Int) := tn2743_ (); have t_n2 : (nI D).toInt = (D : Int) := tn2744_ (); have t_n3 : (nI N0).toInt = (N0 : Int) := tn2745_ (); have t_n4 : (nI B0).toInt = (B0 : Int) := tn2746_ (); have t_n5 : (nI D0).toInt = (D0 : Int) := tn2747_ (); have t_n6 : (nI N1).toInt = (N1 : Int) := tn2748_ (); have t_n7 : (nI B1).toInt = (B1 : Int) := tn2749_ (); have t_n8 : (nI D1).toInt = (D1 : Int) := tn2750_ (); have z0 : (0 : Int32).toInt = 0 := qI_0; have z1 : (1 : Int32).toInt = 1 := qI_1; have z2 : (2 : Int32).toInt = 2 := qI_2; have z3 : (3 : Int32).toInt = 3 := qI_3; have z5 : (5 : Int32).toInt = 5 := qI_5; have z9 : (9 : Int32).toInt = 9 := qI_9; have z20 : (20 : Int32).toInt = 20 := qI_20; have z4 : (-4 : Int32).toInt = -4 := (by decide); have z10 : (10 : Int32).toInt = 10 := qI_10; omega))]; done) | (rw [if_neg (fun e9 => by have e8 := congrArg Int32.toInt e9; (have t_b39 := b39; have t_n0 : (nI N).toInt = (N : Int) := tn2742_ (); have t_n1 : (nI B).toInt = (B : Int) := tn2743_ (); have t_n2 : (nI D).toInt = (D : Int) := tn2744_ (); have t_n3 : (nI N0).toInt = (N0 : Int) := tn2745_ (); have t_n4 : (nI B0).toInt = (B0 : Int) := tn2746_ (); have t_n5 : (nI D0).toInt = (D0 : Int) := tn2747_ (); have t_n6 : (nI N1).toInt = (N1 : Int) := tn2748_ (); have t_n7 : (nI B1).toInt = (B1 : Int) := tn2749_ (); have t_n8 : (nI D1).toInt = (D1 : Int) := tn2750_ (); have z0 : (0 : Int32).toInt = 0 := qI_0; have z1 : (1 : Int32).toInt = 1 := qI_1; have z2 : (2 : Int32).toInt = 2 := qI_2; have z3 : (3 : Int32).toInt = 3 := qI_3; have z5 : (5 : Int32).toInt = 5 := qI_5; have z9 : (9 : Int32).toInt = 9 := qI_9; have z20 : (20 : Int32).toInt = 20 := qI_20; have z4 : (-4 : Int32).toInt = -4 := (by decide); have z10 : (10 : Int32).toInt = 10 := qI_10; omega))]; done)))⟩, ⟨by rw [ht]; exact hP9, hD9⟩⟩, hS.F ht⟩) hS.2.2 dX10_keep_8

set_option maxHeartbeats 4000000 in
set_option maxRecDepth 100000 in
theorem c_X10_backW (l : Launch) (dC : Nat → ClassId) (dI : Nat → Nat → Nat) (G : Nat → ClassId) (sz : Nat) (h0 rd wy tr im kp od ch cr le mk tl sh a1 a2 a3 a4 a5 a6 N B D i0 i1 ib1 ib2 ib3 ib4 ib5 ib6 id1 id2 id3 id4 id5 id6 N0 B0 D0 N1 B1 D1 : Nat) (tf rf k : Int32) (f1 f2 f3 f4 f5 f6 fk ibf1 ibf2 ibf3 ibf4 ibf5 ibf6 idf1 idf2 idf3 idf4 idf5 idf6 : Nat → Int32) (hN_N : N ≤ 10) (hB_B : B ≤ 6) (hD_D : 1 ≤ D ∧ D ≤ 9) (hN_N0 : N0 ≤ 10) (hB_B0 : B0 ≤ 6) (hD_D0 : 1 ≤ D0 ∧ D0 ≤ 9) (hN_N1 : N1 ≤ 10) (hB_B1 : B1 ≤ 6) (hD_D1 : 1 ≤ D1 ∧ D1 ≤ 9) : Met l yX10_back (Cond.code yX10_back cX10_back 2 (some .int) :: GT) ({ frames := 2, cells := 0, slots := 0, locals := 121 } : Room) (PcW [.ref h0, .int k] dC dI G [(h0, .inr (10, [.ref rd, .ref wy, .ref tr, .ref im, .ref kp, .ref od, .ref ch, .ref cr, .ref le, .ref mk, .ref tl, .ref sh, .int tf, .int rf])), (wy, .inr (9, [.int (nI N), .int (nI B), .int (nI D), .ref a1, .ref a2, .ref a3, .ref a4, .ref a5, .ref a6])), (a1, .inl (G 0, 10, .inl f1)), (a2, .inl (G 0, 10, .inl f2)), (a3, .inl (G 0, 10, .inl f3)), (a4, .inl (G 0, 6, .inl f4)), (a5, .inl (G 0, 6, .inl f5)), (a6, .inl (G 0, 6, .inl f6)), (im, .inl (G 3, 2, .inr (.inr (.inr (.inr (va_up (va_up (fun _ => none) 0 (some i0)) 1 (some i1))))))), (kp, .inl (G 2, 2, .inl fk)), (i0, .inr (9, [.int (nI N0), .int (nI B0), .int (nI D0), .ref ib1, .ref ib2, .ref ib3, .ref ib4, .ref ib5, .ref ib6])), (ib1, .inl (G 0, 10, .inl ibf1)), (ib2, .inl (G 0, 10, .inl ibf2)), (ib3, .inl (G 0, 10, .inl ibf3)), (ib4, .inl (G 0, 6, .inl ibf4)), (ib5, .inl (G 0, 6, .inl ibf5)), (ib6, .inl (G 0, 6, .inl ibf6)), (i1, .inr (9, [.int (nI N1), .int (nI B1), .int (nI D1), .ref id1, .ref id2, .ref id3, .ref id4, .ref id5, .ref id6])), (id1, .inl (G 0, 10, .inl idf1)), (id2, .inl (G 0, 10, .inl idf2)), (id3, .inl (G 0, 10, .inl idf3)), (id4, .inl (G 0, 6, .inl idf4)), (id5, .inl (G 0, 6, .inl idf5)), (id6, .inl (G 0, 6, .inl idf6))] sz) (va_Qi (fun (r : Int32) (u : Nat × Nat × Nat × (Nat → Int32) × (Nat → Int32) × (Nat → Int32) × (Nat → Int32) × (Nat → Int32) × (Nat → Int32)) => match u with | (u0, u1, u2, u3, u4, u5, u6, u7, u8) => (r = if (0 ≤ k.toInt ∧ k.toInt < 2) then (if fk k.toNatClampNeg = 0 then -2 else if k = 0 then nI N0 else nI N1) else -1) ∧ (u0 ≤ 10 ∧ u1 ≤ 6 ∧ (1 ≤ u2 ∧ u2 ≤ 9)) ∧ u0 = (if k = 0 ∧ ¬ fk 0 = 0 then N0 else if k = 1 ∧ ¬ fk 1 = 0 then N1 else N) ∧ u1 = (if k = 0 ∧ ¬ fk 0 = 0 then B0 else if k = 1 ∧ ¬ fk 1 = 0 then B1 else B) ∧ u2 = (if k = 0 ∧ ¬ fk 0 = 0 then D0 else if k = 1 ∧ ¬ fk 1 = 0 then D1 else D) ∧ u3 = (if k = 0 ∧ ¬ fk 0 = 0 then va_cpy ibf1 f1 0 0 10 else if k = 1 ∧ ¬ fk 1 = 0 then va_cpy idf1 f1 0 0 10 else f1) ∧ u4 = (if k = 0 ∧ ¬ fk 0 = 0 then va_cpy ibf2 f2 0 0 10 else if k = 1 ∧ ¬ fk 1 = 0 then va_cpy idf2 f2 0 0 10 else f2) ∧ u5 = (if k = 0 ∧ ¬ fk 0 = 0 then va_cpy ibf3 f3 0 0 10 else if k = 1 ∧ ¬ fk 1 = 0 then va_cpy idf3 f3 0 0 10 else f3) ∧ u6 = (if k = 0 ∧ ¬ fk 0 = 0 then va_cpy ibf4 f4 0 0 6 else if k = 1 ∧ ¬ fk 1 = 0 then va_cpy idf4 f4 0 0 6 else f4) ∧ u7 = (if k = 0 ∧ ¬ fk 0 = 0 then va_cpy ibf5 f5 0 0 6 else if k = 1 ∧ ¬ fk 1 = 0 then va_cpy idf5 f5 0 0 6 else f5) ∧ u8 = (if k = 0 ∧ ¬ fk 0 = 0 then va_cpy ibf6 f6 0 0 6 else if k = 1 ∧ ¬ fk 1 = 0 then va_cpy idf6 f6 0 0 6 else f6)) (fun (u : Nat × Nat × Nat × (Nat → Int32) × (Nat → Int32) × (Nat → Int32) × (Nat → Int32) × (Nat → Int32) × (Nat → Int32)) (t : State) => match u with | (u0, u1, u2, u3, u4, u5, u6, u7, u8) => va_P (dC, dI) vwCl [(h0, .inr (10, [.ref rd, .ref wy, .ref tr, .ref im, .ref kp, .ref od, .ref ch, .ref cr, .ref le, .ref mk, .ref tl, .ref sh, .int tf, .int rf])), (wy, .inr (9, [.int (nI u0), .int (nI u1), .int (nI u2), .ref a1, .ref a2, .ref a3, .ref a4, .ref a5, .ref a6])), (a1, .inl (G 0, 10, .inl u3)), (a2, .inl (G 0, 10, .inl u4)), (a3, .inl (G 0, 10, .inl u5)), (a4, .inl (G 0, 6, .inl u6)), (a5, .inl (G 0, 6, .inl u7)), (a6, .inl (G 0, 6, .inl u8)), (im, .inl (G 3, 2, .inr (.inr (.inr (.inr (va_up (va_up (fun _ => none) 0 (some i0)) 1 (some i1))))))), (kp, .inl (G 2, 2, .inl fk)), (i0, .inr (9, [.int (nI N0), .int (nI B0), .int (nI D0), .ref ib1, .ref ib2, .ref ib3, .ref ib4, .ref ib5, .ref ib6])), (ib1, .inl (G 0, 10, .inl ibf1)), (ib2, .inl (G 0, 10, .inl ibf2)), (ib3, .inl (G 0, 10, .inl ibf3)), (ib4, .inl (G 0, 6, .inl ibf4)), (ib5, .inl (G 0, 6, .inl ibf5)), (ib6, .inl (G 0, 6, .inl ibf6)), (i1, .inr (9, [.int (nI N1), .int (nI B1), .int (nI D1), .ref id1, .ref id2, .ref id3, .ref id4, .ref id5, .ref id6])), (id1, .inl (G 0, 10, .inl idf1)), (id2, .inl (G 0, 10, .inl idf2)), (id3, .inl (G 0, 10, .inl idf3)), (id4, .inl (G 0, 6, .inl idf4)), (id5, .inl (G 0, 6, .inl idf5)), (id6, .inl (G 0, 6, .inl idf6))] t.heap ∧ va_D (va_A [(h0, .inr (10, [.ref rd, .ref wy, .ref tr, .ref im, .ref kp, .ref od, .ref ch, .ref cr, .ref le, .ref mk, .ref tl, .ref sh, .int tf, .int rf])), (wy, .inr (9, [.int (nI N), .int (nI B), .int (nI D), .ref a1, .ref a2, .ref a3, .ref a4, .ref a5, .ref a6])), (a1, .inl (G 0, 10, .inl f1)), (a2, .inl (G 0, 10, .inl f2)), (a3, .inl (G 0, 10, .inl f3)), (a4, .inl (G 0, 6, .inl f4)), (a5, .inl (G 0, 6, .inl f5)), (a6, .inl (G 0, 6, .inl f6)), (im, .inl (G 3, 2, .inr (.inr (.inr (.inr (va_up (va_up (fun _ => none) 0 (some i0)) 1 (some i1))))))), (kp, .inl (G 2, 2, .inl fk)), (i0, .inr (9, [.int (nI N0), .int (nI B0), .int (nI D0), .ref ib1, .ref ib2, .ref ib3, .ref ib4, .ref ib5, .ref ib6])), (ib1, .inl (G 0, 10, .inl ibf1)), (ib2, .inl (G 0, 10, .inl ibf2)), (ib3, .inl (G 0, 10, .inl ibf3)), (ib4, .inl (G 0, 6, .inl ibf4)), (ib5, .inl (G 0, 6, .inl ibf5)), (ib6, .inl (G 0, 6, .inl ibf6)), (i1, .inr (9, [.int (nI N1), .int (nI B1), .int (nI D1), .ref id1, .ref id2, .ref id3, .ref id4, .ref id5, .ref id6])), (id1, .inl (G 0, 10, .inl idf1)), (id2, .inl (G 0, 10, .inl idf2)), (id3, .inl (G 0, 10, .inl idf3)), (id4, .inl (G 0, 6, .inl idf4)), (id5, .inl (G 0, 6, .inl idf5)), (id6, .inl (G 0, 6, .inl idf6))] sz) [(h0, .inr (10, [.ref rd, .ref wy, .ref tr, .ref im, .ref kp, .ref od, .ref ch, .ref cr, .ref le, .ref mk, .ref tl, .ref sh, .int tf, .int rf])), (wy, .inr (9, [.int (nI u0), .int (nI u1), .int (nI u2), .ref a1, .ref a2, .ref a3, .ref a4, .ref a5, .ref a6])), (a1, .inl (G 0, 10, .inl u3)), (a2, .inl (G 0, 10, .inl u4)), (a3, .inl (G 0, 10, .inl u5)), (a4, .inl (G 0, 6, .inl u6)), (a5, .inl (G 0, 6, .inl u7)), (a6, .inl (G 0, 6, .inl u8)), (im, .inl (G 3, 2, .inr (.inr (.inr (.inr (va_up (va_up (fun _ => none) 0 (some i0)) 1 (some i1))))))), (kp, .inl (G 2, 2, .inl fk)), (i0, .inr (9, [.int (nI N0), .int (nI B0), .int (nI D0), .ref ib1, .ref ib2, .ref ib3, .ref ib4, .ref ib5, .ref ib6])), (ib1, .inl (G 0, 10, .inl ibf1)), (ib2, .inl (G 0, 10, .inl ibf2)), (ib3, .inl (G 0, 10, .inl ibf3)), (ib4, .inl (G 0, 6, .inl ibf4)), (ib5, .inl (G 0, 6, .inl ibf5)), (ib6, .inl (G 0, 6, .inl ibf6)), (i1, .inr (9, [.int (nI N1), .int (nI B1), .int (nI D1), .ref id1, .ref id2, .ref id3, .ref id4, .ref id5, .ref id6])), (id1, .inl (G 0, 10, .inl idf1)), (id2, .inl (G 0, 10, .inl idf2)), (id3, .inl (G 0, 10, .inl idf3)), (id4, .inl (G 0, 6, .inl idf4)), (id5, .inl (G 0, 6, .inl idf5)), (id6, .inl (G 0, 6, .inl idf6))]) (va_A [(h0, .inr (10, [.ref rd, .ref wy, .ref tr, .ref im, .ref kp, .ref od, .ref ch, .ref cr, .ref le, .ref mk, .ref tl, .ref sh, .int tf, .int rf])), (wy, .inr (9, [.int (nI N), .int (nI B), .int (nI D), .ref a1, .ref a2, .ref a3, .ref a4, .ref a5, .ref a6])), (a1, .inl (G 0, 10, .inl f1)), (a2, .inl (G 0, 10, .inl f2)), (a3, .inl (G 0, 10, .inl f3)), (a4, .inl (G 0, 6, .inl f4)), (a5, .inl (G 0, 6, .inl f5)), (a6, .inl (G 0, 6, .inl f6)), (im, .inl (G 3, 2, .inr (.inr (.inr (.inr (va_up (va_up (fun _ => none) 0 (some i0)) 1 (some i1))))))), (kp, .inl (G 2, 2, .inl fk)), (i0, .inr (9, [.int (nI N0), .int (nI B0), .int (nI D0), .ref ib1, .ref ib2, .ref ib3, .ref ib4, .ref ib5, .ref ib6])), (ib1, .inl (G 0, 10, .inl ibf1)), (ib2, .inl (G 0, 10, .inl ibf2)), (ib3, .inl (G 0, 10, .inl ibf3)), (ib4, .inl (G 0, 6, .inl ibf4)), (ib5, .inl (G 0, 6, .inl ibf5)), (ib6, .inl (G 0, 6, .inl ibf6)), (i1, .inr (9, [.int (nI N1), .int (nI B1), .int (nI D1), .ref id1, .ref id2, .ref id3, .ref id4, .ref id5, .ref id6])), (id1, .inl (G 0, 10, .inl idf1)), (id2, .inl (G 0, 10, .inl idf2)), (id3, .inl (G 0, 10, .inl idf3)), (id4, .inl (G 0, 6, .inl idf4)), (id5, .inl (G 0, 6, .inl idf5)), (id6, .inl (G 0, 6, .inl idf6))] sz)) 0 0 (va_A [(h0, .inr (10, [.ref rd, .ref wy, .ref tr, .ref im, .ref kp, .ref od, .ref ch, .ref cr, .ref le, .ref mk, .ref tl, .ref sh, .int tf, .int rf])), (wy, .inr (9, [.int (nI N), .int (nI B), .int (nI D), .ref a1, .ref a2, .ref a3, .ref a4, .ref a5, .ref a6])), (a1, .inl (G 0, 10, .inl f1)), (a2, .inl (G 0, 10, .inl f2)), (a3, .inl (G 0, 10, .inl f3)), (a4, .inl (G 0, 6, .inl f4)), (a5, .inl (G 0, 6, .inl f5)), (a6, .inl (G 0, 6, .inl f6)), (im, .inl (G 3, 2, .inr (.inr (.inr (.inr (va_up (va_up (fun _ => none) 0 (some i0)) 1 (some i1))))))), (kp, .inl (G 2, 2, .inl fk)), (i0, .inr (9, [.int (nI N0), .int (nI B0), .int (nI D0), .ref ib1, .ref ib2, .ref ib3, .ref ib4, .ref ib5, .ref ib6])), (ib1, .inl (G 0, 10, .inl ibf1)), (ib2, .inl (G 0, 10, .inl ibf2)), (ib3, .inl (G 0, 10, .inl ibf3)), (ib4, .inl (G 0, 6, .inl ibf4)), (ib5, .inl (G 0, 6, .inl ibf5)), (ib6, .inl (G 0, 6, .inl ibf6)), (i1, .inr (9, [.int (nI N1), .int (nI B1), .int (nI D1), .ref id1, .ref id2, .ref id3, .ref id4, .ref id5, .ref id6])), (id1, .inl (G 0, 10, .inl idf1)), (id2, .inl (G 0, 10, .inl idf2)), (id3, .inl (G 0, 10, .inl idf3)), (id4, .inl (G 0, 6, .inl idf4)), (id5, .inl (G 0, 6, .inl idf5)), (id6, .inl (G 0, 6, .inl idf6))] sz) := by
  refine Met.ofW (cc := cX10_back) (maxL := 2) (ret := (some .int)) (by decide) rfl ?_
  intro p e s m args below meth c s₁ Bd hml hv
  obtain ⟨rfl, hsz, hP, hK, hD0⟩ := hv
  have hx := Bd.exec
  have hb := Bd.bytes
  have hr := Bd.returns
  have hg : ∀ w ∈ GT, w.before ([.ref h0, .int k] : List Value).toArray s = true := fun w h => atoms_spec (ws := Cond.code yX10_back cX10_back 2 (some .int) :: GT) Bd.pre w (List.mem_cons_of_mem _ h)
  have hown : s.vm.findClass RX10 = some m.cls := findClass_of_methodNamed Bd.named
  have hlocks := Bd.notSynchronized
  subst hsz
  have hD := hD0.self (sz := s.heap.size)
  generalize hAe : va_A [(h0, .inr (10, [.ref rd, .ref wy, .ref tr, .ref im, .ref kp, .ref od, .ref ch, .ref cr, .ref le, .ref mk, .ref tl, .ref sh, .int tf, .int rf])), (wy, .inr (9, [.int (nI N), .int (nI B), .int (nI D), .ref a1, .ref a2, .ref a3, .ref a4, .ref a5, .ref a6])), (a1, .inl (G 0, 10, .inl f1)), (a2, .inl (G 0, 10, .inl f2)), (a3, .inl (G 0, 10, .inl f3)), (a4, .inl (G 0, 6, .inl f4)), (a5, .inl (G 0, 6, .inl f5)), (a6, .inl (G 0, 6, .inl f6)), (im, .inl (G 3, 2, .inr (.inr (.inr (.inr (va_up (va_up (fun _ => none) 0 (some i0)) 1 (some i1))))))), (kp, .inl (G 2, 2, .inl fk)), (i0, .inr (9, [.int (nI N0), .int (nI B0), .int (nI D0), .ref ib1, .ref ib2, .ref ib3, .ref ib4, .ref ib5, .ref ib6])), (ib1, .inl (G 0, 10, .inl ibf1)), (ib2, .inl (G 0, 10, .inl ibf2)), (ib3, .inl (G 0, 10, .inl ibf3)), (ib4, .inl (G 0, 6, .inl ibf4)), (ib5, .inl (G 0, 6, .inl ibf5)), (ib6, .inl (G 0, 6, .inl ibf6)), (i1, .inr (9, [.int (nI N1), .int (nI B1), .int (nI D1), .ref id1, .ref id2, .ref id3, .ref id4, .ref id5, .ref id6])), (id1, .inl (G 0, 10, .inl idf1)), (id2, .inl (G 0, 10, .inl idf2)), (id3, .inl (G 0, 10, .inl idf3)), (id4, .inl (G 0, 6, .inl idf4)), (id5, .inl (G 0, 6, .inl idf5)), (id6, .inl (G 0, 6, .inl idf6))] s.heap.size = A at hD ⊢
  have hA : ∀ q : Nat, s.heap.size ≤ q → A q := fun q h => by rw [← hAe]; exact Or.inr h
  have hS : va_S A s.heap s.heap [] := va_S.rf
  have hl := lv_entry ([.ref h0, .int k]) (n := 2) (Nat.le_of_ble_eq_true rfl)
  rw [lg_entry_eq]
  generalize (lg_sl ([.ref h0, .int k]) ++ List.replicate (2 - (lg_sl ([.ref h0, .int k])).length) Slot.unset).toArray = ls at hl ⊢
  have hl : lv_has ls 2 [(0, .ref h0), (1, .int k)] := hl
  refine lv_iload_n hx hb dX10_back_0 rfl (lv_at hl 1 rfl) ?_
  have hPc := hP.sub (ws' := []) [] rfl
  refine va_calli (va_runS (As := [.int k]) (rest := []) ⟨hx, hb, hml, hown, hg⟩ (c_X10_isImage l dC dI G _ k) (kwS hg mfX10_isImage wt_812 ⟨Nat.le_of_ble_eq_true rfl, Nat.le_of_ble_eq_true rfl⟩) (preSR hK hPc) rfl rfl hl.1 rfl (lv_room (Nat.le_of_ble_eq_true rfl)) dX10_back_1 ⟨Nat.le_of_ble_eq_true rfl, Nat.le_of_ble_eq_true rfl⟩) hS (fun q h1 h2 => absurd h2 (Nat.not_le.mpr h1)) (fun q h => hA q (Nat.le_trans hS.1 h)) (fun r1 ur1 t H1 locs ht hvm w2 hB hz1 hk1 hS => ?_)
  have hP := keepR hP hk1
  obtain ⟨w2, w2x⟩ := w2
  try simp only [l_ii, show (0 : Int32).toInt = 0 from by decide, show (2 : Int32).toInt = 2 from by decide] at w2
  subst w2
  refine lv_if_ne (tgt := 9) hx hb dX10_back_4 (by decide) (fun c3 => ?_) (fun c3 => ?_)
  · skip
    have b4 := if10_p c3
    have hsp : k = 0 ∨ k = 1 := by
      have t_b4 := b4
      have tn2751_ : nIT N := fun _ => nI_toInt (by omega)
      have t_n0 : (nI N).toInt = (N : Int) := tn2751_ ()
      have tn2752_ : nIT B := fun _ => nI_toInt (by omega)
      have t_n1 : (nI B).toInt = (B : Int) := tn2752_ ()
      have tn2753_ : nIT D := fun _ => nI_toInt (by omega)
      have t_n2 : (nI D).toInt = (D : Int) := tn2753_ ()
      have tn2754_ : nIT N0 := fun _ => nI_toInt (by omega)
      have t_n3 : (nI N0).toInt = (N0 : Int) := tn2754_ ()
      have tn2755_ : nIT B0 := fun _ => nI_toInt (by omega)
      have t_n4 : (nI B0).toInt = (B0 : Int) := tn2755_ ()
      have tn2756_ : nIT D0 := fun _ => nI_toInt (by omega)
      have t_n5 : (nI D0).toInt = (D0 : Int) := tn2756_ ()
      have tn2757_ : nIT N1 := fun _ => nI_toInt (by omega)
      have t_n6 : (nI N1).toInt = (N1 : Int) := tn2757_ ()
      have tn2758_ : nIT B1 := fun _ => nI_toInt (by omega)
      have t_n7 : (nI B1).toInt = (B1 : Int) := tn2758_ ()
      have tn2759_ : nIT D1 := fun _ => nI_toInt (by omega)
      have t_n8 : (nI D1).toInt = (D1 : Int) := tn2759_ ()
      have : (0 : Int32).toInt = 0 := by decide
      have : (1 : Int32).toInt = 1 := by decide
      rcases (show k.toInt = 0 ∨ k.toInt = 1 by omega) with q | q
      · exact Or.inl (Int32.toInt_inj.mp (by rw [q]; rfl))
      · exact Or.inr ((Int32.toInt_inj.mp (by rw [q]; rfl)))
    rcases hsp with rfl | rfl
    · skip
      refine lv_aload_n hx hb dX10_back_9 rfl (lv_at hl 0 rfl) ?_
      refine va_get (D := (dC, dI)) (ci := 10) (v := .ref kp) (C := RX10) (T := TX10) (N := 14) hx hb hg inG10 hown hK.1 hP 0 rfl rfl 4 (by decide) (hg _ wt_306) (fun _ h9 => h9) rfl dX10_back_10 ?_
      refine lv_iload_n hx hb dX10_back_13 rfl (lv_at hl 1 rfl) ?_
      refine va_zald hx hb hK.1 hP 9 2 rfl rfl (vp_in_iff.mpr ⟨by decide, by decide⟩) dX10_back_14 ?_
      refine lv_cg (y := fk 0) (by rfl) ?_
      refine lv_if_ne (tgt := 21) hx hb dX10_back_15 (by decide) (fun c5 => ?_) (fun c5 => ?_)
      · skip
        refine lv_aload_n hx hb dX10_back_21 rfl (lv_at hl 0 rfl) ?_
        refine va_get (D := (dC, dI)) (ci := 10) (v := .ref wy) (C := RX10) (T := TX10) (N := 14) hx hb hg inG10 hown hK.1 hP 0 rfl rfl 1 (by decide) (hg _ wt_303) (fun _ h9 => h9) rfl dX10_back_22 ?_
        refine lv_aload_n hx hb dX10_back_25 rfl (lv_at hl 0 rfl) ?_
        refine va_get (D := (dC, dI)) (ci := 10) (v := .ref im) (C := RX10) (T := TX10) (N := 14) hx hb hg inG10 hown hK.1 hP 0 rfl rfl 3 (by decide) (hg _ wt_305) (fun _ h9 => h9) rfl dX10_back_26 ?_
        refine lv_iload_n hx hb dX10_back_29 rfl (lv_at hl 1 rfl) ?_
        refine va_aldq hx hb hK.1 hP 8 3 rfl rfl (vp_in_iff.mpr ⟨by decide, by decide⟩) dX10_back_30 ?_
        refine lv_cgv (y := .ref i0) (by rfl) ?_
        have hPc := hP.sub (ws' := [(wy, .inr (9, [.int (nI N), .int (nI B), .int (nI D), .ref a1, .ref a2, .ref a3, .ref a4, .ref a5, .ref a6])), (a1, .inl (G 0, 10, .inl f1)), (a2, .inl (G 0, 10, .inl f2)), (a3, .inl (G 0, 10, .inl f3)), (a4, .inl (G 0, 6, .inl f4)), (a5, .inl (G 0, 6, .inl f5)), (a6, .inl (G 0, 6, .inl f6)), (i0, .inr (9, [.int (nI N0), .int (nI B0), .int (nI D0), .ref ib1, .ref ib2, .ref ib3, .ref ib4, .ref ib5, .ref ib6])), (ib1, .inl (G 0, 10, .inl ibf1)), (ib2, .inl (G 0, 10, .inl ibf2)), (ib3, .inl (G 0, 10, .inl ibf3)), (ib4, .inl (G 0, 6, .inl ibf4)), (ib5, .inl (G 0, 6, .inl ibf5)), (ib6, .inl (G 0, 6, .inl ibf6))]) [1, 2, 3, 4, 5, 6, 7, 10, 11, 12, 13, 14, 15, 16] rfl
        have hDc := hD.sub (ws' := [(wy, .inr (9, [.int (nI N), .int (nI B), .int (nI D), .ref a1, .ref a2, .ref a3, .ref a4, .ref a5, .ref a6])), (a1, .inl (G 0, 10, .inl f1)), (a2, .inl (G 0, 10, .inl f2)), (a3, .inl (G 0, 10, .inl f3)), (a4, .inl (G 0, 6, .inl f4)), (a5, .inl (G 0, 6, .inl f5)), (a6, .inl (G 0, 6, .inl f6)), (i0, .inr (9, [.int (nI N0), .int (nI B0), .int (nI D0), .ref ib1, .ref ib2, .ref ib3, .ref ib4, .ref ib5, .ref ib6])), (ib1, .inl (G 0, 10, .inl ibf1)), (ib2, .inl (G 0, 10, .inl ibf2)), (ib3, .inl (G 0, 10, .inl ibf3)), (ib4, .inl (G 0, 6, .inl ibf4)), (ib5, .inl (G 0, 6, .inl ibf5)), (ib6, .inl (G 0, 6, .inl ibf6))]) [1, 2, 3, 4, 5, 6, 7, 10, 11, 12, 13, 14, 15, 16] (by decide) rfl
        have hFc := va_free (wc := [(wy, .inr (9, [.int (nI N), .int (nI B), .int (nI D), .ref a1, .ref a2, .ref a3, .ref a4, .ref a5, .ref a6])), (a1, .inl (G 0, 10, .inl f1)), (a2, .inl (G 0, 10, .inl f2)), (a3, .inl (G 0, 10, .inl f3)), (a4, .inl (G 0, 6, .inl f4)), (a5, .inl (G 0, 6, .inl f5)), (a6, .inl (G 0, 6, .inl f6)), (i0, .inr (9, [.int (nI N0), .int (nI B0), .int (nI D0), .ref ib1, .ref ib2, .ref ib3, .ref ib4, .ref ib5, .ref ib6])), (ib1, .inl (G 0, 10, .inl ibf1)), (ib2, .inl (G 0, 10, .inl ibf2)), (ib3, .inl (G 0, 10, .inl ibf3)), (ib4, .inl (G 0, 6, .inl ibf4)), (ib5, .inl (G 0, 6, .inl ibf5)), (ib6, .inl (G 0, 6, .inl ibf6))]) hD hS hA [1, 2, 3, 4, 5, 6, 7, 10, 11, 12, 13, 14, 15, 16] rfl
        refine va_callv (va_runVN (As := [.ref i0]) (rest := []) ⟨hx, hb, hml, hown, hg⟩ (c_X9_copyOfE l dC dI G _ wy i0 a1 a2 a3 a4 a5 a6 ib1 ib2 ib3 ib4 ib5 ib6 (nI N) (nI B) (nI D) (nI N0) (nI B0) (nI D0) f1 f2 f3 f4 f5 f6 ibf1 ibf2 ibf3 ibf4 ibf5 ibf6) (kwVN hg hK mfX9_copyOf wn_507 ⟨Nat.le_of_ble_eq_true rfl, Nat.le_of_ble_eq_true rfl⟩) (preVW hK hPc hDc (ci := 9) rfl rfl) rfl rfl hl.1 rfl (lv_room (Nat.le_of_ble_eq_true rfl)) dX10_back_31 ⟨Nat.le_of_ble_eq_true rfl, Nat.le_of_ble_eq_true rfl⟩) hS (fun q _ h => hFc q h) hFc (fun ur6 t H1 locs ht hvm w7 hB hz1 hk1 hS => ?_)
        obtain ⟨u8, u9, u10, u11, u12, u13⟩ := ur6
        obtain ⟨hP1, hD1⟩ := hB
        rw [ht] at hP1
        obtain ⟨hP, hD⟩ := va_join (wr := [(h0, .inr (10, [.ref rd, .ref wy, .ref tr, .ref im, .ref kp, .ref od, .ref ch, .ref cr, .ref le, .ref mk, .ref tl, .ref sh, .int tf, .int rf])), (im, .inl (G 3, 2, .inr (.inr (.inr (.inr (va_up (va_up (fun _ => none) 0 (some i0)) 1 (some i1))))))), (kp, .inl (G 2, 2, .inl fk)), (i1, .inr (9, [.int (nI N1), .int (nI B1), .int (nI D1), .ref id1, .ref id2, .ref id3, .ref id4, .ref id5, .ref id6])), (id1, .inl (G 0, 10, .inl idf1)), (id2, .inl (G 0, 10, .inl idf2)), (id3, .inl (G 0, 10, .inl idf3)), (id4, .inl (G 0, 6, .inl idf4)), (id5, .inl (G 0, 6, .inl idf5)), (id6, .inl (G 0, 6, .inl idf6))]) (w1 := [(wy, .inr (9, [.int (nI N0), .int (nI B0), .int (nI D0), .ref a1, .ref a2, .ref a3, .ref a4, .ref a5, .ref a6])), (a1, .inl (G 0, 10, .inl u8)), (a2, .inl (G 0, 10, .inl u9)), (a3, .inl (G 0, 10, .inl u10)), (a4, .inl (G 0, 6, .inl u11)), (a5, .inl (G 0, 6, .inl u12)), (a6, .inl (G 0, 6, .inl u13)), (i0, .inr (9, [.int (nI N0), .int (nI B0), .int (nI D0), .ref ib1, .ref ib2, .ref ib3, .ref ib4, .ref ib5, .ref ib6])), (ib1, .inl (G 0, 10, .inl ibf1)), (ib2, .inl (G 0, 10, .inl ibf2)), (ib3, .inl (G 0, 10, .inl ibf3)), (ib4, .inl (G 0, 6, .inl ibf4)), (ib5, .inl (G 0, 6, .inl ibf5)), (ib6, .inl (G 0, 6, .inl ibf6))]) hP hD [1, 2, 3, 4, 5, 6, 7, 10, 11, 12, 13, 14, 15, 16] [0, 8, 9, 17, 18, 19, 20, 21, 22, 23] rfl rfl (by decide) (by decide) hk1 hFc hP1 hD1
        have w7 : u8 = va_cpy ibf1 f1 0 0 10 ∧ u9 = va_cpy ibf2 f2 0 0 10 ∧ u10 = va_cpy ibf3 f3 0 0 10 ∧ u11 = va_cpy ibf4 f4 0 0 6 ∧ u12 = va_cpy ibf5 f5 0 0 6 ∧ u13 = va_cpy ibf6 f6 0 0 6 := w7
        generalize H1 = H at hP hS ⊢
        have hP : va_P (dC, dI) vwCl [(h0, .inr (10, [.ref rd, .ref wy, .ref tr, .ref im, .ref kp, .ref od, .ref ch, .ref cr, .ref le, .ref mk, .ref tl, .ref sh, .int tf, .int rf])), (im, .inl (G 3, 2, .inr (.inr (.inr (.inr (va_up (va_up (fun _ => none) 0 (some i0)) 1 (some i1))))))), (kp, .inl (G 2, 2, .inl fk)), (i1, .inr (9, [.int (nI N1), .int (nI B1), .int (nI D1), .ref id1, .ref id2, .ref id3, .ref id4, .ref id5, .ref id6])), (id1, .inl (G 0, 10, .inl idf1)), (id2, .inl (G 0, 10, .inl idf2)), (id3, .inl (G 0, 10, .inl idf3)), (id4, .inl (G 0, 6, .inl idf4)), (id5, .inl (G 0, 6, .inl idf5)), (id6, .inl (G 0, 6, .inl idf6)), (wy, .inr (9, [.int (nI N0), .int (nI B0), .int (nI D0), .ref a1, .ref a2, .ref a3, .ref a4, .ref a5, .ref a6])), (a1, .inl (G 0, 10, .inl u8)), (a2, .inl (G 0, 10, .inl u9)), (a3, .inl (G 0, 10, .inl u10)), (a4, .inl (G 0, 6, .inl u11)), (a5, .inl (G 0, 6, .inl u12)), (a6, .inl (G 0, 6, .inl u13)), (i0, .inr (9, [.int (nI N0), .int (nI B0), .int (nI D0), .ref ib1, .ref ib2, .ref ib3, .ref ib4, .ref ib5, .ref ib6])), (ib1, .inl (G 0, 10, .inl ibf1)), (ib2, .inl (G 0, 10, .inl ibf2)), (ib3, .inl (G 0, 10, .inl ibf3)), (ib4, .inl (G 0, 6, .inl ibf4)), (ib5, .inl (G 0, 6, .inl ibf5)), (ib6, .inl (G 0, 6, .inl ibf6))] H := hP
        have hD : va_D A [(h0, .inr (10, [.ref rd, .ref wy, .ref tr, .ref im, .ref kp, .ref od, .ref ch, .ref cr, .ref le, .ref mk, .ref tl, .ref sh, .int tf, .int rf])), (im, .inl (G 3, 2, .inr (.inr (.inr (.inr (va_up (va_up (fun _ => none) 0 (some i0)) 1 (some i1))))))), (kp, .inl (G 2, 2, .inl fk)), (i1, .inr (9, [.int (nI N1), .int (nI B1), .int (nI D1), .ref id1, .ref id2, .ref id3, .ref id4, .ref id5, .ref id6])), (id1, .inl (G 0, 10, .inl idf1)), (id2, .inl (G 0, 10, .inl idf2)), (id3, .inl (G 0, 10, .inl idf3)), (id4, .inl (G 0, 6, .inl idf4)), (id5, .inl (G 0, 6, .inl idf5)), (id6, .inl (G 0, 6, .inl idf6)), (wy, .inr (9, [.int (nI N0), .int (nI B0), .int (nI D0), .ref a1, .ref a2, .ref a3, .ref a4, .ref a5, .ref a6])), (a1, .inl (G 0, 10, .inl u8)), (a2, .inl (G 0, 10, .inl u9)), (a3, .inl (G 0, 10, .inl u10)), (a4, .inl (G 0, 6, .inl u11)), (a5, .inl (G 0, 6, .inl u12)), (a6, .inl (G 0, 6, .inl u13)), (i0, .inr (9, [.int (nI N0), .int (nI B0), .int (nI D0), .ref ib1, .ref ib2, .ref ib3, .ref ib4, .ref ib5, .ref ib6])), (ib1, .inl (G 0, 10, .inl ibf1)), (ib2, .inl (G 0, 10, .inl ibf2)), (ib3, .inl (G 0, 10, .inl ibf3)), (ib4, .inl (G 0, 6, .inl ibf4)), (ib5, .inl (G 0, 6, .inl ibf5)), (ib6, .inl (G 0, 6, .inl ibf6))] := hD
        refine lv_aload_n hx hb dX10_back_34 rfl (lv_at hl 0 rfl) ?_
        refine va_get (D := (dC, dI)) (ci := 10) (v := .ref wy) (C := RX10) (T := TX10) (N := 14) hx hb hg inG10 hown hK.1 hP 0 rfl rfl 1 (by decide) (hg _ wt_303) (fun _ h9 => h9) rfl dX10_back_35 ?_
        refine va_getN (D := (dC, dI)) (ci := 9) (v := .int (nI N0)) (C := RX9) (T := TX9) (N := 9) hx hb hg inG9 hown hK.1 hP 10 rfl rfl 0 (by decide) (hK.nest wn_60) (fun _ h9 => h9) rfl dX10_back_38 ?_
        have hpost : (nI N0 : Int32) = if (0 ≤ (0 : Int32).toInt ∧ (0 : Int32).toInt < 2) then (if fk (0 : Int32).toNatClampNeg = 0 then -2 else if (0 : Int32) = 0 then nI N0 else nI N1) else -1 := by
          have tn2760_ : nIT N := fun _ => nI_toInt (by omega)
          have tn2761_ : nIT B := fun _ => nI_toInt (by omega)
          have tn2762_ : nIT D := fun _ => nI_toInt (by omega)
          have tn2763_ : nIT N0 := fun _ => nI_toInt (by omega)
          have tn2764_ : nIT B0 := fun _ => nI_toInt (by omega)
          have tn2765_ : nIT D0 := fun _ => nI_toInt (by omega)
          have tn2766_ : nIT N1 := fun _ => nI_toInt (by omega)
          have tn2767_ : nIT B1 := fun _ => nI_toInt (by omega)
          have tn2768_ : nIT D1 := fun _ => nI_toInt (by omega)
          have k0 : (0 : Int32).toNatClampNeg = 0 := (by decide)
          have k1 : (1 : Int32).toNatClampNeg = 1 := (by decide)
          first | (rw [if_neg (by (have t_c5 := neI c5; have : (0 : Int32).toInt = 0 := qI_0; have t_n0 : (nI N).toInt = (N : Int) := tn2760_ (); have t_n1 : (nI B).toInt = (B : Int) := tn2761_ (); have t_n2 : (nI D).toInt = (D : Int) := tn2762_ (); have t_n3 : (nI N0).toInt = (N0 : Int) := tn2763_ (); have t_n4 : (nI B0).toInt = (B0 : Int) := tn2764_ (); have t_n5 : (nI D0).toInt = (D0 : Int) := tn2765_ (); have t_n6 : (nI N1).toInt = (N1 : Int) := tn2766_ (); have t_n7 : (nI B1).toInt = (B1 : Int) := tn2767_ (); have t_n8 : (nI D1).toInt = (D1 : Int) := tn2768_ (); have z0 : (0 : Int32).toInt = 0 := qI_0; have z1 : (1 : Int32).toInt = 1 := qI_1; have z2 : (2 : Int32).toInt = 2 := qI_2; have z3 : (3 : Int32).toInt = 3 := qI_3; have z5 : (5 : Int32).toInt = 5 := qI_5; have z9 : (9 : Int32).toInt = 9 := qI_9; have z20 : (20 : Int32).toInt = 20 := qI_20; have z4 : (-4 : Int32).toInt = -4 := (by decide); have z10 : (10 : Int32).toInt = 10 := qI_10; omega))]; done) | (rw [if_pos (by decide)]; (try rw [k0]); (try rw [k1]); first | (rw [if_pos (by assumption)]; done) | (rw [if_neg (by assumption)]; first | (rw [if_pos rfl]; done) | (rw [if_neg (by decide)]; done)))
        have hP9 := hP.sub (ws' := [(h0, .inr (10, [.ref rd, .ref wy, .ref tr, .ref im, .ref kp, .ref od, .ref ch, .ref cr, .ref le, .ref mk, .ref tl, .ref sh, .int tf, .int rf])), (wy, .inr (9, [.int (nI N0), .int (nI B0), .int (nI D0), .ref a1, .ref a2, .ref a3, .ref a4, .ref a5, .ref a6])), (a1, .inl (G 0, 10, .inl u8)), (a2, .inl (G 0, 10, .inl u9)), (a3, .inl (G 0, 10, .inl u10)), (a4, .inl (G 0, 6, .inl u11)), (a5, .inl (G 0, 6, .inl u12)), (a6, .inl (G 0, 6, .inl u13)), (im, .inl (G 3, 2, .inr (.inr (.inr (.inr (va_up (va_up (fun _ => none) 0 (some i0)) 1 (some i1))))))), (kp, .inl (G 2, 2, .inl fk)), (i0, .inr (9, [.int (nI N0), .int (nI B0), .int (nI D0), .ref ib1, .ref ib2, .ref ib3, .ref ib4, .ref ib5, .ref ib6])), (ib1, .inl (G 0, 10, .inl ibf1)), (ib2, .inl (G 0, 10, .inl ibf2)), (ib3, .inl (G 0, 10, .inl ibf3)), (ib4, .inl (G 0, 6, .inl ibf4)), (ib5, .inl (G 0, 6, .inl ibf5)), (ib6, .inl (G 0, 6, .inl ibf6)), (i1, .inr (9, [.int (nI N1), .int (nI B1), .int (nI D1), .ref id1, .ref id2, .ref id3, .ref id4, .ref id5, .ref id6])), (id1, .inl (G 0, 10, .inl idf1)), (id2, .inl (G 0, 10, .inl idf2)), (id3, .inl (G 0, 10, .inl idf3)), (id4, .inl (G 0, 6, .inl idf4)), (id5, .inl (G 0, 6, .inl idf5)), (id6, .inl (G 0, 6, .inl idf6))]) [0, 10, 11, 12, 13, 14, 15, 16, 1, 2, 17, 18, 19, 20, 21, 22, 23, 3, 4, 5, 6, 7, 8, 9] rfl
        have hD9 := hD.sub (ws' := [(h0, .inr (10, [.ref rd, .ref wy, .ref tr, .ref im, .ref kp, .ref od, .ref ch, .ref cr, .ref le, .ref mk, .ref tl, .ref sh, .int tf, .int rf])), (wy, .inr (9, [.int (nI N0), .int (nI B0), .int (nI D0), .ref a1, .ref a2, .ref a3, .ref a4, .ref a5, .ref a6])), (a1, .inl (G 0, 10, .inl u8)), (a2, .inl (G 0, 10, .inl u9)), (a3, .inl (G 0, 10, .inl u10)), (a4, .inl (G 0, 6, .inl u11)), (a5, .inl (G 0, 6, .inl u12)), (a6, .inl (G 0, 6, .inl u13)), (im, .inl (G 3, 2, .inr (.inr (.inr (.inr (va_up (va_up (fun _ => none) 0 (some i0)) 1 (some i1))))))), (kp, .inl (G 2, 2, .inl fk)), (i0, .inr (9, [.int (nI N0), .int (nI B0), .int (nI D0), .ref ib1, .ref ib2, .ref ib3, .ref ib4, .ref ib5, .ref ib6])), (ib1, .inl (G 0, 10, .inl ibf1)), (ib2, .inl (G 0, 10, .inl ibf2)), (ib3, .inl (G 0, 10, .inl ibf3)), (ib4, .inl (G 0, 6, .inl ibf4)), (ib5, .inl (G 0, 6, .inl ibf5)), (ib6, .inl (G 0, 6, .inl ibf6)), (i1, .inr (9, [.int (nI N1), .int (nI B1), .int (nI D1), .ref id1, .ref id2, .ref id3, .ref id4, .ref id5, .ref id6])), (id1, .inl (G 0, 10, .inl idf1)), (id2, .inl (G 0, 10, .inl idf2)), (id3, .inl (G 0, 10, .inl idf3)), (id4, .inl (G 0, 6, .inl idf4)), (id5, .inl (G 0, 6, .inl idf5)), (id6, .inl (G 0, 6, .inl idf6))]) [0, 10, 11, 12, 13, 14, 15, 16, 1, 2, 17, 18, 19, 20, 21, 22, 23, 3, 4, 5, 6, 7, 8, 9] (by decide) rfl
        refine W.widen (k := 0) (n := 0) (Nat.le_of_ble_eq_true rfl) (Nat.le_of_ble_eq_true rfl) ?_
        have tn2769_ : nIT N := fun _ => nI_toInt (by first | omega | (have t_c5 := neI c5; have : (0 : Int32).toInt = 0 := qI_0; omega))
        have tn2770_ : nIT B := fun _ => nI_toInt (by first | omega | (have t_c5 := neI c5; have : (0 : Int32).toInt = 0 := qI_0; omega))
        have tn2771_ : nIT D := fun _ => nI_toInt (by first | omega | (have t_c5 := neI c5; have : (0 : Int32).toInt = 0 := qI_0; omega))
        have tn2772_ : nIT N0 := fun _ => nI_toInt (by first | omega | (have t_c5 := neI c5; have : (0 : Int32).toInt = 0 := qI_0; omega))
        have tn2773_ : nIT B0 := fun _ => nI_toInt (by first | omega | (have t_c5 := neI c5; have : (0 : Int32).toInt = 0 := qI_0; omega))
        have tn2774_ : nIT D0 := fun _ => nI_toInt (by first | omega | (have t_c5 := neI c5; have : (0 : Int32).toInt = 0 := qI_0; omega))
        have tn2775_ : nIT N1 := fun _ => nI_toInt (by first | omega | (have t_c5 := neI c5; have : (0 : Int32).toInt = 0 := qI_0; omega))
        have tn2776_ : nIT B1 := fun _ => nI_toInt (by first | omega | (have t_c5 := neI c5; have : (0 : Int32).toInt = 0 := qI_0; omega))
        have tn2777_ : nIT D1 := fun _ => nI_toInt (by first | omega | (have t_c5 := neI c5; have : (0 : Int32).toInt = 0 := qI_0; omega))
        exact W.iret (v := nI N0) hx hb hr (fun t ht hW => ⟨⟨nI N0, (N0, B0, D0, u8, u9, u10, u11, u12, u13), rfl, ⟨hpost, (by have k0 : (0 : Int32).toNatClampNeg = 0 := (by decide); have k1 : (1 : Int32).toNatClampNeg = 1 := (by decide); refine ⟨⟨by (have t_c5 := neI c5; have : (0 : Int32).toInt = 0 := qI_0; have t_n0 : (nI N).toInt = (N : Int) := tn2769_ (); have t_n1 : (nI B).toInt = (B : Int) := tn2770_ (); have t_n2 : (nI D).toInt = (D : Int) := tn2771_ (); have t_n3 : (nI N0).toInt = (N0 : Int) := tn2772_ (); have t_n4 : (nI B0).toInt = (B0 : Int) := tn2773_ (); have t_n5 : (nI D0).toInt = (D0 : Int) := tn2774_ (); have t_n6 : (nI N1).toInt = (N1 : Int) := tn2775_ (); have t_n7 : (nI B1).toInt = (B1 : Int) := tn2776_ (); have t_n8 : (nI D1).toInt = (D1 : Int) := tn2777_ (); have z0 : (0 : Int32).toInt = 0 := qI_0; have z1 : (1 : Int32).toInt = 1 := qI_1; have z2 : (2 : Int32).toInt = 2 := qI_2; have z3 : (3 : Int32).toInt = 3 := qI_3; have z5 : (5 : Int32).toInt = 5 := qI_5; have z9 : (9 : Int32).toInt = 9 := qI_9; have z20 : (20 : Int32).toInt = 20 := qI_20; have z4 : (-4 : Int32).toInt = -4 := (by decide); have z10 : (10 : Int32).toInt = 10 := qI_10; omega), by (have t_c5 := neI c5; have : (0 : Int32).toInt = 0 := qI_0; have t_n0 : (nI N).toInt = (N : Int) := tn2769_ (); have t_n1 : (nI B).toInt = (B : Int) := tn2770_ (); have t_n2 : (nI D).toInt = (D : Int) := tn2771_ (); have t_n3 : (nI N0).toInt = (N0 : Int) := tn2772_ (); have t_n4 : (nI B0).toInt = (B0 : Int) := tn2773_ (); have t_n5 : (nI D0).toInt = (D0 : Int) := tn2774_ (); have t_n6 : (nI N1).toInt = (N1 : Int) := tn2775_ (); have t_n7 : (nI B1).toInt = (B1 : Int) := tn2776_ (); have t_n8 : (nI D1).toInt = (D1 : Int) := tn2777_ (); have z0 : (0 : Int32).toInt = 0 := qI_0; have z1 : (1 : Int32).toInt = 1 := qI_1; have z2 : (2 : Int32).toInt = 2 := qI_2; have z3 : (3 : Int32).toInt = 3 := qI_3; have z5 : (5 : Int32).toInt = 5 := qI_5; have z9 : (9 : Int32).toInt = 9 := qI_9; have z20 : (20 : Int32).toInt = 20 := qI_20; have z4 : (-4 : Int32).toInt = -4 := (by decide); have z10 : (10 : Int32).toInt = 10 := qI_10; omega), by (have t_c5 := neI c5; have : (0 : Int32).toInt = 0 := qI_0; have t_n0 : (nI N).toInt = (N : Int) := tn2769_ (); have t_n1 : (nI B).toInt = (B : Int) := tn2770_ (); have t_n2 : (nI D).toInt = (D : Int) := tn2771_ (); have t_n3 : (nI N0).toInt = (N0 : Int) := tn2772_ (); have t_n4 : (nI B0).toInt = (B0 : Int) := tn2773_ (); have t_n5 : (nI D0).toInt = (D0 : Int) := tn2774_ (); have t_n6 : (nI N1).toInt = (N1 : Int) := tn2775_ (); have t_n7 : (nI B1).toInt = (B1 : Int) := tn2776_ (); have t_n8 : (nI D1).toInt = (D1 : Int) := tn2777_ (); have z0 : (0 : Int32).toInt = 0 := qI_0; have z1 : (1 : Int32).toInt = 1 := qI_1; have z2 : (2 : Int32).toInt = 2 := qI_2; have z3 : (3 : Int32).toInt = 3 := qI_3; have z5 : (5 : Int32).toInt = 5 := qI_5; have z9 : (9 : Int32).toInt = 9 := qI_9; have z20 : (20 : Int32).toInt = 20 := qI_20; have z4 : (-4 : Int32).toInt = -4 := (by decide); have z10 : (10 : Int32).toInt = 10 := qI_10; omega), by (have t_c5 := neI c5; have : (0 : Int32).toInt = 0 := qI_0; have t_n0 : (nI N).toInt = (N : Int) := tn2769_ (); have t_n1 : (nI B).toInt = (B : Int) := tn2770_ (); have t_n2 : (nI D).toInt = (D : Int) := tn2771_ (); have t_n3 : (nI N0).toInt = (N0 : Int) := tn2772_ (); have t_n4 : (nI B0).toInt = (B0 : Int) := tn2773_ (); have t_n5 : (nI D0).toInt = (D0 : Int) := tn2774_ (); have t_n6 : (nI N1).toInt = (N1 : Int) := tn2775_ (); have t_n7 : (nI B1).toInt = (B1 : Int) := tn2776_ (); have t_n8 : (nI D1).toInt = (D1 : Int) := tn2777_ (); have z0 : (0 : Int32).toInt = 0 := qI_0; have z1 : (1 : Int32).toInt = 1 := qI_1; have z2 : (2 : Int32).toInt = 2 := qI_2; have z3 : (3 : Int32).toInt = 3 := qI_3; have z5 : (5 : Int32).toInt = 5 := qI_5; have z9 : (9 : Int32).toInt = 9 := qI_9; have z20 : (20 : Int32).toInt = 20 := qI_20; have z4 : (-4 : Int32).toInt = -4 := (by decide); have z10 : (10 : Int32).toInt = 10 := qI_10; omega)⟩, ?_, ?_, ?_, ?_, ?_, ?_, ?_, ?_, ?_⟩ <;> (first | (rw [if_pos ⟨rfl, by assumption⟩]; first | done | rfl | exact w7.1 | exact w7.2.1 | exact w7.2.2.1 | exact w7.2.2.2.1 | exact w7.2.2.2.2.1 | exact w7.2.2.2.2.2) | (rw [if_neg (fun h9 => absurd h9.1 (by decide)), if_pos ⟨rfl, by assumption⟩]; first | done | rfl | exact w7.1 | exact w7.2.1 | exact w7.2.2.1 | exact w7.2.2.2.1 | exact w7.2.2.2.2.1 | exact w7.2.2.2.2.2) | (rw [if_neg (fun h9 => h9.2 (by assumption)), if_neg (fun h9 => absurd h9.1 (by decide))]; done) | (rw [if_neg (fun h9 => absurd h9.1 (by decide)), if_neg (fun h9 => h9.2 (by assumption))]; done) | (rw [if_neg (fun h9 => by have e8 := congrArg Int32.toInt h9.1; (have t_c5 := neI c5; have : (0 : Int32).toInt = 0 := qI_0; have t_n0 : (nI N).toInt = (N : Int) := tn2769_ (); have t_n1 : (nI B).toInt = (B : Int) := tn2770_ (); have t_n2 : (nI D).toInt = (D : Int) := tn2771_ (); have t_n3 : (nI N0).toInt = (N0 : Int) := tn2772_ (); have t_n4 : (nI B0).toInt = (B0 : Int) := tn2773_ (); have t_n5 : (nI D0).toInt = (D0 : Int) := tn2774_ (); have t_n6 : (nI N1).toInt = (N1 : Int) := tn2775_ (); have t_n7 : (nI B1).toInt = (B1 : Int) := tn2776_ (); have t_n8 : (nI D1).toInt = (D1 : Int) := tn2777_ (); have z0 : (0 : Int32).toInt = 0 := qI_0; have z1 : (1 : Int32).toInt = 1 := qI_1; have z2 : (2 : Int32).toInt = 2 := qI_2; have z3 : (3 : Int32).toInt = 3 := qI_3; have z5 : (5 : Int32).toInt = 5 := qI_5; have z9 : (9 : Int32).toInt = 9 := qI_9; have z20 : (20 : Int32).toInt = 20 := qI_20; have z4 : (-4 : Int32).toInt = -4 := (by decide); have z10 : (10 : Int32).toInt = 10 := qI_10; omega)), if_neg (fun h9 => by have e8 := congrArg Int32.toInt h9.1; (have t_c5 := neI c5; have : (0 : Int32).toInt = 0 := qI_0; have t_n0 : (nI N).toInt = (N : Int) := tn2769_ (); have t_n1 : (nI B).toInt = (B : Int) := tn2770_ (); have t_n2 : (nI D).toInt = (D : Int) := tn2771_ (); have t_n3 : (nI N0).toInt = (N0 : Int) := tn2772_ (); have t_n4 : (nI B0).toInt = (B0 : Int) := tn2773_ (); have t_n5 : (nI D0).toInt = (D0 : Int) := tn2774_ (); have t_n6 : (nI N1).toInt = (N1 : Int) := tn2775_ (); have t_n7 : (nI B1).toInt = (B1 : Int) := tn2776_ (); have t_n8 : (nI D1).toInt = (D1 : Int) := tn2777_ (); have z0 : (0 : Int32).toInt = 0 := qI_0; have z1 : (1 : Int32).toInt = 1 := qI_1; have z2 : (2 : Int32).toInt = 2 := qI_2; have z3 : (3 : Int32).toInt = 3 := qI_3; have z5 : (5 : Int32).toInt = 5 := qI_5; have z9 : (9 : Int32).toInt = 9 := qI_9; have z20 : (20 : Int32).toInt = 20 := qI_20; have z4 : (-4 : Int32).toInt = -4 := (by decide); have z10 : (10 : Int32).toInt = 10 := qI_10; omega))]; done)))⟩, ⟨by rw [ht]; exact hP9, hD9⟩⟩, hS.F ht⟩) hS.2.2 dX10_back_41
      · skip
        refine lv_bipush (v := (-2)) hx hb dX10_back_18 (by decide) ?_
        have hpost : ((-2) : Int32) = if (0 ≤ (0 : Int32).toInt ∧ (0 : Int32).toInt < 2) then (if fk (0 : Int32).toNatClampNeg = 0 then -2 else if (0 : Int32) = 0 then nI N0 else nI N1) else -1 := by
          have tn2778_ : nIT N := fun _ => nI_toInt (by omega)
          have tn2779_ : nIT B := fun _ => nI_toInt (by omega)
          have tn2780_ : nIT D := fun _ => nI_toInt (by omega)
          have tn2781_ : nIT N0 := fun _ => nI_toInt (by omega)
          have tn2782_ : nIT B0 := fun _ => nI_toInt (by omega)
          have tn2783_ : nIT D0 := fun _ => nI_toInt (by omega)
          have tn2784_ : nIT N1 := fun _ => nI_toInt (by omega)
          have tn2785_ : nIT B1 := fun _ => nI_toInt (by omega)
          have tn2786_ : nIT D1 := fun _ => nI_toInt (by omega)
          have k0 : (0 : Int32).toNatClampNeg = 0 := (by decide)
          have k1 : (1 : Int32).toNatClampNeg = 1 := (by decide)
          first | (rw [if_neg (by (have t_c5 := eqI c5; have : (0 : Int32).toInt = 0 := qI_0; have t_n0 : (nI N).toInt = (N : Int) := tn2778_ (); have t_n1 : (nI B).toInt = (B : Int) := tn2779_ (); have t_n2 : (nI D).toInt = (D : Int) := tn2780_ (); have t_n3 : (nI N0).toInt = (N0 : Int) := tn2781_ (); have t_n4 : (nI B0).toInt = (B0 : Int) := tn2782_ (); have t_n5 : (nI D0).toInt = (D0 : Int) := tn2783_ (); have t_n6 : (nI N1).toInt = (N1 : Int) := tn2784_ (); have t_n7 : (nI B1).toInt = (B1 : Int) := tn2785_ (); have t_n8 : (nI D1).toInt = (D1 : Int) := tn2786_ (); have z0 : (0 : Int32).toInt = 0 := qI_0; have z1 : (1 : Int32).toInt = 1 := qI_1; have z2 : (2 : Int32).toInt = 2 := qI_2; have z3 : (3 : Int32).toInt = 3 := qI_3; have z5 : (5 : Int32).toInt = 5 := qI_5; have z9 : (9 : Int32).toInt = 9 := qI_9; have z20 : (20 : Int32).toInt = 20 := qI_20; have z4 : (-4 : Int32).toInt = -4 := (by decide); have z10 : (10 : Int32).toInt = 10 := qI_10; omega))]; done) | (rw [if_pos (by decide)]; (try rw [k0]); (try rw [k1]); first | (rw [if_pos (by assumption)]; done) | (rw [if_neg (by assumption)]; first | (rw [if_pos rfl]; done) | (rw [if_neg (by decide)]; done)))
        have hP9 := hP.sub (ws' := [(h0, .inr (10, [.ref rd, .ref wy, .ref tr, .ref im, .ref kp, .ref od, .ref ch, .ref cr, .ref le, .ref mk, .ref tl, .ref sh, .int tf, .int rf])), (wy, .inr (9, [.int (nI N), .int (nI B), .int (nI D), .ref a1, .ref a2, .ref a3, .ref a4, .ref a5, .ref a6])), (a1, .inl (G 0, 10, .inl f1)), (a2, .inl (G 0, 10, .inl f2)), (a3, .inl (G 0, 10, .inl f3)), (a4, .inl (G 0, 6, .inl f4)), (a5, .inl (G 0, 6, .inl f5)), (a6, .inl (G 0, 6, .inl f6)), (im, .inl (G 3, 2, .inr (.inr (.inr (.inr (va_up (va_up (fun _ => none) 0 (some i0)) 1 (some i1))))))), (kp, .inl (G 2, 2, .inl fk)), (i0, .inr (9, [.int (nI N0), .int (nI B0), .int (nI D0), .ref ib1, .ref ib2, .ref ib3, .ref ib4, .ref ib5, .ref ib6])), (ib1, .inl (G 0, 10, .inl ibf1)), (ib2, .inl (G 0, 10, .inl ibf2)), (ib3, .inl (G 0, 10, .inl ibf3)), (ib4, .inl (G 0, 6, .inl ibf4)), (ib5, .inl (G 0, 6, .inl ibf5)), (ib6, .inl (G 0, 6, .inl ibf6)), (i1, .inr (9, [.int (nI N1), .int (nI B1), .int (nI D1), .ref id1, .ref id2, .ref id3, .ref id4, .ref id5, .ref id6])), (id1, .inl (G 0, 10, .inl idf1)), (id2, .inl (G 0, 10, .inl idf2)), (id3, .inl (G 0, 10, .inl idf3)), (id4, .inl (G 0, 6, .inl idf4)), (id5, .inl (G 0, 6, .inl idf5)), (id6, .inl (G 0, 6, .inl idf6))]) [0, 1, 2, 3, 4, 5, 6, 7, 8, 9, 10, 11, 12, 13, 14, 15, 16, 17, 18, 19, 20, 21, 22, 23] rfl
        have hD9 := hD.sub (ws' := [(h0, .inr (10, [.ref rd, .ref wy, .ref tr, .ref im, .ref kp, .ref od, .ref ch, .ref cr, .ref le, .ref mk, .ref tl, .ref sh, .int tf, .int rf])), (wy, .inr (9, [.int (nI N), .int (nI B), .int (nI D), .ref a1, .ref a2, .ref a3, .ref a4, .ref a5, .ref a6])), (a1, .inl (G 0, 10, .inl f1)), (a2, .inl (G 0, 10, .inl f2)), (a3, .inl (G 0, 10, .inl f3)), (a4, .inl (G 0, 6, .inl f4)), (a5, .inl (G 0, 6, .inl f5)), (a6, .inl (G 0, 6, .inl f6)), (im, .inl (G 3, 2, .inr (.inr (.inr (.inr (va_up (va_up (fun _ => none) 0 (some i0)) 1 (some i1))))))), (kp, .inl (G 2, 2, .inl fk)), (i0, .inr (9, [.int (nI N0), .int (nI B0), .int (nI D0), .ref ib1, .ref ib2, .ref ib3, .ref ib4, .ref ib5, .ref ib6])), (ib1, .inl (G 0, 10, .inl ibf1)), (ib2, .inl (G 0, 10, .inl ibf2)), (ib3, .inl (G 0, 10, .inl ibf3)), (ib4, .inl (G 0, 6, .inl ibf4)), (ib5, .inl (G 0, 6, .inl ibf5)), (ib6, .inl (G 0, 6, .inl ibf6)), (i1, .inr (9, [.int (nI N1), .int (nI B1), .int (nI D1), .ref id1, .ref id2, .ref id3, .ref id4, .ref id5, .ref id6])), (id1, .inl (G 0, 10, .inl idf1)), (id2, .inl (G 0, 10, .inl idf2)), (id3, .inl (G 0, 10, .inl idf3)), (id4, .inl (G 0, 6, .inl idf4)), (id5, .inl (G 0, 6, .inl idf5)), (id6, .inl (G 0, 6, .inl idf6))]) [0, 1, 2, 3, 4, 5, 6, 7, 8, 9, 10, 11, 12, 13, 14, 15, 16, 17, 18, 19, 20, 21, 22, 23] (by decide) rfl
        refine W.widen (k := 0) (n := 0) (Nat.le_of_ble_eq_true rfl) (Nat.le_of_ble_eq_true rfl) ?_
        have tn2787_ : nIT N := fun _ => nI_toInt (by first | omega | (have t_c5 := eqI c5; have : (0 : Int32).toInt = 0 := qI_0; omega))
        have tn2788_ : nIT B := fun _ => nI_toInt (by first | omega | (have t_c5 := eqI c5; have : (0 : Int32).toInt = 0 := qI_0; omega))
        have tn2789_ : nIT D := fun _ => nI_toInt (by first | omega | (have t_c5 := eqI c5; have : (0 : Int32).toInt = 0 := qI_0; omega))
        have tn2790_ : nIT N0 := fun _ => nI_toInt (by first | omega | (have t_c5 := eqI c5; have : (0 : Int32).toInt = 0 := qI_0; omega))
        have tn2791_ : nIT B0 := fun _ => nI_toInt (by first | omega | (have t_c5 := eqI c5; have : (0 : Int32).toInt = 0 := qI_0; omega))
        have tn2792_ : nIT D0 := fun _ => nI_toInt (by first | omega | (have t_c5 := eqI c5; have : (0 : Int32).toInt = 0 := qI_0; omega))
        have tn2793_ : nIT N1 := fun _ => nI_toInt (by first | omega | (have t_c5 := eqI c5; have : (0 : Int32).toInt = 0 := qI_0; omega))
        have tn2794_ : nIT B1 := fun _ => nI_toInt (by first | omega | (have t_c5 := eqI c5; have : (0 : Int32).toInt = 0 := qI_0; omega))
        have tn2795_ : nIT D1 := fun _ => nI_toInt (by first | omega | (have t_c5 := eqI c5; have : (0 : Int32).toInt = 0 := qI_0; omega))
        exact W.iret (v := (-2)) hx hb hr (fun t ht hW => ⟨⟨(-2), (N, B, D, f1, f2, f3, f4, f5, f6), rfl, ⟨hpost, (by have k0 : (0 : Int32).toNatClampNeg = 0 := (by decide); have k1 : (1 : Int32).toNatClampNeg = 1 := (by decide); refine ⟨⟨by (have t_c5 := eqI c5; have : (0 : Int32).toInt = 0 := qI_0; have t_n0 : (nI N).toInt = (N : Int) := tn2787_ (); have t_n1 : (nI B).toInt = (B : Int) := tn2788_ (); have t_n2 : (nI D).toInt = (D : Int) := tn2789_ (); have t_n3 : (nI N0).toInt = (N0 : Int) := tn2790_ (); have t_n4 : (nI B0).toInt = (B0 : Int) := tn2791_ (); have t_n5 : (nI D0).toInt = (D0 : Int) := tn2792_ (); have t_n6 : (nI N1).toInt = (N1 : Int) := tn2793_ (); have t_n7 : (nI B1).toInt = (B1 : Int) := tn2794_ (); have t_n8 : (nI D1).toInt = (D1 : Int) := tn2795_ (); have z0 : (0 : Int32).toInt = 0 := qI_0; have z1 : (1 : Int32).toInt = 1 := qI_1; have z2 : (2 : Int32).toInt = 2 := qI_2; have z3 : (3 : Int32).toInt = 3 := qI_3; have z5 : (5 : Int32).toInt = 5 := qI_5; have z9 : (9 : Int32).toInt = 9 := qI_9; have z20 : (20 : Int32).toInt = 20 := qI_20; have z4 : (-4 : Int32).toInt = -4 := (by decide); have z10 : (10 : Int32).toInt = 10 := qI_10; omega), by (have t_c5 := eqI c5; have : (0 : Int32).toInt = 0 := qI_0; have t_n0 : (nI N).toInt = (N : Int) := tn2787_ (); have t_n1 : (nI B).toInt = (B : Int) := tn2788_ (); have t_n2 : (nI D).toInt = (D : Int) := tn2789_ (); have t_n3 : (nI N0).toInt = (N0 : Int) := tn2790_ (); have t_n4 : (nI B0).toInt = (B0 : Int) := tn2791_ (); have t_n5 : (nI D0).toInt = (D0 : Int) := tn2792_ (); have t_n6 : (nI N1).toInt = (N1 : Int) := tn2793_ (); have t_n7 : (nI B1).toInt = (B1 : Int) := tn2794_ (); have t_n8 : (nI D1).toInt = (D1 : Int) := tn2795_ (); have z0 : (0 : Int32).toInt = 0 := qI_0; have z1 : (1 : Int32).toInt = 1 := qI_1; have z2 : (2 : Int32).toInt = 2 := qI_2; have z3 : (3 : Int32).toInt = 3 := qI_3; have z5 : (5 : Int32).toInt = 5 := qI_5; have z9 : (9 : Int32).toInt = 9 := qI_9; have z20 : (20 : Int32).toInt = 20 := qI_20; have z4 : (-4 : Int32).toInt = -4 := (by decide); have z10 : (10 : Int32).toInt = 10 := qI_10; omega), by (have t_c5 := eqI c5; have : (0 : Int32).toInt = 0 := qI_0; have t_n0 : (nI N).toInt = (N : Int) := tn2787_ (); have t_n1 : (nI B).toInt = (B : Int) := tn2788_ (); have t_n2 : (nI D).toInt = (D : Int) := tn2789_ (); have t_n3 : (nI N0).toInt = (N0 : Int) := tn2790_ (); have t_n4 : (nI B0).toInt = (B0 : Int) := tn2791_ (); have t_n5 : (nI D0).toInt = (D0 : Int) := tn2792_ (); have t_n6 : (nI N1).toInt = (N1 : Int) := tn2793_ (); have t_n7 : (nI B1).toInt = (B1 : Int) := tn2794_ (); have t_n8 : (nI D1).toInt = (D1 : Int) := tn2795_ (); have z0 : (0 : Int32).toInt = 0 := qI_0; have z1 : (1 : Int32).toInt = 1 := qI_1; have z2 : (2 : Int32).toInt = 2 := qI_2; have z3 : (3 : Int32).toInt = 3 := qI_3; have z5 : (5 : Int32).toInt = 5 := qI_5; have z9 : (9 : Int32).toInt = 9 := qI_9; have z20 : (20 : Int32).toInt = 20 := qI_20; have z4 : (-4 : Int32).toInt = -4 := (by decide); have z10 : (10 : Int32).toInt = 10 := qI_10; omega), by (have t_c5 := eqI c5; have : (0 : Int32).toInt = 0 := qI_0; have t_n0 : (nI N).toInt = (N : Int) := tn2787_ (); have t_n1 : (nI B).toInt = (B : Int) := tn2788_ (); have t_n2 : (nI D).toInt = (D : Int) := tn2789_ (); have t_n3 : (nI N0).toInt = (N0 : Int) := tn2790_ (); have t_n4 : (nI B0).toInt = (B0 : Int) := tn2791_ (); have t_n5 : (nI D0).toInt = (D0 : Int) := tn2792_ (); have t_n6 : (nI N1).toInt = (N1 : Int) := tn2793_ (); have t_n7 : (nI B1).toInt = (B1 : Int) := tn2794_ (); have t_n8 : (nI D1).toInt = (D1 : Int) := tn2795_ (); have z0 : (0 : Int32).toInt = 0 := qI_0; have z1 : (1 : Int32).toInt = 1 := qI_1; have z2 : (2 : Int32).toInt = 2 := qI_2; have z3 : (3 : Int32).toInt = 3 := qI_3; have z5 : (5 : Int32).toInt = 5 := qI_5; have z9 : (9 : Int32).toInt = 9 := qI_9; have z20 : (20 : Int32).toInt = 20 := qI_20; have z4 : (-4 : Int32).toInt = -4 := (by decide); have z10 : (10 : Int32).toInt = 10 := qI_10; omega)⟩, ?_, ?_, ?_, ?_, ?_, ?_, ?_, ?_, ?_⟩ <;> (first | (rw [if_pos ⟨rfl, by assumption⟩]; first | done | rfl) | (rw [if_neg (fun h9 => absurd h9.1 (by decide)), if_pos ⟨rfl, by assumption⟩]; first | done | rfl) | (rw [if_neg (fun h9 => h9.2 (by assumption)), if_neg (fun h9 => absurd h9.1 (by decide))]; done) | (rw [if_neg (fun h9 => absurd h9.1 (by decide)), if_neg (fun h9 => h9.2 (by assumption))]; done) | (rw [if_neg (fun h9 => by have e8 := congrArg Int32.toInt h9.1; (have t_c5 := eqI c5; have : (0 : Int32).toInt = 0 := qI_0; have t_n0 : (nI N).toInt = (N : Int) := tn2787_ (); have t_n1 : (nI B).toInt = (B : Int) := tn2788_ (); have t_n2 : (nI D).toInt = (D : Int) := tn2789_ (); have t_n3 : (nI N0).toInt = (N0 : Int) := tn2790_ (); have t_n4 : (nI B0).toInt = (B0 : Int) := tn2791_ (); have t_n5 : (nI D0).toInt = (D0 : Int) := tn2792_ (); have t_n6 : (nI N1).toInt = (N1 : Int) := tn2793_ (); have t_n7 : (nI B1).toInt = (B1 : Int) := tn2794_ (); have t_n8 : (nI D1).toInt = (D1 : Int) := tn2795_ (); have z0 : (0 : Int32).toInt = 0 := qI_0; have z1 : (1 : Int32).toInt = 1 := qI_1; have z2 : (2 : Int32).toInt = 2 := qI_2; have z3 : (3 : Int32).toInt = 3 := qI_3; have z5 : (5 : Int32).toInt = 5 := qI_5; have z9 : (9 : Int32).toInt = 9 := qI_9; have z20 : (20 : Int32).toInt = 20 := qI_20; have z4 : (-4 : Int32).toInt = -4 := (by decide); have z10 : (10 : Int32).toInt = 10 := qI_10; omega)), if_neg (fun h9 => by have e8 := congrArg Int32.toInt h9.1; (have t_c5 := eqI c5; have : (0 : Int32).toInt = 0 := qI_0; have t_n0 : (nI N).toInt = (N : Int) := tn2787_ (); have t_n1 : (nI B).toInt = (B : Int) := tn2788_ (); have t_n2 : (nI D).toInt = (D : Int) := tn2789_ (); have t_n3 : (nI N0).toInt = (N0 : Int) := tn2790_ (); have t_n4 : (nI B0).toInt = (B0 : Int) := tn2791_ (); have t_n5 : (nI D0).toInt = (D0 : Int) := tn2792_ (); have t_n6 : (nI N1).toInt = (N1 : Int) := tn2793_ (); have t_n7 : (nI B1).toInt = (B1 : Int) := tn2794_ (); have t_n8 : (nI D1).toInt = (D1 : Int) := tn2795_ (); have z0 : (0 : Int32).toInt = 0 := qI_0; have z1 : (1 : Int32).toInt = 1 := qI_1; have z2 : (2 : Int32).toInt = 2 := qI_2; have z3 : (3 : Int32).toInt = 3 := qI_3; have z5 : (5 : Int32).toInt = 5 := qI_5; have z9 : (9 : Int32).toInt = 9 := qI_9; have z20 : (20 : Int32).toInt = 20 := qI_20; have z4 : (-4 : Int32).toInt = -4 := (by decide); have z10 : (10 : Int32).toInt = 10 := qI_10; omega))]; done)))⟩, ⟨by rw [ht]; exact hP9, hD9⟩⟩, hS.F ht⟩) hS.2.2 dX10_back_20
    · skip
      refine lv_aload_n hx hb dX10_back_9 rfl (lv_at hl 0 rfl) ?_
      refine va_get (D := (dC, dI)) (ci := 10) (v := .ref kp) (C := RX10) (T := TX10) (N := 14) hx hb hg inG10 hown hK.1 hP 0 rfl rfl 4 (by decide) (hg _ wt_306) (fun _ h9 => h9) rfl dX10_back_10 ?_
      refine lv_iload_n hx hb dX10_back_13 rfl (lv_at hl 1 rfl) ?_
      refine va_zald hx hb hK.1 hP 9 2 rfl rfl (vp_in_iff.mpr ⟨by decide, by decide⟩) dX10_back_14 ?_
      refine lv_cg (y := fk 1) (by rfl) ?_
      refine lv_if_ne (tgt := 21) hx hb dX10_back_15 (by decide) (fun c14 => ?_) (fun c14 => ?_)
      · skip
        refine lv_aload_n hx hb dX10_back_21 rfl (lv_at hl 0 rfl) ?_
        refine va_get (D := (dC, dI)) (ci := 10) (v := .ref wy) (C := RX10) (T := TX10) (N := 14) hx hb hg inG10 hown hK.1 hP 0 rfl rfl 1 (by decide) (hg _ wt_303) (fun _ h9 => h9) rfl dX10_back_22 ?_
        refine lv_aload_n hx hb dX10_back_25 rfl (lv_at hl 0 rfl) ?_
        refine va_get (D := (dC, dI)) (ci := 10) (v := .ref im) (C := RX10) (T := TX10) (N := 14) hx hb hg inG10 hown hK.1 hP 0 rfl rfl 3 (by decide) (hg _ wt_305) (fun _ h9 => h9) rfl dX10_back_26 ?_
        refine lv_iload_n hx hb dX10_back_29 rfl (lv_at hl 1 rfl) ?_
        refine va_aldq hx hb hK.1 hP 8 3 rfl rfl (vp_in_iff.mpr ⟨by decide, by decide⟩) dX10_back_30 ?_
        refine lv_cgv (y := .ref i1) (by rfl) ?_
        have hPc := hP.sub (ws' := [(wy, .inr (9, [.int (nI N), .int (nI B), .int (nI D), .ref a1, .ref a2, .ref a3, .ref a4, .ref a5, .ref a6])), (a1, .inl (G 0, 10, .inl f1)), (a2, .inl (G 0, 10, .inl f2)), (a3, .inl (G 0, 10, .inl f3)), (a4, .inl (G 0, 6, .inl f4)), (a5, .inl (G 0, 6, .inl f5)), (a6, .inl (G 0, 6, .inl f6)), (i1, .inr (9, [.int (nI N1), .int (nI B1), .int (nI D1), .ref id1, .ref id2, .ref id3, .ref id4, .ref id5, .ref id6])), (id1, .inl (G 0, 10, .inl idf1)), (id2, .inl (G 0, 10, .inl idf2)), (id3, .inl (G 0, 10, .inl idf3)), (id4, .inl (G 0, 6, .inl idf4)), (id5, .inl (G 0, 6, .inl idf5)), (id6, .inl (G 0, 6, .inl idf6))]) [1, 2, 3, 4, 5, 6, 7, 17, 18, 19, 20, 21, 22, 23] rfl
        have hDc := hD.sub (ws' := [(wy, .inr (9, [.int (nI N), .int (nI B), .int (nI D), .ref a1, .ref a2, .ref a3, .ref a4, .ref a5, .ref a6])), (a1, .inl (G 0, 10, .inl f1)), (a2, .inl (G 0, 10, .inl f2)), (a3, .inl (G 0, 10, .inl f3)), (a4, .inl (G 0, 6, .inl f4)), (a5, .inl (G 0, 6, .inl f5)), (a6, .inl (G 0, 6, .inl f6)), (i1, .inr (9, [.int (nI N1), .int (nI B1), .int (nI D1), .ref id1, .ref id2, .ref id3, .ref id4, .ref id5, .ref id6])), (id1, .inl (G 0, 10, .inl idf1)), (id2, .inl (G 0, 10, .inl idf2)), (id3, .inl (G 0, 10, .inl idf3)), (id4, .inl (G 0, 6, .inl idf4)), (id5, .inl (G 0, 6, .inl idf5)), (id6, .inl (G 0, 6, .inl idf6))]) [1, 2, 3, 4, 5, 6, 7, 17, 18, 19, 20, 21, 22, 23] (by decide) rfl
        have hFc := va_free (wc := [(wy, .inr (9, [.int (nI N), .int (nI B), .int (nI D), .ref a1, .ref a2, .ref a3, .ref a4, .ref a5, .ref a6])), (a1, .inl (G 0, 10, .inl f1)), (a2, .inl (G 0, 10, .inl f2)), (a3, .inl (G 0, 10, .inl f3)), (a4, .inl (G 0, 6, .inl f4)), (a5, .inl (G 0, 6, .inl f5)), (a6, .inl (G 0, 6, .inl f6)), (i1, .inr (9, [.int (nI N1), .int (nI B1), .int (nI D1), .ref id1, .ref id2, .ref id3, .ref id4, .ref id5, .ref id6])), (id1, .inl (G 0, 10, .inl idf1)), (id2, .inl (G 0, 10, .inl idf2)), (id3, .inl (G 0, 10, .inl idf3)), (id4, .inl (G 0, 6, .inl idf4)), (id5, .inl (G 0, 6, .inl idf5)), (id6, .inl (G 0, 6, .inl idf6))]) hD hS hA [1, 2, 3, 4, 5, 6, 7, 17, 18, 19, 20, 21, 22, 23] rfl
        refine va_callv (va_runVN (As := [.ref i1]) (rest := []) ⟨hx, hb, hml, hown, hg⟩ (c_X9_copyOfE l dC dI G _ wy i1 a1 a2 a3 a4 a5 a6 id1 id2 id3 id4 id5 id6 (nI N) (nI B) (nI D) (nI N1) (nI B1) (nI D1) f1 f2 f3 f4 f5 f6 idf1 idf2 idf3 idf4 idf5 idf6) (kwVN hg hK mfX9_copyOf wn_507 ⟨Nat.le_of_ble_eq_true rfl, Nat.le_of_ble_eq_true rfl⟩) (preVW hK hPc hDc (ci := 9) rfl rfl) rfl rfl hl.1 rfl (lv_room (Nat.le_of_ble_eq_true rfl)) dX10_back_31 ⟨Nat.le_of_ble_eq_true rfl, Nat.le_of_ble_eq_true rfl⟩) hS (fun q _ h => hFc q h) hFc (fun ur15 t H1 locs ht hvm w16 hB hz1 hk1 hS => ?_)
        obtain ⟨u17, u18, u19, u20, u21, u22⟩ := ur15
        obtain ⟨hP1, hD1⟩ := hB
        rw [ht] at hP1
        obtain ⟨hP, hD⟩ := va_join (wr := [(h0, .inr (10, [.ref rd, .ref wy, .ref tr, .ref im, .ref kp, .ref od, .ref ch, .ref cr, .ref le, .ref mk, .ref tl, .ref sh, .int tf, .int rf])), (im, .inl (G 3, 2, .inr (.inr (.inr (.inr (va_up (va_up (fun _ => none) 0 (some i0)) 1 (some i1))))))), (kp, .inl (G 2, 2, .inl fk)), (i0, .inr (9, [.int (nI N0), .int (nI B0), .int (nI D0), .ref ib1, .ref ib2, .ref ib3, .ref ib4, .ref ib5, .ref ib6])), (ib1, .inl (G 0, 10, .inl ibf1)), (ib2, .inl (G 0, 10, .inl ibf2)), (ib3, .inl (G 0, 10, .inl ibf3)), (ib4, .inl (G 0, 6, .inl ibf4)), (ib5, .inl (G 0, 6, .inl ibf5)), (ib6, .inl (G 0, 6, .inl ibf6))]) (w1 := [(wy, .inr (9, [.int (nI N1), .int (nI B1), .int (nI D1), .ref a1, .ref a2, .ref a3, .ref a4, .ref a5, .ref a6])), (a1, .inl (G 0, 10, .inl u17)), (a2, .inl (G 0, 10, .inl u18)), (a3, .inl (G 0, 10, .inl u19)), (a4, .inl (G 0, 6, .inl u20)), (a5, .inl (G 0, 6, .inl u21)), (a6, .inl (G 0, 6, .inl u22)), (i1, .inr (9, [.int (nI N1), .int (nI B1), .int (nI D1), .ref id1, .ref id2, .ref id3, .ref id4, .ref id5, .ref id6])), (id1, .inl (G 0, 10, .inl idf1)), (id2, .inl (G 0, 10, .inl idf2)), (id3, .inl (G 0, 10, .inl idf3)), (id4, .inl (G 0, 6, .inl idf4)), (id5, .inl (G 0, 6, .inl idf5)), (id6, .inl (G 0, 6, .inl idf6))]) hP hD [1, 2, 3, 4, 5, 6, 7, 17, 18, 19, 20, 21, 22, 23] [0, 8, 9, 10, 11, 12, 13, 14, 15, 16] rfl rfl (by decide) (by decide) hk1 hFc hP1 hD1
        have w16 : u17 = va_cpy idf1 f1 0 0 10 ∧ u18 = va_cpy idf2 f2 0 0 10 ∧ u19 = va_cpy idf3 f3 0 0 10 ∧ u20 = va_cpy idf4 f4 0 0 6 ∧ u21 = va_cpy idf5 f5 0 0 6 ∧ u22 = va_cpy idf6 f6 0 0 6 := w16
        generalize H1 = H at hP hS ⊢
        have hP : va_P (dC, dI) vwCl [(h0, .inr (10, [.ref rd, .ref wy, .ref tr, .ref im, .ref kp, .ref od, .ref ch, .ref cr, .ref le, .ref mk, .ref tl, .ref sh, .int tf, .int rf])), (im, .inl (G 3, 2, .inr (.inr (.inr (.inr (va_up (va_up (fun _ => none) 0 (some i0)) 1 (some i1))))))), (kp, .inl (G 2, 2, .inl fk)), (i0, .inr (9, [.int (nI N0), .int (nI B0), .int (nI D0), .ref ib1, .ref ib2, .ref ib3, .ref ib4, .ref ib5, .ref ib6])), (ib1, .inl (G 0, 10, .inl ibf1)), (ib2, .inl (G 0, 10, .inl ibf2)), (ib3, .inl (G 0, 10, .inl ibf3)), (ib4, .inl (G 0, 6, .inl ibf4)), (ib5, .inl (G 0, 6, .inl ibf5)), (ib6, .inl (G 0, 6, .inl ibf6)), (wy, .inr (9, [.int (nI N1), .int (nI B1), .int (nI D1), .ref a1, .ref a2, .ref a3, .ref a4, .ref a5, .ref a6])), (a1, .inl (G 0, 10, .inl u17)), (a2, .inl (G 0, 10, .inl u18)), (a3, .inl (G 0, 10, .inl u19)), (a4, .inl (G 0, 6, .inl u20)), (a5, .inl (G 0, 6, .inl u21)), (a6, .inl (G 0, 6, .inl u22)), (i1, .inr (9, [.int (nI N1), .int (nI B1), .int (nI D1), .ref id1, .ref id2, .ref id3, .ref id4, .ref id5, .ref id6])), (id1, .inl (G 0, 10, .inl idf1)), (id2, .inl (G 0, 10, .inl idf2)), (id3, .inl (G 0, 10, .inl idf3)), (id4, .inl (G 0, 6, .inl idf4)), (id5, .inl (G 0, 6, .inl idf5)), (id6, .inl (G 0, 6, .inl idf6))] H := hP
        have hD : va_D A [(h0, .inr (10, [.ref rd, .ref wy, .ref tr, .ref im, .ref kp, .ref od, .ref ch, .ref cr, .ref le, .ref mk, .ref tl, .ref sh, .int tf, .int rf])), (im, .inl (G 3, 2, .inr (.inr (.inr (.inr (va_up (va_up (fun _ => none) 0 (some i0)) 1 (some i1))))))), (kp, .inl (G 2, 2, .inl fk)), (i0, .inr (9, [.int (nI N0), .int (nI B0), .int (nI D0), .ref ib1, .ref ib2, .ref ib3, .ref ib4, .ref ib5, .ref ib6])), (ib1, .inl (G 0, 10, .inl ibf1)), (ib2, .inl (G 0, 10, .inl ibf2)), (ib3, .inl (G 0, 10, .inl ibf3)), (ib4, .inl (G 0, 6, .inl ibf4)), (ib5, .inl (G 0, 6, .inl ibf5)), (ib6, .inl (G 0, 6, .inl ibf6)), (wy, .inr (9, [.int (nI N1), .int (nI B1), .int (nI D1), .ref a1, .ref a2, .ref a3, .ref a4, .ref a5, .ref a6])), (a1, .inl (G 0, 10, .inl u17)), (a2, .inl (G 0, 10, .inl u18)), (a3, .inl (G 0, 10, .inl u19)), (a4, .inl (G 0, 6, .inl u20)), (a5, .inl (G 0, 6, .inl u21)), (a6, .inl (G 0, 6, .inl u22)), (i1, .inr (9, [.int (nI N1), .int (nI B1), .int (nI D1), .ref id1, .ref id2, .ref id3, .ref id4, .ref id5, .ref id6])), (id1, .inl (G 0, 10, .inl idf1)), (id2, .inl (G 0, 10, .inl idf2)), (id3, .inl (G 0, 10, .inl idf3)), (id4, .inl (G 0, 6, .inl idf4)), (id5, .inl (G 0, 6, .inl idf5)), (id6, .inl (G 0, 6, .inl idf6))] := hD
        refine lv_aload_n hx hb dX10_back_34 rfl (lv_at hl 0 rfl) ?_
        refine va_get (D := (dC, dI)) (ci := 10) (v := .ref wy) (C := RX10) (T := TX10) (N := 14) hx hb hg inG10 hown hK.1 hP 0 rfl rfl 1 (by decide) (hg _ wt_303) (fun _ h9 => h9) rfl dX10_back_35 ?_
        refine va_getN (D := (dC, dI)) (ci := 9) (v := .int (nI N1)) (C := RX9) (T := TX9) (N := 9) hx hb hg inG9 hown hK.1 hP 10 rfl rfl 0 (by decide) (hK.nest wn_60) (fun _ h9 => h9) rfl dX10_back_38 ?_
        have hpost : (nI N1 : Int32) = if (0 ≤ (1 : Int32).toInt ∧ (1 : Int32).toInt < 2) then (if fk (1 : Int32).toNatClampNeg = 0 then -2 else if (1 : Int32) = 0 then nI N0 else nI N1) else -1 := by
          have tn2796_ : nIT N := fun _ => nI_toInt (by omega)
          have tn2797_ : nIT B := fun _ => nI_toInt (by omega)
          have tn2798_ : nIT D := fun _ => nI_toInt (by omega)
          have tn2799_ : nIT N0 := fun _ => nI_toInt (by omega)
          have tn2800_ : nIT B0 := fun _ => nI_toInt (by omega)
          have tn2801_ : nIT D0 := fun _ => nI_toInt (by omega)
          have tn2802_ : nIT N1 := fun _ => nI_toInt (by omega)
          have tn2803_ : nIT B1 := fun _ => nI_toInt (by omega)
          have tn2804_ : nIT D1 := fun _ => nI_toInt (by omega)
          have k0 : (0 : Int32).toNatClampNeg = 0 := (by decide)
          have k1 : (1 : Int32).toNatClampNeg = 1 := (by decide)
          first | (rw [if_neg (by (have t_c14 := neI c14; have : (0 : Int32).toInt = 0 := qI_0; have t_n0 : (nI N).toInt = (N : Int) := tn2796_ (); have t_n1 : (nI B).toInt = (B : Int) := tn2797_ (); have t_n2 : (nI D).toInt = (D : Int) := tn2798_ (); have t_n3 : (nI N0).toInt = (N0 : Int) := tn2799_ (); have t_n4 : (nI B0).toInt = (B0 : Int) := tn2800_ (); have t_n5 : (nI D0).toInt = (D0 : Int) := tn2801_ (); have t_n6 : (nI N1).toInt = (N1 : Int) := tn2802_ (); have t_n7 : (nI B1).toInt = (B1 : Int) := tn2803_ (); have t_n8 : (nI D1).toInt = (D1 : Int) := tn2804_ (); have z0 : (0 : Int32).toInt = 0 := qI_0; have z1 : (1 : Int32).toInt = 1 := qI_1; have z2 : (2 : Int32).toInt = 2 := qI_2; have z3 : (3 : Int32).toInt = 3 := qI_3; have z5 : (5 : Int32).toInt = 5 := qI_5; have z9 : (9 : Int32).toInt = 9 := qI_9; have z20 : (20 : Int32).toInt = 20 := qI_20; have z4 : (-4 : Int32).toInt = -4 := (by decide); have z10 : (10 : Int32).toInt = 10 := qI_10; omega))]; done) | (rw [if_pos (by decide)]; (try rw [k0]); (try rw [k1]); first | (rw [if_pos (by assumption)]; done) | (rw [if_neg (by assumption)]; first | (rw [if_pos rfl]; done) | (rw [if_neg (by decide)]; done)))
        have hP9 := hP.sub (ws' := [(h0, .inr (10, [.ref rd, .ref wy, .ref tr, .ref im, .ref kp, .ref od, .ref ch, .ref cr, .ref le, .ref mk, .ref tl, .ref sh, .int tf, .int rf])), (wy, .inr (9, [.int (nI N1), .int (nI B1), .int (nI D1), .ref a1, .ref a2, .ref a3, .ref a4, .ref a5, .ref a6])), (a1, .inl (G 0, 10, .inl u17)), (a2, .inl (G 0, 10, .inl u18)), (a3, .inl (G 0, 10, .inl u19)), (a4, .inl (G 0, 6, .inl u20)), (a5, .inl (G 0, 6, .inl u21)), (a6, .inl (G 0, 6, .inl u22)), (im, .inl (G 3, 2, .inr (.inr (.inr (.inr (va_up (va_up (fun _ => none) 0 (some i0)) 1 (some i1))))))), (kp, .inl (G 2, 2, .inl fk)), (i0, .inr (9, [.int (nI N0), .int (nI B0), .int (nI D0), .ref ib1, .ref ib2, .ref ib3, .ref ib4, .ref ib5, .ref ib6])), (ib1, .inl (G 0, 10, .inl ibf1)), (ib2, .inl (G 0, 10, .inl ibf2)), (ib3, .inl (G 0, 10, .inl ibf3)), (ib4, .inl (G 0, 6, .inl ibf4)), (ib5, .inl (G 0, 6, .inl ibf5)), (ib6, .inl (G 0, 6, .inl ibf6)), (i1, .inr (9, [.int (nI N1), .int (nI B1), .int (nI D1), .ref id1, .ref id2, .ref id3, .ref id4, .ref id5, .ref id6])), (id1, .inl (G 0, 10, .inl idf1)), (id2, .inl (G 0, 10, .inl idf2)), (id3, .inl (G 0, 10, .inl idf3)), (id4, .inl (G 0, 6, .inl idf4)), (id5, .inl (G 0, 6, .inl idf5)), (id6, .inl (G 0, 6, .inl idf6))]) [0, 10, 11, 12, 13, 14, 15, 16, 1, 2, 3, 4, 5, 6, 7, 8, 9, 17, 18, 19, 20, 21, 22, 23] rfl
        have hD9 := hD.sub (ws' := [(h0, .inr (10, [.ref rd, .ref wy, .ref tr, .ref im, .ref kp, .ref od, .ref ch, .ref cr, .ref le, .ref mk, .ref tl, .ref sh, .int tf, .int rf])), (wy, .inr (9, [.int (nI N1), .int (nI B1), .int (nI D1), .ref a1, .ref a2, .ref a3, .ref a4, .ref a5, .ref a6])), (a1, .inl (G 0, 10, .inl u17)), (a2, .inl (G 0, 10, .inl u18)), (a3, .inl (G 0, 10, .inl u19)), (a4, .inl (G 0, 6, .inl u20)), (a5, .inl (G 0, 6, .inl u21)), (a6, .inl (G 0, 6, .inl u22)), (im, .inl (G 3, 2, .inr (.inr (.inr (.inr (va_up (va_up (fun _ => none) 0 (some i0)) 1 (some i1))))))), (kp, .inl (G 2, 2, .inl fk)), (i0, .inr (9, [.int (nI N0), .int (nI B0), .int (nI D0), .ref ib1, .ref ib2, .ref ib3, .ref ib4, .ref ib5, .ref ib6])), (ib1, .inl (G 0, 10, .inl ibf1)), (ib2, .inl (G 0, 10, .inl ibf2)), (ib3, .inl (G 0, 10, .inl ibf3)), (ib4, .inl (G 0, 6, .inl ibf4)), (ib5, .inl (G 0, 6, .inl ibf5)), (ib6, .inl (G 0, 6, .inl ibf6)), (i1, .inr (9, [.int (nI N1), .int (nI B1), .int (nI D1), .ref id1, .ref id2, .ref id3, .ref id4, .ref id5, .ref id6])), (id1, .inl (G 0, 10, .inl idf1)), (id2, .inl (G 0, 10, .inl idf2)), (id3, .inl (G 0, 10, .inl idf3)), (id4, .inl (G 0, 6, .inl idf4)), (id5, .inl (G 0, 6, .inl idf5)), (id6, .inl (G 0, 6, .inl idf6))]) [0, 10, 11, 12, 13, 14, 15, 16, 1, 2, 3, 4, 5, 6, 7, 8, 9, 17, 18, 19, 20, 21, 22, 23] (by decide) rfl
        refine W.widen (k := 0) (n := 0) (Nat.le_of_ble_eq_true rfl) (Nat.le_of_ble_eq_true rfl) ?_
        have tn2805_ : nIT N := fun _ => nI_toInt (by first | omega | (have t_c14 := neI c14; have : (0 : Int32).toInt = 0 := qI_0; omega))
        have tn2806_ : nIT B := fun _ => nI_toInt (by first | omega | (have t_c14 := neI c14; have : (0 : Int32).toInt = 0 := qI_0; omega))
        have tn2807_ : nIT D := fun _ => nI_toInt (by first | omega | (have t_c14 := neI c14; have : (0 : Int32).toInt = 0 := qI_0; omega))
        have tn2808_ : nIT N0 := fun _ => nI_toInt (by first | omega | (have t_c14 := neI c14; have : (0 : Int32).toInt = 0 := qI_0; omega))
        have tn2809_ : nIT B0 := fun _ => nI_toInt (by first | omega | (have t_c14 := neI c14; have : (0 : Int32).toInt = 0 := qI_0; omega))
        have tn2810_ : nIT D0 := fun _ => nI_toInt (by first | omega | (have t_c14 := neI c14; have : (0 : Int32).toInt = 0 := qI_0; omega))
        have tn2811_ : nIT N1 := fun _ => nI_toInt (by first | omega | (have t_c14 := neI c14; have : (0 : Int32).toInt = 0 := qI_0; omega))
        have tn2812_ : nIT B1 := fun _ => nI_toInt (by first | omega | (have t_c14 := neI c14; have : (0 : Int32).toInt = 0 := qI_0; omega))
        have tn2813_ : nIT D1 := fun _ => nI_toInt (by first | omega | (have t_c14 := neI c14; have : (0 : Int32).toInt = 0 := qI_0; omega))
        exact W.iret (v := nI N1) hx hb hr (fun t ht hW => ⟨⟨nI N1, (N1, B1, D1, u17, u18, u19, u20, u21, u22), rfl, ⟨hpost, (by have k0 : (0 : Int32).toNatClampNeg = 0 := (by decide); have k1 : (1 : Int32).toNatClampNeg = 1 := (by decide); refine ⟨⟨by (have t_c14 := neI c14; have : (0 : Int32).toInt = 0 := qI_0; have t_n0 : (nI N).toInt = (N : Int) := tn2805_ (); have t_n1 : (nI B).toInt = (B : Int) := tn2806_ (); have t_n2 : (nI D).toInt = (D : Int) := tn2807_ (); have t_n3 : (nI N0).toInt = (N0 : Int) := tn2808_ (); have t_n4 : (nI B0).toInt = (B0 : Int) := tn2809_ (); have t_n5 : (nI D0).toInt = (D0 : Int) := tn2810_ (); have t_n6 : (nI N1).toInt = (N1 : Int) := tn2811_ (); have t_n7 : (nI B1).toInt = (B1 : Int) := tn2812_ (); have t_n8 : (nI D1).toInt = (D1 : Int) := tn2813_ (); have z0 : (0 : Int32).toInt = 0 := qI_0; have z1 : (1 : Int32).toInt = 1 := qI_1; have z2 : (2 : Int32).toInt = 2 := qI_2; have z3 : (3 : Int32).toInt = 3 := qI_3; have z5 : (5 : Int32).toInt = 5 := qI_5; have z9 : (9 : Int32).toInt = 9 := qI_9; have z20 : (20 : Int32).toInt = 20 := qI_20; have z4 : (-4 : Int32).toInt = -4 := (by decide); have z10 : (10 : Int32).toInt = 10 := qI_10; omega), by (have t_c14 := neI c14; have : (0 : Int32).toInt = 0 := qI_0; have t_n0 : (nI N).toInt = (N : Int) := tn2805_ (); have t_n1 : (nI B).toInt = (B : Int) := tn2806_ (); have t_n2 : (nI D).toInt = (D : Int) := tn2807_ (); have t_n3 : (nI N0).toInt = (N0 : Int) := tn2808_ (); have t_n4 : (nI B0).toInt = (B0 : Int) := tn2809_ (); have t_n5 : (nI D0).toInt = (D0 : Int) := tn2810_ (); have t_n6 : (nI N1).toInt = (N1 : Int) := tn2811_ (); have t_n7 : (nI B1).toInt = (B1 : Int) := tn2812_ (); have t_n8 : (nI D1).toInt = (D1 : Int) := tn2813_ (); have z0 : (0 : Int32).toInt = 0 := qI_0; have z1 : (1 : Int32).toInt = 1 := qI_1; have z2 : (2 : Int32).toInt = 2 := qI_2; have z3 : (3 : Int32).toInt = 3 := qI_3; have z5 : (5 : Int32).toInt = 5 := qI_5; have z9 : (9 : Int32).toInt = 9 := qI_9; have z20 : (20 : Int32).toInt = 20 := qI_20; have z4 : (-4 : Int32).toInt = -4 := (by decide); have z10 : (10 : Int32).toInt = 10 := qI_10; omega), by (have t_c14 := neI c14; have : (0 : Int32).toInt = 0 := qI_0; have t_n0 : (nI N).toInt = (N : Int) := tn2805_ (); have t_n1 : (nI B).toInt = (B : Int) := tn2806_ (); have t_n2 : (nI D).toInt = (D : Int) := tn2807_ (); have t_n3 : (nI N0).toInt = (N0 : Int) := tn2808_ (); have t_n4 : (nI B0).toInt = (B0 : Int) := tn2809_ (); have t_n5 : (nI D0).toInt = (D0 : Int) := tn2810_ (); have t_n6 : (nI N1).toInt = (N1 : Int) := tn2811_ (); have t_n7 : (nI B1).toInt = (B1 : Int) := tn2812_ (); have t_n8 : (nI D1).toInt = (D1 : Int) := tn2813_ (); have z0 : (0 : Int32).toInt = 0 := qI_0; have z1 : (1 : Int32).toInt = 1 := qI_1; have z2 : (2 : Int32).toInt = 2 := qI_2; have z3 : (3 : Int32).toInt = 3 := qI_3; have z5 : (5 : Int32).toInt = 5 := qI_5; have z9 : (9 : Int32).toInt = 9 := qI_9; have z20 : (20 : Int32).toInt = 20 := qI_20; have z4 : (-4 : Int32).toInt = -4 := (by decide); have z10 : (10 : Int32).toInt = 10 := qI_10; omega), by (have t_c14 := neI c14; have : (0 : Int32).toInt = 0 := qI_0; have t_n0 : (nI N).toInt = (N : Int) := tn2805_ (); have t_n1 : (nI B).toInt = (B : Int) := tn2806_ (); have t_n2 : (nI D).toInt = (D : Int) := tn2807_ (); have t_n3 : (nI N0).toInt = (N0 : Int) := tn2808_ (); have t_n4 : (nI B0).toInt = (B0 : Int) := tn2809_ (); have t_n5 : (nI D0).toInt = (D0 : Int) := tn2810_ (); have t_n6 : (nI N1).toInt = (N1 : Int) := tn2811_ (); have t_n7 : (nI B1).toInt = (B1 : Int) := tn2812_ (); have t_n8 : (nI D1).toInt = (D1 : Int) := tn2813_ (); have z0 : (0 : Int32).toInt = 0 := qI_0; have z1 : (1 : Int32).toInt = 1 := qI_1; have z2 : (2 : Int32).toInt = 2 := qI_2; have z3 : (3 : Int32).toInt = 3 := qI_3; have z5 : (5 : Int32).toInt = 5 := qI_5; have z9 : (9 : Int32).toInt = 9 := qI_9; have z20 : (20 : Int32).toInt = 20 := qI_20; have z4 : (-4 : Int32).toInt = -4 := (by decide); have z10 : (10 : Int32).toInt = 10 := qI_10; omega)⟩, ?_, ?_, ?_, ?_, ?_, ?_, ?_, ?_, ?_⟩ <;> (first | (rw [if_pos ⟨rfl, by assumption⟩]; first | done | rfl | exact w16.1 | exact w16.2.1 | exact w16.2.2.1 | exact w16.2.2.2.1 | exact w16.2.2.2.2.1 | exact w16.2.2.2.2.2) | (rw [if_neg (fun h9 => absurd h9.1 (by decide)), if_pos ⟨rfl, by assumption⟩]; first | done | rfl | exact w16.1 | exact w16.2.1 | exact w16.2.2.1 | exact w16.2.2.2.1 | exact w16.2.2.2.2.1 | exact w16.2.2.2.2.2) | (rw [if_neg (fun h9 => h9.2 (by assumption)), if_neg (fun h9 => absurd h9.1 (by decide))]; done) | (rw [if_neg (fun h9 => absurd h9.1 (by decide)), if_neg (fun h9 => h9.2 (by assumption))]; done) | (rw [if_neg (fun h9 => by have e8 := congrArg Int32.toInt h9.1; (have t_c14 := neI c14; have : (0 : Int32).toInt = 0 := qI_0; have t_n0 : (nI N).toInt = (N : Int) := tn2805_ (); have t_n1 : (nI B).toInt = (B : Int) := tn2806_ (); have t_n2 : (nI D).toInt = (D : Int) := tn2807_ (); have t_n3 : (nI N0).toInt = (N0 : Int) := tn2808_ (); have t_n4 : (nI B0).toInt = (B0 : Int) := tn2809_ (); have t_n5 : (nI D0).toInt = (D0 : Int) := tn2810_ (); have t_n6 : (nI N1).toInt = (N1 : Int) := tn2811_ (); have t_n7 : (nI B1).toInt = (B1 : Int) := tn2812_ (); have t_n8 : (nI D1).toInt = (D1 : Int) := tn2813_ (); have z0 : (0 : Int32).toInt = 0 := qI_0; have z1 : (1 : Int32).toInt = 1 := qI_1; have z2 : (2 : Int32).toInt = 2 := qI_2; have z3 : (3 : Int32).toInt = 3 := qI_3; have z5 : (5 : Int32).toInt = 5 := qI_5; have z9 : (9 : Int32).toInt = 9 := qI_9; have z20 : (20 : Int32).toInt = 20 := qI_20; have z4 : (-4 : Int32).toInt = -4 := (by decide); have z10 : (10 : Int32).toInt = 10 := qI_10; omega)), if_neg (fun h9 => by have e8 := congrArg Int32.toInt h9.1; (have t_c14 := neI c14; have : (0 : Int32).toInt = 0 := qI_0; have t_n0 : (nI N).toInt = (N : Int) := tn2805_ (); have t_n1 : (nI B).toInt = (B : Int) := tn2806_ (); have t_n2 : (nI D).toInt = (D : Int) := tn2807_ (); have t_n3 : (nI N0).toInt = (N0 : Int) := tn2808_ (); have t_n4 : (nI B0).toInt = (B0 : Int) := tn2809_ (); have t_n5 : (nI D0).toInt = (D0 : Int) := tn2810_ (); have t_n6 : (nI N1).toInt = (N1 : Int) := tn2811_ (); have t_n7 : (nI B1).toInt = (B1 : Int) := tn2812_ (); have t_n8 : (nI D1).toInt = (D1 : Int) := tn2813_ (); have z0 : (0 : Int32).toInt = 0 := qI_0; have z1 : (1 : Int32).toInt = 1 := qI_1; have z2 : (2 : Int32).toInt = 2 := qI_2; have z3 : (3 : Int32).toInt = 3 := qI_3; have z5 : (5 : Int32).toInt = 5 := qI_5; have z9 : (9 : Int32).toInt = 9 := qI_9; have z20 : (20 : Int32).toInt = 20 := qI_20; have z4 : (-4 : Int32).toInt = -4 := (by decide); have z10 : (10 : Int32).toInt = 10 := qI_10; omega))]; done)))⟩, ⟨by rw [ht]; exact hP9, hD9⟩⟩, hS.F ht⟩) hS.2.2 dX10_back_41
      · skip
        refine lv_bipush (v := (-2)) hx hb dX10_back_18 (by decide) ?_
        have hpost : ((-2) : Int32) = if (0 ≤ (1 : Int32).toInt ∧ (1 : Int32).toInt < 2) then (if fk (1 : Int32).toNatClampNeg = 0 then -2 else if (1 : Int32) = 0 then nI N0 else nI N1) else -1 := by
          have tn2814_ : nIT N := fun _ => nI_toInt (by omega)
          have tn2815_ : nIT B := fun _ => nI_toInt (by omega)
          have tn2816_ : nIT D := fun _ => nI_toInt (by omega)
          have tn2817_ : nIT N0 := fun _ => nI_toInt (by omega)
          have tn2818_ : nIT B0 := fun _ => nI_toInt (by omega)
          have tn2819_ : nIT D0 := fun _ => nI_toInt (by omega)
          have tn2820_ : nIT N1 := fun _ => nI_toInt (by omega)
          have tn2821_ : nIT B1 := fun _ => nI_toInt (by omega)
          have tn2822_ : nIT D1 := fun _ => nI_toInt (by omega)
          have k0 : (0 : Int32).toNatClampNeg = 0 := (by decide)
          have k1 : (1 : Int32).toNatClampNeg = 1 := (by decide)
          first | (rw [if_neg (by (have t_c14 := eqI c14; have : (0 : Int32).toInt = 0 := qI_0; have t_n0 : (nI N).toInt = (N : Int) := tn2814_ (); have t_n1 : (nI B).toInt = (B : Int) := tn2815_ (); have t_n2 : (nI D).toInt = (D : Int) := tn2816_ (); have t_n3 : (nI N0).toInt = (N0 : Int) := tn2817_ (); have t_n4 : (nI B0).toInt = (B0 : Int) := tn2818_ (); have t_n5 : (nI D0).toInt = (D0 : Int) := tn2819_ (); have t_n6 : (nI N1).toInt = (N1 : Int) := tn2820_ (); have t_n7 : (nI B1).toInt = (B1 : Int) := tn2821_ (); have t_n8 : (nI D1).toInt = (D1 : Int) := tn2822_ (); have z0 : (0 : Int32).toInt = 0 := qI_0; have z1 : (1 : Int32).toInt = 1 := qI_1; have z2 : (2 : Int32).toInt = 2 := qI_2; have z3 : (3 : Int32).toInt = 3 := qI_3; have z5 : (5 : Int32).toInt = 5 := qI_5; have z9 : (9 : Int32).toInt = 9 := qI_9; have z20 : (20 : Int32).toInt = 20 := qI_20; have z4 : (-4 : Int32).toInt = -4 := (by decide); have z10 : (10 : Int32).toInt = 10 := qI_10; omega))]; done) | (rw [if_pos (by decide)]; (try rw [k0]); (try rw [k1]); first | (rw [if_pos (by assumption)]; done) | (rw [if_neg (by assumption)]; first | (rw [if_pos rfl]; done) | (rw [if_neg (by decide)]; done)))
        have hP9 := hP.sub (ws' := [(h0, .inr (10, [.ref rd, .ref wy, .ref tr, .ref im, .ref kp, .ref od, .ref ch, .ref cr, .ref le, .ref mk, .ref tl, .ref sh, .int tf, .int rf])), (wy, .inr (9, [.int (nI N), .int (nI B), .int (nI D), .ref a1, .ref a2, .ref a3, .ref a4, .ref a5, .ref a6])), (a1, .inl (G 0, 10, .inl f1)), (a2, .inl (G 0, 10, .inl f2)), (a3, .inl (G 0, 10, .inl f3)), (a4, .inl (G 0, 6, .inl f4)), (a5, .inl (G 0, 6, .inl f5)), (a6, .inl (G 0, 6, .inl f6)), (im, .inl (G 3, 2, .inr (.inr (.inr (.inr (va_up (va_up (fun _ => none) 0 (some i0)) 1 (some i1))))))), (kp, .inl (G 2, 2, .inl fk)), (i0, .inr (9, [.int (nI N0), .int (nI B0), .int (nI D0), .ref ib1, .ref ib2, .ref ib3, .ref ib4, .ref ib5, .ref ib6])), (ib1, .inl (G 0, 10, .inl ibf1)), (ib2, .inl (G 0, 10, .inl ibf2)), (ib3, .inl (G 0, 10, .inl ibf3)), (ib4, .inl (G 0, 6, .inl ibf4)), (ib5, .inl (G 0, 6, .inl ibf5)), (ib6, .inl (G 0, 6, .inl ibf6)), (i1, .inr (9, [.int (nI N1), .int (nI B1), .int (nI D1), .ref id1, .ref id2, .ref id3, .ref id4, .ref id5, .ref id6])), (id1, .inl (G 0, 10, .inl idf1)), (id2, .inl (G 0, 10, .inl idf2)), (id3, .inl (G 0, 10, .inl idf3)), (id4, .inl (G 0, 6, .inl idf4)), (id5, .inl (G 0, 6, .inl idf5)), (id6, .inl (G 0, 6, .inl idf6))]) [0, 1, 2, 3, 4, 5, 6, 7, 8, 9, 10, 11, 12, 13, 14, 15, 16, 17, 18, 19, 20, 21, 22, 23] rfl
        have hD9 := hD.sub (ws' := [(h0, .inr (10, [.ref rd, .ref wy, .ref tr, .ref im, .ref kp, .ref od, .ref ch, .ref cr, .ref le, .ref mk, .ref tl, .ref sh, .int tf, .int rf])), (wy, .inr (9, [.int (nI N), .int (nI B), .int (nI D), .ref a1, .ref a2, .ref a3, .ref a4, .ref a5, .ref a6])), (a1, .inl (G 0, 10, .inl f1)), (a2, .inl (G 0, 10, .inl f2)), (a3, .inl (G 0, 10, .inl f3)), (a4, .inl (G 0, 6, .inl f4)), (a5, .inl (G 0, 6, .inl f5)), (a6, .inl (G 0, 6, .inl f6)), (im, .inl (G 3, 2, .inr (.inr (.inr (.inr (va_up (va_up (fun _ => none) 0 (some i0)) 1 (some i1))))))), (kp, .inl (G 2, 2, .inl fk)), (i0, .inr (9, [.int (nI N0), .int (nI B0), .int (nI D0), .ref ib1, .ref ib2, .ref ib3, .ref ib4, .ref ib5, .ref ib6])), (ib1, .inl (G 0, 10, .inl ibf1)), (ib2, .inl (G 0, 10, .inl ibf2)), (ib3, .inl (G 0, 10, .inl ibf3)), (ib4, .inl (G 0, 6, .inl ibf4)), (ib5, .inl (G 0, 6, .inl ibf5)), (ib6, .inl (G 0, 6, .inl ibf6)), (i1, .inr (9, [.int (nI N1), .int (nI B1), .int (nI D1), .ref id1, .ref id2, .ref id3, .ref id4, .ref id5, .ref id6])), (id1, .inl (G 0, 10, .inl idf1)), (id2, .inl (G 0, 10, .inl idf2)), (id3, .inl (G 0, 10, .inl idf3)), (id4, .inl (G 0, 6, .inl idf4)), (id5, .inl (G 0, 6, .inl idf5)), (id6, .inl (G 0, 6, .inl idf6))]) [0, 1, 2, 3, 4, 5, 6, 7, 8, 9, 10, 11, 12, 13, 14, 15, 16, 17, 18, 19, 20, 21, 22, 23] (by decide) rfl
        refine W.widen (k := 0) (n := 0) (Nat.le_of_ble_eq_true rfl) (Nat.le_of_ble_eq_true rfl) ?_
        have tn2823_ : nIT N := fun _ => nI_toInt (by first | omega | (have t_c14 := eqI c14; have : (0 : Int32).toInt = 0 := qI_0; omega))
        have tn2824_ : nIT B := fun _ => nI_toInt (by first | omega | (have t_c14 := eqI c14; have : (0 : Int32).toInt = 0 := qI_0; omega))
        have tn2825_ : nIT D := fun _ => nI_toInt (by first | omega | (have t_c14 := eqI c14; have : (0 : Int32).toInt = 0 := qI_0; omega))
        have tn2826_ : nIT N0 := fun _ => nI_toInt (by first | omega | (have t_c14 := eqI c14; have : (0 : Int32).toInt = 0 := qI_0; omega))
        have tn2827_ : nIT B0 := fun _ => nI_toInt (by first | omega | (have t_c14 := eqI c14; have : (0 : Int32).toInt = 0 := qI_0; omega))
        have tn2828_ : nIT D0 := fun _ => nI_toInt (by first | omega | (have t_c14 := eqI c14; have : (0 : Int32).toInt = 0 := qI_0; omega))
        have tn2829_ : nIT N1 := fun _ => nI_toInt (by first | omega | (have t_c14 := eqI c14; have : (0 : Int32).toInt = 0 := qI_0; omega))
        have tn2830_ : nIT B1 := fun _ => nI_toInt (by first | omega | (have t_c14 := eqI c14; have : (0 : Int32).toInt = 0 := qI_0; omega))
        have tn2831_ : nIT D1 := fun _ => nI_toInt (by first | omega | (have t_c14 := eqI c14; have : (0 : Int32).toInt = 0 := qI_0; omega))
        exact W.iret (v := (-2)) hx hb hr (fun t ht hW => ⟨⟨(-2), (N, B, D, f1, f2, f3, f4, f5, f6), rfl, ⟨hpost, (by have k0 : (0 : Int32).toNatClampNeg = 0 := (by decide); have k1 : (1 : Int32).toNatClampNeg = 1 := (by decide); refine ⟨⟨by (have t_c14 := eqI c14; have : (0 : Int32).toInt = 0 := qI_0; have t_n0 : (nI N).toInt = (N : Int) := tn2823_ (); have t_n1 : (nI B).toInt = (B : Int) := tn2824_ (); have t_n2 : (nI D).toInt = (D : Int) := tn2825_ (); have t_n3 : (nI N0).toInt = (N0 : Int) := tn2826_ (); have t_n4 : (nI B0).toInt = (B0 : Int) := tn2827_ (); have t_n5 : (nI D0).toInt = (D0 : Int) := tn2828_ (); have t_n6 : (nI N1).toInt = (N1 : Int) := tn2829_ (); have t_n7 : (nI B1).toInt = (B1 : Int) := tn2830_ (); have t_n8 : (nI D1).toInt = (D1 : Int) := tn2831_ (); have z0 : (0 : Int32).toInt = 0 := qI_0; have z1 : (1 : Int32).toInt = 1 := qI_1; have z2 : (2 : Int32).toInt = 2 := qI_2; have z3 : (3 : Int32).toInt = 3 := qI_3; have z5 : (5 : Int32).toInt = 5 := qI_5; have z9 : (9 : Int32).toInt = 9 := qI_9; have z20 : (20 : Int32).toInt = 20 := qI_20; have z4 : (-4 : Int32).toInt = -4 := (by decide); have z10 : (10 : Int32).toInt = 10 := qI_10; omega), by (have t_c14 := eqI c14; have : (0 : Int32).toInt = 0 := qI_0; have t_n0 : (nI N).toInt = (N : Int) := tn2823_ (); have t_n1 : (nI B).toInt = (B : Int) := tn2824_ (); have t_n2 : (nI D).toInt = (D : Int) := tn2825_ (); have t_n3 : (nI N0).toInt = (N0 : Int) := tn2826_ (); have t_n4 : (nI B0).toInt = (B0 : Int) := tn2827_ (); have t_n5 : (nI D0).toInt = (D0 : Int) := tn2828_ (); have t_n6 : (nI N1).toInt = (N1 : Int) := tn2829_ (); have t_n7 : (nI B1).toInt = (B1 : Int) := tn2830_ (); have t_n8 : (nI D1).toInt = (D1 : Int) := tn2831_ (); have z0 : (0 : Int32).toInt = 0 := qI_0; have z1 : (1 : Int32).toInt = 1 := qI_1; have z2 : (2 : Int32).toInt = 2 := qI_2; have z3 : (3 : Int32).toInt = 3 := qI_3; have z5 : (5 : Int32).toInt = 5 := qI_5; have z9 : (9 : Int32).toInt = 9 := qI_9; have z20 : (20 : Int32).toInt = 20 := qI_20; have z4 : (-4 : Int32).toInt = -4 := (by decide); have z10 : (10 : Int32).toInt = 10 := qI_10; omega), by (have t_c14 := eqI c14; have : (0 : Int32).toInt = 0 := qI_0; have t_n0 : (nI N).toInt = (N : Int) := tn2823_ (); have t_n1 : (nI B).toInt = (B : Int) := tn2824_ (); have t_n2 : (nI D).toInt = (D : Int) := tn2825_ (); have t_n3 : (nI N0).toInt = (N0 : Int) := tn2826_ (); have t_n4 : (nI B0).toInt = (B0 : Int) := tn2827_ (); have t_n5 : (nI D0).toInt = (D0 : Int) := tn2828_ (); have t_n6 : (nI N1).toInt = (N1 : Int) := tn2829_ (); have t_n7 : (nI B1).toInt = (B1 : Int) := tn2830_ (); have t_n8 : (nI D1).toInt = (D1 : Int) := tn2831_ (); have z0 : (0 : Int32).toInt = 0 := qI_0; have z1 : (1 : Int32).toInt = 1 := qI_1; have z2 : (2 : Int32).toInt = 2 := qI_2; have z3 : (3 : Int32).toInt = 3 := qI_3; have z5 : (5 : Int32).toInt = 5 := qI_5; have z9 : (9 : Int32).toInt = 9 := qI_9; have z20 : (20 : Int32).toInt = 20 := qI_20; have z4 : (-4 : Int32).toInt = -4 := (by decide); have z10 : (10 : Int32).toInt = 10 := qI_10; omega), by (have t_c14 := eqI c14; have : (0 : Int32).toInt = 0 := qI_0; have t_n0 : (nI N).toInt = (N : Int) := tn2823_ (); have t_n1 : (nI B).toInt = (B : Int) := tn2824_ (); have t_n2 : (nI D).toInt = (D : Int) := tn2825_ (); have t_n3 : (nI N0).toInt = (N0 : Int) := tn2826_ (); have t_n4 : (nI B0).toInt = (B0 : Int) := tn2827_ (); have t_n5 : (nI D0).toInt = (D0 : Int) := tn2828_ (); have t_n6 : (nI N1).toInt = (N1 : Int) := tn2829_ (); have t_n7 : (nI B1).toInt = (B1 : Int) := tn2830_ (); have t_n8 : (nI D1).toInt = (D1 : Int) := tn2831_ (); have z0 : (0 : Int32).toInt = 0 := qI_0; have z1 : (1 : Int32).toInt = 1 := qI_1; have z2 : (2 : Int32).toInt = 2 := qI_2; have z3 : (3 : Int32).toInt = 3 := qI_3; have z5 : (5 : Int32).toInt = 5 := qI_5; have z9 : (9 : Int32).toInt = 9 := qI_9; have z20 : (20 : Int32).toInt = 20 := qI_20; have z4 : (-4 : Int32).toInt = -4 := (by decide); have z10 : (10 : Int32).toInt = 10 := qI_10; omega)⟩, ?_, ?_, ?_, ?_, ?_, ?_, ?_, ?_, ?_⟩ <;> (first | (rw [if_pos ⟨rfl, by assumption⟩]; first | done | rfl) | (rw [if_neg (fun h9 => absurd h9.1 (by decide)), if_pos ⟨rfl, by assumption⟩]; first | done | rfl) | (rw [if_neg (fun h9 => h9.2 (by assumption)), if_neg (fun h9 => absurd h9.1 (by decide))]; done) | (rw [if_neg (fun h9 => absurd h9.1 (by decide)), if_neg (fun h9 => h9.2 (by assumption))]; done) | (rw [if_neg (fun h9 => by have e8 := congrArg Int32.toInt h9.1; (have t_c14 := eqI c14; have : (0 : Int32).toInt = 0 := qI_0; have t_n0 : (nI N).toInt = (N : Int) := tn2823_ (); have t_n1 : (nI B).toInt = (B : Int) := tn2824_ (); have t_n2 : (nI D).toInt = (D : Int) := tn2825_ (); have t_n3 : (nI N0).toInt = (N0 : Int) := tn2826_ (); have t_n4 : (nI B0).toInt = (B0 : Int) := tn2827_ (); have t_n5 : (nI D0).toInt = (D0 : Int) := tn2828_ (); have t_n6 : (nI N1).toInt = (N1 : Int) := tn2829_ (); have t_n7 : (nI B1).toInt = (B1 : Int) := tn2830_ (); have t_n8 : (nI D1).toInt = (D1 : Int) := tn2831_ (); have z0 : (0 : Int32).toInt = 0 := qI_0; have z1 : (1 : Int32).toInt = 1 := qI_1; have z2 : (2 : Int32).toInt = 2 := qI_2; have z3 : (3 : Int32).toInt = 3 := qI_3; have z5 : (5 : Int32).toInt = 5 := qI_5; have z9 : (9 : Int32).toInt = 9 := qI_9; have z20 : (20 : Int32).toInt = 20 := qI_20; have z4 : (-4 : Int32).toInt = -4 := (by decide); have z10 : (10 : Int32).toInt = 10 := qI_10; omega)), if_neg (fun h9 => by have e8 := congrArg Int32.toInt h9.1; (have t_c14 := eqI c14; have : (0 : Int32).toInt = 0 := qI_0; have t_n0 : (nI N).toInt = (N : Int) := tn2823_ (); have t_n1 : (nI B).toInt = (B : Int) := tn2824_ (); have t_n2 : (nI D).toInt = (D : Int) := tn2825_ (); have t_n3 : (nI N0).toInt = (N0 : Int) := tn2826_ (); have t_n4 : (nI B0).toInt = (B0 : Int) := tn2827_ (); have t_n5 : (nI D0).toInt = (D0 : Int) := tn2828_ (); have t_n6 : (nI N1).toInt = (N1 : Int) := tn2829_ (); have t_n7 : (nI B1).toInt = (B1 : Int) := tn2830_ (); have t_n8 : (nI D1).toInt = (D1 : Int) := tn2831_ (); have z0 : (0 : Int32).toInt = 0 := qI_0; have z1 : (1 : Int32).toInt = 1 := qI_1; have z2 : (2 : Int32).toInt = 2 := qI_2; have z3 : (3 : Int32).toInt = 3 := qI_3; have z5 : (5 : Int32).toInt = 5 := qI_5; have z9 : (9 : Int32).toInt = 9 := qI_9; have z20 : (20 : Int32).toInt = 20 := qI_20; have z4 : (-4 : Int32).toInt = -4 := (by decide); have z10 : (10 : Int32).toInt = 10 := qI_10; omega))]; done)))⟩, ⟨by rw [ht]; exact hP9, hD9⟩⟩, hS.F ht⟩) hS.2.2 dX10_back_20
  · skip
    have b23 := if10_n c3
    refine lv_iconst (v := (-1)) hx hb dX10_back_7 (by decide) ?_
    have hpost : ((-1) : Int32) = if (0 ≤ k.toInt ∧ k.toInt < 2) then (if fk k.toNatClampNeg = 0 then -2 else if k = 0 then nI N0 else nI N1) else -1 := by
      have tn2832_ : nIT N := fun _ => nI_toInt (by omega)
      have tn2833_ : nIT B := fun _ => nI_toInt (by omega)
      have tn2834_ : nIT D := fun _ => nI_toInt (by omega)
      have tn2835_ : nIT N0 := fun _ => nI_toInt (by omega)
      have tn2836_ : nIT B0 := fun _ => nI_toInt (by omega)
      have tn2837_ : nIT D0 := fun _ => nI_toInt (by omega)
      have tn2838_ : nIT N1 := fun _ => nI_toInt (by omega)
      have tn2839_ : nIT B1 := fun _ => nI_toInt (by omega)
      have tn2840_ : nIT D1 := fun _ => nI_toInt (by omega)
      have k0 : (0 : Int32).toNatClampNeg = 0 := (by decide)
      have k1 : (1 : Int32).toNatClampNeg = 1 := (by decide)
      first | (rw [if_neg (by (have t_b23 := b23; have t_n0 : (nI N).toInt = (N : Int) := tn2832_ (); have t_n1 : (nI B).toInt = (B : Int) := tn2833_ (); have t_n2 : (nI D).toInt = (D : Int) := tn2834_ (); have t_n3 : (nI N0).toInt = (N0 : Int) := tn2835_ (); have t_n4 : (nI B0).toInt = (B0 : Int) := tn2836_ (); have t_n5 : (nI D0).toInt = (D0 : Int) := tn2837_ (); have t_n6 : (nI N1).toInt = (N1 : Int) := tn2838_ (); have t_n7 : (nI B1).toInt = (B1 : Int) := tn2839_ (); have t_n8 : (nI D1).toInt = (D1 : Int) := tn2840_ (); have z0 : (0 : Int32).toInt = 0 := qI_0; have z1 : (1 : Int32).toInt = 1 := qI_1; have z2 : (2 : Int32).toInt = 2 := qI_2; have z3 : (3 : Int32).toInt = 3 := qI_3; have z5 : (5 : Int32).toInt = 5 := qI_5; have z9 : (9 : Int32).toInt = 9 := qI_9; have z20 : (20 : Int32).toInt = 20 := qI_20; have z4 : (-4 : Int32).toInt = -4 := (by decide); have z10 : (10 : Int32).toInt = 10 := qI_10; omega))]; done) | (rw [if_pos (by decide)]; (try rw [k0]); (try rw [k1]); first | (rw [if_pos (by assumption)]; done) | (rw [if_neg (by assumption)]; first | (rw [if_pos rfl]; done) | (rw [if_neg (by decide)]; done)))
    have hP9 := hP.sub (ws' := [(h0, .inr (10, [.ref rd, .ref wy, .ref tr, .ref im, .ref kp, .ref od, .ref ch, .ref cr, .ref le, .ref mk, .ref tl, .ref sh, .int tf, .int rf])), (wy, .inr (9, [.int (nI N), .int (nI B), .int (nI D), .ref a1, .ref a2, .ref a3, .ref a4, .ref a5, .ref a6])), (a1, .inl (G 0, 10, .inl f1)), (a2, .inl (G 0, 10, .inl f2)), (a3, .inl (G 0, 10, .inl f3)), (a4, .inl (G 0, 6, .inl f4)), (a5, .inl (G 0, 6, .inl f5)), (a6, .inl (G 0, 6, .inl f6)), (im, .inl (G 3, 2, .inr (.inr (.inr (.inr (va_up (va_up (fun _ => none) 0 (some i0)) 1 (some i1))))))), (kp, .inl (G 2, 2, .inl fk)), (i0, .inr (9, [.int (nI N0), .int (nI B0), .int (nI D0), .ref ib1, .ref ib2, .ref ib3, .ref ib4, .ref ib5, .ref ib6])), (ib1, .inl (G 0, 10, .inl ibf1)), (ib2, .inl (G 0, 10, .inl ibf2)), (ib3, .inl (G 0, 10, .inl ibf3)), (ib4, .inl (G 0, 6, .inl ibf4)), (ib5, .inl (G 0, 6, .inl ibf5)), (ib6, .inl (G 0, 6, .inl ibf6)), (i1, .inr (9, [.int (nI N1), .int (nI B1), .int (nI D1), .ref id1, .ref id2, .ref id3, .ref id4, .ref id5, .ref id6])), (id1, .inl (G 0, 10, .inl idf1)), (id2, .inl (G 0, 10, .inl idf2)), (id3, .inl (G 0, 10, .inl idf3)), (id4, .inl (G 0, 6, .inl idf4)), (id5, .inl (G 0, 6, .inl idf5)), (id6, .inl (G 0, 6, .inl idf6))]) [0, 1, 2, 3, 4, 5, 6, 7, 8, 9, 10, 11, 12, 13, 14, 15, 16, 17, 18, 19, 20, 21, 22, 23] rfl
    have hD9 := hD.sub (ws' := [(h0, .inr (10, [.ref rd, .ref wy, .ref tr, .ref im, .ref kp, .ref od, .ref ch, .ref cr, .ref le, .ref mk, .ref tl, .ref sh, .int tf, .int rf])), (wy, .inr (9, [.int (nI N), .int (nI B), .int (nI D), .ref a1, .ref a2, .ref a3, .ref a4, .ref a5, .ref a6])), (a1, .inl (G 0, 10, .inl f1)), (a2, .inl (G 0, 10, .inl f2)), (a3, .inl (G 0, 10, .inl f3)), (a4, .inl (G 0, 6, .inl f4)), (a5, .inl (G 0, 6, .inl f5)), (a6, .inl (G 0, 6, .inl f6)), (im, .inl (G 3, 2, .inr (.inr (.inr (.inr (va_up (va_up (fun _ => none) 0 (some i0)) 1 (some i1))))))), (kp, .inl (G 2, 2, .inl fk)), (i0, .inr (9, [.int (nI N0), .int (nI B0), .int (nI D0), .ref ib1, .ref ib2, .ref ib3, .ref ib4, .ref ib5, .ref ib6])), (ib1, .inl (G 0, 10, .inl ibf1)), (ib2, .inl (G 0, 10, .inl ibf2)), (ib3, .inl (G 0, 10, .inl ibf3)), (ib4, .inl (G 0, 6, .inl ibf4)), (ib5, .inl (G 0, 6, .inl ibf5)), (ib6, .inl (G 0, 6, .inl ibf6)), (i1, .inr (9, [.int (nI N1), .int (nI B1), .int (nI D1), .ref id1, .ref id2, .ref id3, .ref id4, .ref id5, .ref id6])), (id1, .inl (G 0, 10, .inl idf1)), (id2, .inl (G 0, 10, .inl idf2)), (id3, .inl (G 0, 10, .inl idf3)), (id4, .inl (G 0, 6, .inl idf4)), (id5, .inl (G 0, 6, .inl idf5)), (id6, .inl (G 0, 6, .inl idf6))]) [0, 1, 2, 3, 4, 5, 6, 7, 8, 9, 10, 11, 12, 13, 14, 15, 16, 17, 18, 19, 20, 21, 22, 23] (by decide) rfl
    refine W.widen (k := 0) (n := 0) (Nat.le_of_ble_eq_true rfl) (Nat.le_of_ble_eq_true rfl) ?_
    have tn2841_ : nIT N := fun _ => nI_toInt (by first | omega | (have t_b23 := b23; omega))
    have tn2842_ : nIT B := fun _ => nI_toInt (by first | omega | (have t_b23 := b23; omega))
    have tn2843_ : nIT D := fun _ => nI_toInt (by first | omega | (have t_b23 := b23; omega))
    have tn2844_ : nIT N0 := fun _ => nI_toInt (by first | omega | (have t_b23 := b23; omega))
    have tn2845_ : nIT B0 := fun _ => nI_toInt (by first | omega | (have t_b23 := b23; omega))
    have tn2846_ : nIT D0 := fun _ => nI_toInt (by first | omega | (have t_b23 := b23; omega))
    have tn2847_ : nIT N1 := fun _ => nI_toInt (by first | omega | (have t_b23 := b23; omega))
    have tn2848_ : nIT B1 := fun _ => nI_toInt (by first | omega | (have t_b23 := b23; omega))
    have tn2849_ : nIT D1 := fun _ => nI_toInt (by first | omega | (have t_b23 := b23; omega))
    exact W.iret (v := (-1)) hx hb hr (fun t ht hW => ⟨⟨(-1), (N, B, D, f1, f2, f3, f4, f5, f6), rfl, ⟨hpost, (by have k0 : (0 : Int32).toNatClampNeg = 0 := (by decide); have k1 : (1 : Int32).toNatClampNeg = 1 := (by decide); refine ⟨⟨by (have t_b23 := b23; have t_n0 : (nI N).toInt = (N : Int) := tn2841_ (); have t_n1 : (nI B).toInt = (B : Int) := tn2842_ (); have t_n2 : (nI D).toInt = (D : Int) := tn2843_ (); have t_n3 : (nI N0).toInt = (N0 : Int) := tn2844_ (); have t_n4 : (nI B0).toInt = (B0 : Int) := tn2845_ (); have t_n5 : (nI D0).toInt = (D0 : Int) := tn2846_ (); have t_n6 : (nI N1).toInt = (N1 : Int) := tn2847_ (); have t_n7 : (nI B1).toInt = (B1 : Int) := tn2848_ (); have t_n8 : (nI D1).toInt = (D1 : Int) := tn2849_ (); have z0 : (0 : Int32).toInt = 0 := qI_0; have z1 : (1 : Int32).toInt = 1 := qI_1; have z2 : (2 : Int32).toInt = 2 := qI_2; have z3 : (3 : Int32).toInt = 3 := qI_3; have z5 : (5 : Int32).toInt = 5 := qI_5; have z9 : (9 : Int32).toInt = 9 := qI_9; have z20 : (20 : Int32).toInt = 20 := qI_20; have z4 : (-4 : Int32).toInt = -4 := (by decide); have z10 : (10 : Int32).toInt = 10 := qI_10; omega), by (have t_b23 := b23; have t_n0 : (nI N).toInt = (N : Int) := tn2841_ (); have t_n1 : (nI B).toInt = (B : Int) := tn2842_ (); have t_n2 : (nI D).toInt = (D : Int) := tn2843_ (); have t_n3 : (nI N0).toInt = (N0 : Int) := tn2844_ (); have t_n4 : (nI B0).toInt = (B0 : Int) := tn2845_ (); have t_n5 : (nI D0).toInt = (D0 : Int) := tn2846_ (); have t_n6 : (nI N1).toInt = (N1 : Int) := tn2847_ (); have t_n7 : (nI B1).toInt = (B1 : Int) := tn2848_ (); have t_n8 : (nI D1).toInt = (D1 : Int) := tn2849_ (); have z0 : (0 : Int32).toInt = 0 := qI_0; have z1 : (1 : Int32).toInt = 1 := qI_1; have z2 : (2 : Int32).toInt = 2 := qI_2; have z3 : (3 : Int32).toInt = 3 := qI_3; have z5 : (5 : Int32).toInt = 5 := qI_5; have z9 : (9 : Int32).toInt = 9 := qI_9; have z20 : (20 : Int32).toInt = 20 := qI_20; have z4 : (-4 : Int32).toInt = -4 := (by decide); have z10 : (10 : Int32).toInt = 10 := qI_10; omega), by (have t_b23 := b23; have t_n0 : (nI N).toInt = (N : Int) := tn2841_ (); have t_n1 : (nI B).toInt = (B : Int) := tn2842_ (); have t_n2 : (nI D).toInt = (D : Int) := tn2843_ (); have t_n3 : (nI N0).toInt = (N0 : Int) := tn2844_ (); have t_n4 : (nI B0).toInt = (B0 : Int) := tn2845_ (); have t_n5 : (nI D0).toInt = (D0 : Int) := tn2846_ (); have t_n6 : (nI N1).toInt = (N1 : Int) := tn2847_ (); have t_n7 : (nI B1).toInt = (B1 : Int) := tn2848_ (); have t_n8 : (nI D1).toInt = (D1 : Int) := tn2849_ (); have z0 : (0 : Int32).toInt = 0 := qI_0; have z1 : (1 : Int32).toInt = 1 := qI_1; have z2 : (2 : Int32).toInt = 2 := qI_2; have z3 : (3 : Int32).toInt = 3 := qI_3; have z5 : (5 : Int32).toInt = 5 := qI_5; have z9 : (9 : Int32).toInt = 9 := qI_9; have z20 : (20 : Int32).toInt = 20 := qI_20; have z4 : (-4 : Int32).toInt = -4 := (by decide); have z10 : (10 : Int32).toInt = 10 := qI_10; omega), by (have t_b23 := b23; have t_n0 : (nI N).toInt = (N : Int) := tn2841_ (); have t_n1 : (nI B).toInt = (B : Int) := tn2842_ (); have t_n2 : (nI D).toInt = (D : Int) := tn2843_ (); have t_n3 : (nI N0).toInt = (N0 : Int) := tn2844_ (); have t_n4 : (nI B0).toInt = (B0 : Int) := tn2845_ (); have t_n5 : (nI D0).toInt = (D0 : Int) := tn2846_ (); have t_n6 : (nI N1).toInt = (N1 : Int) := tn2847_ (); have t_n7 : (nI B1).toInt = (B1 : Int) := tn2848_ (); have t_n8 : (nI D1).toInt = (D1 : Int) := tn2849_ (); have z0 : (0 : Int32).toInt = 0 := qI_0; have z1 : (1 : Int32).toInt = 1 := qI_1; have z2 : (2 : Int32).toInt = 2 := qI_2; have z3 : (3 : Int32).toInt = 3 := qI_3; have z5 : (5 : Int32).toInt = 5 := qI_5; have z9 : (9 : Int32).toInt = 9 := qI_9; have z20 : (20 : Int32).toInt = 20 := qI_20; have z4 : (-4 : Int32).toInt = -4 := (by decide); have z10 : (10 : Int32).toInt = 10 := qI_10; omega)⟩, ?_, ?_, ?_, ?_, ?_, ?_, ?_, ?_, ?_⟩ <;> (first | (rw [if_pos ⟨rfl, by assumption⟩]; first | done | rfl) | (rw [if_neg (fun h9 => absurd h9.1 (by decide)), if_pos ⟨rfl, by assumption⟩]; first | done | rfl) | (rw [if_neg (fun h9 => h9.2 (by assumption)), if_neg (fun h9 => absurd h9.1 (by decide))]; done) | (rw [if_neg (fun h9 => absurd h9.1 (by decide)), if_neg (fun h9 => h9.2 (by assumption))]; done) | (rw [if_neg (fun h9 => by have e8 := congrArg Int32.toInt h9.1; (have t_b23 := b23; have t_n0 : (nI N).toInt = (N : Int) := tn2841_ (); have t_n1 : (nI B).toInt = (B : Int) := tn2842_ (); have t_n2 : (nI D).toInt = (D : Int) := tn2843_ (); have t_n3 : (nI N0).toInt = (N0 : Int) := tn2844_ (); have t_n4 : (nI B0).toInt = (B0 : Int) := tn2845_ (); have t_n5 : (nI D0).toInt = (D0 : Int) := tn2846_ (); have t_n6 : (nI N1).toInt = (N1 : Int) := tn2847_ (); have t_n7 : (nI B1).toInt = (B1 : Int) := tn2848_ (); have t_n8 : (nI D1).toInt = (D1 : Int) := tn2849_ (); have z0 : (0 : Int32).toInt = 0 := qI_0; have z1 : (1 : Int32).toInt = 1 := qI_1; have z2 : (2 : Int32).toInt = 2 := qI_2; have z3 : (3 : Int32).toInt = 3 := qI_3; have z5 : (5 : Int32).toInt = 5 := qI_5; have z9 : (9 : Int32).toInt = 9 := qI_9; have z20 : (20 : Int32).toInt = 20 := qI_20; have z4 : (-4 : Int32).toInt = -4 := (by decide); have z10 : (10 : Int32).toInt = 10 := qI_10; omega)), if_neg (fun h9 => by have e8 := congrArg Int32.toInt h9.1; (have t_b23 := b23; have t_n0 : (nI N).toInt = (N : Int) := tn2841_ (); have t_n1 : (nI B).toInt = (B : Int) := tn2842_ (); have t_n2 : (nI D).toInt = (D : Int) := tn2843_ (); have t_n3 : (nI N0).toInt = (N0 : Int) := tn2844_ (); have t_n4 : (nI B0).toInt = (B0 : Int) := tn2845_ (); have t_n5 : (nI D0).toInt = (D0 : Int) := tn2846_ (); have t_n6 : (nI N1).toInt = (N1 : Int) := tn2847_ (); have t_n7 : (nI B1).toInt = (B1 : Int) := tn2848_ (); have t_n8 : (nI D1).toInt = (D1 : Int) := tn2849_ (); have z0 : (0 : Int32).toInt = 0 := qI_0; have z1 : (1 : Int32).toInt = 1 := qI_1; have z2 : (2 : Int32).toInt = 2 := qI_2; have z3 : (3 : Int32).toInt = 3 := qI_3; have z5 : (5 : Int32).toInt = 5 := qI_5; have z9 : (9 : Int32).toInt = 9 := qI_9; have z20 : (20 : Int32).toInt = 20 := qI_20; have z4 : (-4 : Int32).toInt = -4 := (by decide); have z10 : (10 : Int32).toInt = 10 := qI_10; omega))]; done)))⟩, ⟨by rw [ht]; exact hP9, hD9⟩⟩, hS.F ht⟩) hS.2.2 dX10_back_8

set_option maxHeartbeats 1000000 in
set_option maxRecDepth 100000 in
theorem c_X11_startNowE (l : Launch) (dC : Nat → ClassId) (dI : Nat → Nat → Nat) (G : Nat → ClassId) (sz : Nat) (h0 st N B rp tp T cu lt od th be ln S ma M ah bh ik la lg ce : Nat) (vrs vrb vhs vca vxs vxb vfa vbr vba vsp vhe vtk vva vto : Int32) (fst : Nat → Int32) (hN : N ≤ 10) (hB : B ≤ 6) (hT : T ≤ 320) (hS0 : S ≤ 8) (hM : M ≤ 6) (hst : OKS fst) : Met l yX11_startNow (Cond.code yX11_startNow cX11_startNow 1 (some .int) :: GT) ({ frames := 0, cells := 0, slots := 0, locals := 0 } : Room) (PcR [.ref h0] dC dI G [(h0, .inr (11, [.ref st, .int (nI N), .int (nI B), .ref rp, .int vrs, .int vrb, .int vhs, .int vca, .int vxs, .int vxb, .ref tp, .int (nI T), .int vfa, .int vbr, .int vba, .int vsp, .int vhe, .int vtk, .int vva, .ref cu, .ref lt, .ref od, .ref th, .ref be, .ref ln, .int (nI S), .ref ma, .int (nI M), .ref ah, .ref bh, .ref ik, .ref la, .ref lg, .ref ce, .int vto])), (st, .inl (G 0, 196, .inl fst))] sz) (va_Qi (fun (r : Int32) (u : Unit) => match u with | _ => (r = fst 48 + 5) ∧ True) (fun _ _ => True) (fun q : Nat => sz ≤ q)) 0 0 (fun q : Nat => sz ≤ q) := by
  refine Met.ofW (cc := cX11_startNow) (maxL := 1) (ret := (some .int)) (by decide) rfl ?_
  intro p e s m args below meth c s₁ Bd hml hv
  obtain ⟨rfl, hsz, hP, hK⟩ := hv
  have hx := Bd.exec
  have hb := Bd.bytes
  have hr := Bd.returns
  have hg : ∀ w ∈ GT, w.before ([.ref h0] : List Value).toArray s = true := fun w h => atoms_spec (ws := Cond.code yX11_startNow cX11_startNow 1 (some .int) :: GT) Bd.pre w (List.mem_cons_of_mem _ h)
  have hown : s.vm.findClass RX11 = some m.cls := findClass_of_methodNamed Bd.named
  have hlocks := Bd.notSynchronized
  subst hsz
  have hA : ∀ q : Nat, s.heap.size ≤ q → (fun q : Nat => s.heap.size ≤ q) q := fun _ h => h
  have hS : va_S (fun q : Nat => s.heap.size ≤ q) s.heap s.heap [] := va_S.rf
  have hl := lv_entry ([.ref h0]) (n := 1) (Nat.le_of_ble_eq_true rfl)
  rw [lg_entry_eq]
  generalize (lg_sl ([.ref h0]) ++ List.replicate (1 - (lg_sl ([.ref h0])).length) Slot.unset).toArray = ls at hl ⊢
  have hl : lv_has ls 1 [(0, .ref h0)] := hl
  refine lv_aload_n hx hb dX11_startNow_0 rfl (lv_at hl 0 rfl) ?_
  refine va_get (D := (dC, dI)) (ci := 11) (v := .ref st) (C := RX11) (T := TX11) (N := 35) hx hb hg inG11 hown hK.1 hP 0 rfl rfl 0 (by decide) (hg _ wt_878) (fun _ h9 => h9) rfl dX11_startNow_1 ?_
  refine lv_bipush (v := 48) hx hb dX11_startNow_4 (by decide) ?_
  refine va_iald hx hb hK.1 hP 1 0 rfl rfl (vp_in_iff.mpr ⟨by decide, by decide⟩) dX11_startNow_6 ?_
  refine lv_cg (y := fst 48) (by rfl) ?_
  refine lv_iconst (v := 5) hx hb dX11_startNow_7 (by decide) ?_
  refine lv_iadd hx hb dX11_startNow_8 ?_
  have hpost : ((fst 48) + 5 : Int32) = fst 48 + 5 := by
    rfl
  refine W.widen (k := 0) (n := 0) (Nat.le_of_ble_eq_true rfl) (Nat.le_of_ble_eq_true rfl) ?_
  exact W.iret (v := (fst 48) + 5) hx hb hr (fun t ht hW => ⟨⟨(fst 48) + 5, (), rfl, ⟨hpost, trivial⟩, trivial⟩, hS.F ht⟩) hS.2.2 dX11_startNow_9

set_option maxHeartbeats 1000000 in
set_option maxRecDepth 100000 in
theorem c_X11_ruleE (l : Launch) (dC : Nat → ClassId) (dI : Nat → Nat → Nat) (G : Nat → ClassId) (sz : Nat) (h0 st N B rp tp T cu lt od th be ln S ma M ah bh ik la lg ce : Nat) (what vrs vrb vhs vca vxs vxb vfa vbr vba vsp vhe vtk vva vto : Int32) (fst : Nat → Int32) (hN : N ≤ 10) (hB : B ≤ 6) (hT : T ≤ 320) (hS0 : S ≤ 8) (hM : M ≤ 6) (hst : OKS fst) : Met l yX11_rule (Cond.code yX11_rule cX11_rule 2 (some .int) :: GT) ({ frames := 1, cells := 0, slots := 0, locals := 20 } : Room) (PcR [.ref h0, .int what] dC dI G [(h0, .inr (11, [.ref st, .int (nI N), .int (nI B), .ref rp, .int vrs, .int vrb, .int vhs, .int vca, .int vxs, .int vxb, .ref tp, .int (nI T), .int vfa, .int vbr, .int vba, .int vsp, .int vhe, .int vtk, .int vva, .ref cu, .ref lt, .ref od, .ref th, .ref be, .ref ln, .int (nI S), .ref ma, .int (nI M), .ref ah, .ref bh, .ref ik, .ref la, .ref lg, .ref ce, .int vto])), (st, .inl (G 0, 196, .inl fst))] sz) (va_Qi (fun (r : Int32) (u : Unit) => match u with | _ => (r = ruF what N B (fst 48 + 5)) ∧ True) (fun _ _ => True) (fun q : Nat => sz ≤ q)) 0 0 (fun q : Nat => sz ≤ q) := by
  have hB_ := hB
  have hM_ := hM
  have hT_ := hT
  refine Met.ofW (cc := cX11_rule) (maxL := 2) (ret := (some .int)) (by decide) rfl ?_
  intro p e s m args below meth c s₁ Bd hml hv
  obtain ⟨rfl, hsz, hP, hK⟩ := hv
  have hx := Bd.exec
  have hb := Bd.bytes
  have hr := Bd.returns
  have hg : ∀ w ∈ GT, w.before ([.ref h0, .int what] : List Value).toArray s = true := fun w h => atoms_spec (ws := Cond.code yX11_rule cX11_rule 2 (some .int) :: GT) Bd.pre w (List.mem_cons_of_mem _ h)
  have hown : s.vm.findClass RX11 = some m.cls := findClass_of_methodNamed Bd.named
  have hlocks := Bd.notSynchronized
  subst hsz
  have hA : ∀ q : Nat, s.heap.size ≤ q → (fun q : Nat => s.heap.size ≤ q) q := fun _ h => h
  have hS : va_S (fun q : Nat => s.heap.size ≤ q) s.heap s.heap [] := va_S.rf
  have hl := lv_entry ([.ref h0, .int what]) (n := 2) (Nat.le_of_ble_eq_true rfl)
  rw [lg_entry_eq]
  generalize (lg_sl ([.ref h0, .int what]) ++ List.replicate (2 - (lg_sl ([.ref h0, .int what])).length) Slot.unset).toArray = ls at hl ⊢
  have hl : lv_has ls 2 [(0, .ref h0), (1, .int what)] := hl
  refine lv_iload_n hx hb dX11_rule_0 rfl (lv_at hl 1 rfl) ?_
  refine lv_if_ne (tgt := 11) hx hb dX11_rule_1 (by decide) (fun c1 => ?_) (fun c1 => ?_)
  · skip
    refine lv_iload_n hx hb dX11_rule_11 rfl (lv_at hl 1 rfl) ?_
    refine lv_iconst (v := 1) hx hb dX11_rule_12 (by decide) ?_
    refine lv_icmp_ne (tgt := 23) hx hb dX11_rule_13 (by decide) (fun c2 => ?_) (fun c2 => ?_)
    · skip
      refine lv_iload_n hx hb dX11_rule_23 rfl (lv_at hl 1 rfl) ?_
      refine lv_iconst (v := 2) hx hb dX11_rule_24 (by decide) ?_
      refine lv_icmp_ne (tgt := 35) hx hb dX11_rule_25 (by decide) (fun c3 => ?_) (fun c3 => ?_)
      · skip
        refine lv_iconst (v := (-1)) hx hb dX11_rule_35 (by decide) ?_
        have hpost : ((-1) : Int32) = ruF what N B (fst 48 + 5) := by
          have tn2850_ : nIT N := fun _ => nI_toInt (by omega)
          have tn2851_ : nIT B := fun _ => nI_toInt (by omega)
          have tn2852_ : nIT T := fun _ => nI_toInt (by omega)
          have tn2853_ : nIT S := fun _ => nI_toInt (by omega)
          have tn2854_ : nIT M := fun _ => nI_toInt (by omega)
          unfold ruF
          (try (repeat (first | rw [if_pos (by assumption)] | rw [if_neg (by assumption)] | rw [if_pos (by (have t_c1 := neI c1; have t_c2 := neI c2; have t_c3 := neI c3; have : (0 : Int32).toInt = 0 := qI_0; have : (1 : Int32).toInt = 1 := qI_1; have : (2 : Int32).toInt = 2 := qI_2; have t_n0 : (nI N).toInt = (N : Int) := tn2850_ (); have t_n1 : (nI B).toInt = (B : Int) := tn2851_ (); have t_n2 : (nI T).toInt = (T : Int) := tn2852_ (); have t_n3 : (nI S).toInt = (S : Int) := tn2853_ (); have t_n4 : (nI M).toInt = (M : Int) := tn2854_ (); have z0 : (0 : Int32).toInt = 0 := qI_0; have z1 : (1 : Int32).toInt = 1 := qI_1; have z2 : (2 : Int32).toInt = 2 := qI_2; have z3 : (3 : Int32).toInt = 3 := qI_3; have z5 : (5 : Int32).toInt = 5 := qI_5; have z9 : (9 : Int32).toInt = 9 := qI_9; have z20 : (20 : Int32).toInt = 20 := qI_20; have z4 : (-4 : Int32).toInt = -4 := (by decide); have z10 : (10 : Int32).toInt = 10 := qI_10; omega))] | rw [if_neg (by (have t_c1 := neI c1; have t_c2 := neI c2; have t_c3 := neI c3; have : (0 : Int32).toInt = 0 := qI_0; have : (1 : Int32).toInt = 1 := qI_1; have : (2 : Int32).toInt = 2 := qI_2; have t_n0 : (nI N).toInt = (N : Int) := tn2850_ (); have t_n1 : (nI B).toInt = (B : Int) := tn2851_ (); have t_n2 : (nI T).toInt = (T : Int) := tn2852_ (); have t_n3 : (nI S).toInt = (S : Int) := tn2853_ (); have t_n4 : (nI M).toInt = (M : Int) := tn2854_ (); have z0 : (0 : Int32).toInt = 0 := qI_0; have z1 : (1 : Int32).toInt = 1 := qI_1; have z2 : (2 : Int32).toInt = 2 := qI_2; have z3 : (3 : Int32).toInt = 3 := qI_3; have z5 : (5 : Int32).toInt = 5 := qI_5; have z9 : (9 : Int32).toInt = 9 := qI_9; have z20 : (20 : Int32).toInt = 20 := qI_20; have z4 : (-4 : Int32).toInt = -4 := (by decide); have z10 : (10 : Int32).toInt = 10 := qI_10; omega))] | rw [if_pos (by decide)] | rw [if_neg (by decide)])))
          all_goals rfl
        refine W.widen (k := 0) (n := 0) (Nat.le_of_ble_eq_true rfl) (Nat.le_of_ble_eq_true rfl) ?_
        exact W.iret (v := (-1)) hx hb hr (fun t ht hW => ⟨⟨(-1), (), rfl, ⟨hpost, trivial⟩, trivial⟩, hS.F ht⟩) hS.2.2 dX11_rule_36
      · skip
        refine lv_aload_n hx hb dX11_rule_28 rfl (lv_at hl 0 rfl) ?_
        have hPc := hP.sub (ws' := [(h0, .inr (11, [.ref st, .int (nI N), .int (nI B), .ref rp, .int vrs, .int vrb, .int vhs, .int vca, .int vxs, .int vxb, .ref tp, .int (nI T), .int vfa, .int vbr, .int vba, .int vsp, .int vhe, .int vtk, .int vva, .ref cu, .ref lt, .ref od, .ref th, .ref be, .ref ln, .int (nI S), .ref ma, .int (nI M), .ref ah, .ref bh, .ref ik, .ref la, .ref lg, .ref ce, .int vto])), (st, .inl (G 0, 196, .inl fst))]) [0, 1] rfl
        have tn2855_ : nIT N := fun _ => nI_toInt (by first | omega | (have t_c1 := neI c1; have t_c2 := neI c2; have t_c3 := eqI c3; have : (0 : Int32).toInt = 0 := qI_0; have : (1 : Int32).toInt = 1 := qI_1; have : (2 : Int32).toInt = 2 := qI_2; omega))
        have tn2856_ : nIT B := fun _ => nI_toInt (by first | omega | (have t_c1 := neI c1; have t_c2 := neI c2; have t_c3 := eqI c3; have : (0 : Int32).toInt = 0 := qI_0; have : (1 : Int32).toInt = 1 := qI_1; have : (2 : Int32).toInt = 2 := qI_2; omega))
        have tn2857_ : nIT T := fun _ => nI_toInt (by first | omega | (have t_c1 := neI c1; have t_c2 := neI c2; have t_c3 := eqI c3; have : (0 : Int32).toInt = 0 := qI_0; have : (1 : Int32).toInt = 1 := qI_1; have : (2 : Int32).toInt = 2 := qI_2; omega))
        have tn2858_ : nIT S := fun _ => nI_toInt (by first | omega | (have t_c1 := neI c1; have t_c2 := neI c2; have t_c3 := eqI c3; have : (0 : Int32).toInt = 0 := qI_0; have : (1 : Int32).toInt = 1 := qI_1; have : (2 : Int32).toInt = 2 := qI_2; omega))
        have tn2859_ : nIT M := fun _ => nI_toInt (by first | omega | (have t_c1 := neI c1; have t_c2 := neI c2; have t_c3 := eqI c3; have : (0 : Int32).toInt = 0 := qI_0; have : (1 : Int32).toInt = 1 := qI_1; have : (2 : Int32).toInt = 2 := qI_2; omega))
        refine va_calli (va_runV (As := []) (rest := []) ⟨hx, hb, hml, hown, hg⟩ (c_X11_startNowE l dC dI G _ h0 st N B rp tp T cu lt od th be ln S ma M ah bh ik la lg ce vrs vrb vhs vca vxs vxb vfa vbr vba vsp vhe vtk vva vto fst hN hB_ hT_ hS0 hM_ hst) (kwV hg mfX11_startNow wt_1044 ⟨Nat.le_of_ble_eq_true rfl, Nat.le_of_ble_eq_true rfl⟩) (preVR hK hPc (ci := 11) rfl rfl) rfl rfl hl.1 rfl (lv_room (Nat.le_of_ble_eq_true rfl)) dX11_rule_29 ⟨Nat.le_of_ble_eq_true rfl, Nat.le_of_ble_eq_true rfl⟩) hS (fun q h1 h2 => absurd h2 (Nat.not_le.mpr h1)) (fun q h => hA q (Nat.le_trans hS.1 h)) (fun r4 ur4 t H1 locs ht hvm w5 hB hz1 hk1 hS => ?_)
        have hP := keepR hP hk1
        obtain ⟨w5, w5x⟩ := w5
        subst w5
        refine lv_goto (tgt := 36) hx hb dX11_rule_32 (by decide) ?_
        have hpost : (fst 48 + 5 : Int32) = ruF what N B (fst 48 + 5) := by
          unfold ruF
          (try (repeat (first | rw [if_pos (by assumption)] | rw [if_neg (by assumption)] | rw [if_pos (by (have t_c1 := neI c1; have t_c2 := neI c2; have t_c3 := eqI c3; have : (0 : Int32).toInt = 0 := qI_0; have : (1 : Int32).toInt = 1 := qI_1; have : (2 : Int32).toInt = 2 := qI_2; have t_n0 : (nI N).toInt = (N : Int) := tn2855_ (); have t_n1 : (nI B).toInt = (B : Int) := tn2856_ (); have t_n2 : (nI T).toInt = (T : Int) := tn2857_ (); have t_n3 : (nI S).toInt = (S : Int) := tn2858_ (); have t_n4 : (nI M).toInt = (M : Int) := tn2859_ (); have z0 : (0 : Int32).toInt = 0 := qI_0; have z1 : (1 : Int32).toInt = 1 := qI_1; have z2 : (2 : Int32).toInt = 2 := qI_2; have z3 : (3 : Int32).toInt = 3 := qI_3; have z5 : (5 : Int32).toInt = 5 := qI_5; have z9 : (9 : Int32).toInt = 9 := qI_9; have z20 : (20 : Int32).toInt = 20 := qI_20; have z4 : (-4 : Int32).toInt = -4 := (by decide); have z10 : (10 : Int32).toInt = 10 := qI_10; omega))] | rw [if_neg (by (have t_c1 := neI c1; have t_c2 := neI c2; have t_c3 := eqI c3; have : (0 : Int32).toInt = 0 := qI_0; have : (1 : Int32).toInt = 1 := qI_1; have : (2 : Int32).toInt = 2 := qI_2; have t_n0 : (nI N).toInt = (N : Int) := tn2855_ (); have t_n1 : (nI B).toInt = (B : Int) := tn2856_ (); have t_n2 : (nI T).toInt = (T : Int) := tn2857_ (); have t_n3 : (nI S).toInt = (S : Int) := tn2858_ (); have t_n4 : (nI M).toInt = (M : Int) := tn2859_ (); have z0 : (0 : Int32).toInt = 0 := qI_0; have z1 : (1 : Int32).toInt = 1 := qI_1; have z2 : (2 : Int32).toInt = 2 := qI_2; have z3 : (3 : Int32).toInt = 3 := qI_3; have z5 : (5 : Int32).toInt = 5 := qI_5; have z9 : (9 : Int32).toInt = 9 := qI_9; have z20 : (20 : Int32).toInt = 20 := qI_20; have z4 : (-4 : Int32).toInt = -4 := (by decide); have z10 : (10 : Int32).toInt = 10 := qI_10; omega))] | rw [if_pos (by decide)] | rw [if_neg (by decide)])))
          all_goals rfl
        refine W.widen (k := 0) (n := 0) (Nat.le_of_ble_eq_true rfl) (Nat.le_of_ble_eq_true rfl) ?_
        exact W.iret (v := fst 48 + 5) hx hb hr (fun t ht hW => ⟨⟨fst 48 + 5, (), rfl, ⟨hpost, trivial⟩, trivial⟩, hS.F ht⟩) hS.2.2 dX11_rule_36
    · skip
      refine lv_aload_n hx hb dX11_rule_16 rfl (lv_at hl 0 rfl) ?_
      refine va_get (D := (dC, dI)) (ci := 11) (v := .int (nI B)) (C := RX11) (T := TX11) (N := 35) hx hb hg inG11 hown hK.1 hP 0 rfl rfl 2 (by decide) (hg _ wt_880) (fun _ h9 => h9) rfl dX11_rule_17 ?_
      refine lv_goto (tgt := 36) hx hb dX11_rule_20 (by decide) ?_
      have hpost : (nI B : Int32) = ruF what N B (fst 48 + 5) := by
        have tn2860_ : nIT N := fun _ => nI_toInt (by omega)
        have tn2861_ : nIT B := fun _ => nI_toInt (by omega)
        have tn2862_ : nIT T := fun _ => nI_toInt (by omega)
        have tn2863_ : nIT S := fun _ => nI_toInt (by omega)
        have tn2864_ : nIT M := fun _ => nI_toInt (by omega)
        unfold ruF
        (try (repeat (first | rw [if_pos (by assumption)] | rw [if_neg (by assumption)] | rw [if_pos (by (have t_c1 := neI c1; have t_c2 := eqI c2; have : (0 : Int32).toInt = 0 := qI_0; have : (1 : Int32).toInt = 1 := qI_1; have t_n0 : (nI N).toInt = (N : Int) := tn2860_ (); have t_n1 : (nI B).toInt = (B : Int) := tn2861_ (); have t_n2 : (nI T).toInt = (T : Int) := tn2862_ (); have t_n3 : (nI S).toInt = (S : Int) := tn2863_ (); have t_n4 : (nI M).toInt = (M : Int) := tn2864_ (); have z0 : (0 : Int32).toInt = 0 := qI_0; have z1 : (1 : Int32).toInt = 1 := qI_1; have z2 : (2 : Int32).toInt = 2 := qI_2; have z3 : (3 : Int32).toInt = 3 := qI_3; have z5 : (5 : Int32).toInt = 5 := qI_5; have z9 : (9 : Int32).toInt = 9 := qI_9; have z20 : (20 : Int32).toInt = 20 := qI_20; have z4 : (-4 : Int32).toInt = -4 := (by decide); have z10 : (10 : Int32).toInt = 10 := qI_10; omega))] | rw [if_neg (by (have t_c1 := neI c1; have t_c2 := eqI c2; have : (0 : Int32).toInt = 0 := qI_0; have : (1 : Int32).toInt = 1 := qI_1; have t_n0 : (nI N).toInt = (N : Int) := tn2860_ (); have t_n1 : (nI B).toInt = (B : Int) := tn2861_ (); have t_n2 : (nI T).toInt = (T : Int) := tn2862_ (); have t_n3 : (nI S).toInt = (S : Int) := tn2863_ (); have t_n4 : (nI M).toInt = (M : Int) := tn2864_ (); have z0 : (0 : Int32).toInt = 0 := qI_0; have z1 : (1 : Int32).toInt = 1 := qI_1; have z2 : (2 : Int32).toInt = 2 := qI_2; have z3 : (3 : Int32).toInt = 3 := qI_3; have z5 : (5 : Int32).toInt = 5 := qI_5; have z9 : (9 : Int32).toInt = 9 := qI_9; have z20 : (20 : Int32).toInt = 20 := qI_20; have z4 : (-4 : Int32).toInt = -4 := (by decide); have z10 : (10 : Int32).toInt = 10 := qI_10; omega))] | rw [if_pos (by decide)] | rw [if_neg (by decide)])))
        all_goals rfl
      refine W.widen (k := 0) (n := 0) (Nat.le_of_ble_eq_true rfl) (Nat.le_of_ble_eq_true rfl) ?_
      exact W.iret (v := nI B) hx hb hr (fun t ht hW => ⟨⟨nI B, (), rfl, ⟨hpost, trivial⟩, trivial⟩, hS.F ht⟩) hS.2.2 dX11_rule_36
  · skip
    refine lv_aload_n hx hb dX11_rule_4 rfl (lv_at hl 0 rfl) ?_
    refine va_get (D := (dC, dI)) (ci := 11) (v := .int (nI N)) (C := RX11) (T := TX11) (N := 35) hx hb hg inG11 hown hK.1 hP 0 rfl rfl 1 (by decide) (hg _ wt_879) (fun _ h9 => h9) rfl dX11_rule_5 ?_
    refine lv_goto (tgt := 36) hx hb dX11_rule_8 (by decide) ?_
    have hpost : (nI N : Int32) = ruF what N B (fst 48 + 5) := by
      have tn2865_ : nIT N := fun _ => nI_toInt (by omega)
      have tn2866_ : nIT B := fun _ => nI_toInt (by omega)
      have tn2867_ : nIT T := fun _ => nI_toInt (by omega)
      have tn2868_ : nIT S := fun _ => nI_toInt (by omega)
      have tn2869_ : nIT M := fun _ => nI_toInt (by omega)
      unfold ruF
      (try (repeat (first | rw [if_pos (by assumption)] | rw [if_neg (by assumption)] | rw [if_pos (by (have t_c1 := eqI c1; have : (0 : Int32).toInt = 0 := qI_0; have t_n0 : (nI N).toInt = (N : Int) := tn2865_ (); have t_n1 : (nI B).toInt = (B : Int) := tn2866_ (); have t_n2 : (nI T).toInt = (T : Int) := tn2867_ (); have t_n3 : (nI S).toInt = (S : Int) := tn2868_ (); have t_n4 : (nI M).toInt = (M : Int) := tn2869_ (); have z0 : (0 : Int32).toInt = 0 := qI_0; have z1 : (1 : Int32).toInt = 1 := qI_1; have z2 : (2 : Int32).toInt = 2 := qI_2; have z3 : (3 : Int32).toInt = 3 := qI_3; have z5 : (5 : Int32).toInt = 5 := qI_5; have z9 : (9 : Int32).toInt = 9 := qI_9; have z20 : (20 : Int32).toInt = 20 := qI_20; have z4 : (-4 : Int32).toInt = -4 := (by decide); have z10 : (10 : Int32).toInt = 10 := qI_10; omega))] | rw [if_neg (by (have t_c1 := eqI c1; have : (0 : Int32).toInt = 0 := qI_0; have t_n0 : (nI N).toInt = (N : Int) := tn2865_ (); have t_n1 : (nI B).toInt = (B : Int) := tn2866_ (); have t_n2 : (nI T).toInt = (T : Int) := tn2867_ (); have t_n3 : (nI S).toInt = (S : Int) := tn2868_ (); have t_n4 : (nI M).toInt = (M : Int) := tn2869_ (); have z0 : (0 : Int32).toInt = 0 := qI_0; have z1 : (1 : Int32).toInt = 1 := qI_1; have z2 : (2 : Int32).toInt = 2 := qI_2; have z3 : (3 : Int32).toInt = 3 := qI_3; have z5 : (5 : Int32).toInt = 5 := qI_5; have z9 : (9 : Int32).toInt = 9 := qI_9; have z20 : (20 : Int32).toInt = 20 := qI_20; have z4 : (-4 : Int32).toInt = -4 := (by decide); have z10 : (10 : Int32).toInt = 10 := qI_10; omega))] | rw [if_pos (by decide)] | rw [if_neg (by decide)])))
      all_goals rfl
    refine W.widen (k := 0) (n := 0) (Nat.le_of_ble_eq_true rfl) (Nat.le_of_ble_eq_true rfl) ?_
    exact W.iret (v := nI N) hx hb hr (fun t ht hW => ⟨⟨nI N, (), rfl, ⟨hpost, trivial⟩, trivial⟩, hS.F ht⟩) hS.2.2 dX11_rule_36

set_option maxHeartbeats 1000000 in
set_option maxRecDepth 100000 in
theorem c_X11_bearerE (l : Launch) (dC : Nat → ClassId) (dI : Nat → Nat → Nat) (G : Nat → ClassId) (sz : Nat) (h0 st N B rp tp T cu lt od th be ln S ma M ah bh ik la lg ce : Nat) (i what vrs vrb vhs vca vxs vxb vfa vbr vba vsp vhe vtk vva vto : Int32) (fst : Nat → Int32) (hN : N ≤ 10) (hB : B ≤ 6) (hT : T ≤ 320) (hS0 : S ≤ 8) (hM : M ≤ 6) : Met l yX11_bearer (Cond.code yX11_bearer cX11_bearer 3 (some .int) :: GT) ({ frames := 2, cells := 0, slots := 0, locals := 46 } : Room) (PcR [.ref h0, .int i, .int what] dC dI G [(h0, .inr (11, [.ref st, .int (nI N), .int (nI B), .ref rp, .int vrs, .int vrb, .int vhs, .int vca, .int vxs, .int vxb, .ref tp, .int (nI T), .int vfa, .int vbr, .int vba, .int vsp, .int vhe, .int vtk, .int vva, .ref cu, .ref lt, .ref od, .ref th, .ref be, .ref ln, .int (nI S), .ref ma, .int (nI M), .ref ah, .ref bh, .ref ik, .ref la, .ref lg, .ref ce, .int vto])), (st, .inl (G 0, 196, .inl fst))] sz) (va_Qi (fun (r : Int32) (u : Unit) => match u with | _ => (r = if (0 ≤ i.toInt ∧ i.toInt < ((B : Nat) : Int)) ∧ 0 ≤ what.toInt ∧ what.toInt ≤ 2 then fst (20 + 3 * i.toNatClampNeg + what.toNatClampNeg) else -1) ∧ True) (fun _ _ => True) (fun q : Nat => sz ≤ q)) 0 0 (fun q : Nat => sz ≤ q) := by
  have hB_ := hB
  have hM_ := hM
  have hT_ := hT
  refine Met.ofW (cc := cX11_bearer) (maxL := 3) (ret := (some .int)) (by decide) rfl ?_
  intro p e s m args below meth c s₁ Bd hml hv
  obtain ⟨rfl, hsz, hP, hK⟩ := hv
  have hx := Bd.exec
  have hb := Bd.bytes
  have hr := Bd.returns
  have hg : ∀ w ∈ GT, w.before ([.ref h0, .int i, .int what] : List Value).toArray s = true := fun w h => atoms_spec (ws := Cond.code yX11_bearer cX11_bearer 3 (some .int) :: GT) Bd.pre w (List.mem_cons_of_mem _ h)
  have hown : s.vm.findClass RX11 = some m.cls := findClass_of_methodNamed Bd.named
  have hlocks := Bd.notSynchronized
  subst hsz
  have hA : ∀ q : Nat, s.heap.size ≤ q → (fun q : Nat => s.heap.size ≤ q) q := fun _ h => h
  have hS : va_S (fun q : Nat => s.heap.size ≤ q) s.heap s.heap [] := va_S.rf
  have hl := lv_entry ([.ref h0, .int i, .int what]) (n := 3) (Nat.le_of_ble_eq_true rfl)
  rw [lg_entry_eq]
  generalize (lg_sl ([.ref h0, .int i, .int what]) ++ List.replicate (3 - (lg_sl ([.ref h0, .int i, .int what])).length) Slot.unset).toArray = ls at hl ⊢
  have hl : lv_has ls 3 [(0, .ref h0), (1, .int i), (2, .int what)] := hl
  refine lv_aload_n hx hb dX11_bearer_0 rfl (lv_at hl 0 rfl) ?_
  refine lv_iload_n hx hb dX11_bearer_1 rfl (lv_at hl 1 rfl) ?_
  have hPc := hP.sub (ws' := [(h0, .inr (11, [.ref st, .int (nI N), .int (nI B), .ref rp, .int vrs, .int vrb, .int vhs, .int vca, .int vxs, .int vxb, .ref tp, .int (nI T), .int vfa, .int vbr, .int vba, .int vsp, .int vhe, .int vtk, .int vva, .ref cu, .ref lt, .ref od, .ref th, .ref be, .ref ln, .int (nI S), .ref ma, .int (nI M), .ref ah, .ref bh, .ref ik, .ref la, .ref lg, .ref ce, .int vto]))]) [0] rfl
  have tn2870_ : nIT N := fun _ => nI_toInt (by omega)
  have tn2871_ : nIT B := fun _ => nI_toInt (by omega)
  have tn2872_ : nIT T := fun _ => nI_toInt (by omega)
  have tn2873_ : nIT S := fun _ => nI_toInt (by omega)
  have tn2874_ : nIT M := fun _ => nI_toInt (by omega)
  refine va_calli (va_runV (As := [.int i]) (rest := []) ⟨hx, hb, hml, hown, hg⟩ (c_X11_isBearer l dC dI G _ h0 st N B rp tp T cu lt od th be ln S ma M ah bh ik la lg ce i vrs vrb vhs vca vxs vxb vfa vbr vba vsp vhe vtk vva vto hN hB_ hT_ hS0 hM_) (kwV hg mfX11_isBearer wt_1061 ⟨Nat.le_of_ble_eq_true rfl, Nat.le_of_ble_eq_true rfl⟩) (preVR hK hPc (ci := 11) rfl rfl) rfl rfl hl.1 rfl (lv_room (Nat.le_of_ble_eq_true rfl)) dX11_bearer_2 ⟨Nat.le_of_ble_eq_true rfl, Nat.le_of_ble_eq_true rfl⟩) hS (fun q h1 h2 => absurd h2 (Nat.not_le.mpr h1)) (fun q h => hA q (Nat.le_trans hS.1 h)) (fun r1 ur1 t H1 locs ht hvm w2 hB hz1 hk1 hS => ?_)
  have hP := keepR hP hk1
  obtain ⟨w2, w2x⟩ := w2
  try simp only [l_ii, show (0 : Int32).toInt = 0 from by decide] at w2
  try rw [show (nI (B)).toInt = ((B : Nat) : Int) from tn2871_ ()] at w2
  subst w2
  refine lv_if_eq (tgt := 36) hx hb dX11_bearer_5 (by decide) (fun c3 => ?_) (fun c3 => ?_)
  · skip
    have b4 := if10_n c3
    refine lv_iconst (v := (-1)) hx hb dX11_bearer_36 (by decide) ?_
    have hpost : ((-1) : Int32) = if (0 ≤ i.toInt ∧ i.toInt < ((B : Nat) : Int)) ∧ 0 ≤ what.toInt ∧ what.toInt ≤ 2 then fst (20 + 3 * i.toNatClampNeg + what.toNatClampNeg) else -1 := by
      have t_b4 := b4
      have t_n0 : (nI N).toInt = (N : Int) := tn2870_ ()
      have t_n1 : (nI B).toInt = (B : Int) := tn2871_ ()
      have t_n2 : (nI T).toInt = (T : Int) := tn2872_ ()
      have t_n3 : (nI S).toInt = (S : Int) := tn2873_ ()
      have t_n4 : (nI M).toInt = (M : Int) := tn2874_ ()
      have z0 : (0 : Int32).toInt = 0 := qI_0
      have z1 : (1 : Int32).toInt = 1 := qI_1
      have z2 : (2 : Int32).toInt = 2 := qI_2
      have z3 : (3 : Int32).toInt = 3 := qI_3
      have z5 : (5 : Int32).toInt = 5 := qI_5
      have z9 : (9 : Int32).toInt = 9 := qI_9
      have z20 : (20 : Int32).toInt = 20 := qI_20
      have z4 : (-4 : Int32).toInt = -4 := (by decide)
      have z10 : (10 : Int32).toInt = 10 := qI_10
      first | (rw [if_neg (by omega)]; done) | (rw [if_pos (by omega), nI_clamp (by omega), nI_clamp (by omega)]; done)
    refine W.widen (k := 0) (n := 0) (Nat.le_of_ble_eq_true rfl) (Nat.le_of_ble_eq_true rfl) ?_
    exact W.iret (v := (-1)) hx hb hr (fun t ht hW => ⟨⟨(-1), (), rfl, ⟨hpost, trivial⟩, trivial⟩, hS.F ht⟩) hS.2.2 dX11_bearer_37
  · skip
    have b5 := if10_p c3
    refine lv_iload_n hx hb dX11_bearer_8 rfl (lv_at hl 2 rfl) ?_
    refine lv_i2l (v := what.toInt64) hx hb dX11_bearer_9 rfl ?_
    refine lv_lconst (v := 0) hx hb dX11_bearer_10 (by decide) ?_
    refine lv_ldc2 (v := 2) hx hb hown (hg _ wt_1056) dX11_bearer_11 ?_
    have hPc := hP.sub (ws' := []) [] rfl
    refine va_calli (va_runS (As := [.long what.toInt64, .long 0, .long 2]) (rest := []) ⟨hx, hb, hml, hown, hg⟩ (c_X11_in l dC dI G _ what.toInt64 0 2) (kwS hg mfX11_in wt_992 ⟨Nat.le_of_ble_eq_true rfl, Nat.le_of_ble_eq_true rfl⟩) (preSR hK hPc) rfl rfl hl.1 rfl (lv_room (Nat.le_of_ble_eq_true rfl)) dX11_bearer_14 ⟨Nat.le_of_ble_eq_true rfl, Nat.le_of_ble_eq_true rfl⟩) hS (fun q h1 h2 => absurd h2 (Nat.not_le.mpr h1)) (fun q h => hA q (Nat.le_trans hS.1 h)) (fun r6 ur6 t H1 locs ht hvm w7 hB hz1 hk1 hS => ?_)
    have hP := keepR hP hk1
    obtain ⟨w7, w7x⟩ := w7
    try simp only [l_ii, show (0 : Int64).toInt = 0 from by decide, show (2 : Int64).toInt = 2 from by decide] at w7
    subst w7
    refine lv_if_eq (tgt := 36) hx hb dX11_bearer_17 (by decide) (fun c8 => ?_) (fun c8 => ?_)
    · skip
      have b9 := if10_n c8
      refine lv_iconst (v := (-1)) hx hb dX11_bearer_36 (by decide) ?_
      have hpost : ((-1) : Int32) = if (0 ≤ i.toInt ∧ i.toInt < ((B : Nat) : Int)) ∧ 0 ≤ what.toInt ∧ what.toInt ≤ 2 then fst (20 + 3 * i.toNatClampNeg + what.toNatClampNeg) else -1 := by
        have t_b5 := b5
        have t_b9 := b9
        have t_n0 : (nI N).toInt = (N : Int) := tn2870_ ()
        have t_n1 : (nI B).toInt = (B : Int) := tn2871_ ()
        have t_n2 : (nI T).toInt = (T : Int) := tn2872_ ()
        have t_n3 : (nI S).toInt = (S : Int) := tn2873_ ()
        have t_n4 : (nI M).toInt = (M : Int) := tn2874_ ()
        have z0 : (0 : Int32).toInt = 0 := qI_0
        have z1 : (1 : Int32).toInt = 1 := qI_1
        have z2 : (2 : Int32).toInt = 2 := qI_2
        have z3 : (3 : Int32).toInt = 3 := qI_3
        have z5 : (5 : Int32).toInt = 5 := qI_5
        have z9 : (9 : Int32).toInt = 9 := qI_9
        have z20 : (20 : Int32).toInt = 20 := qI_20
        have z4 : (-4 : Int32).toInt = -4 := (by decide)
        have z10 : (10 : Int32).toInt = 10 := qI_10
        first | (rw [if_neg (by omega)]; done) | (rw [if_pos (by omega), nI_clamp (by omega), nI_clamp (by omega)]; done)
      refine W.widen (k := 0) (n := 0) (Nat.le_of_ble_eq_true rfl) (Nat.le_of_ble_eq_true rfl) ?_
      exact W.iret (v := (-1)) hx hb hr (fun t ht hW => ⟨⟨(-1), (), rfl, ⟨hpost, trivial⟩, trivial⟩, hS.F ht⟩) hS.2.2 dX11_bearer_37
    · skip
      have b10 := if10_p c8
      obtain ⟨ii, hii, rfl⟩ : ∃ j : Nat, j < 6 ∧ i = nI j := by
        have t_b5 := b5
        have t_b10 := b10
        have t_n0 : (nI N).toInt = (N : Int) := tn2870_ ()
        have t_n1 : (nI B).toInt = (B : Int) := tn2871_ ()
        have t_n2 : (nI T).toInt = (T : Int) := tn2872_ ()
        have t_n3 : (nI S).toInt = (S : Int) := tn2873_ ()
        have t_n4 : (nI M).toInt = (M : Int) := tn2874_ ()
        exact i32_nat (by omega) (by omega)
      obtain ⟨wh, hwh, rfl⟩ : ∃ j : Nat, j < 3 ∧ what = nI j := by
        have t_b5 := b5
        have t_b10 := b10
        have t_hii := hii
        have t_n0 : (nI N).toInt = (N : Int) := tn2870_ ()
        have t_n1 : (nI B).toInt = (B : Int) := tn2871_ ()
        have t_n2 : (nI T).toInt = (T : Int) := tn2872_ ()
        have t_n3 : (nI S).toInt = (S : Int) := tn2873_ ()
        have t_n4 : (nI M).toInt = (M : Int) := tn2874_ ()
        have tn2875_ : nIT ii := fun _ => nI_toInt (by omega)
        have t_n5 : (nI ii).toInt = (ii : Int) := tn2875_ ()
        exact i32_nat (by omega) (by omega)
      refine lv_aload_n hx hb dX11_bearer_20 rfl (lv_at hl 0 rfl) ?_
      refine va_get (D := (dC, dI)) (ci := 11) (v := .ref st) (C := RX11) (T := TX11) (N := 35) hx hb hg inG11 hown hK.1 hP 0 rfl rfl 0 (by decide) (hg _ wt_878) (fun _ h9 => h9) rfl dX11_bearer_21 ?_
      refine lv_bipush (v := 20) hx hb dX11_bearer_24 (by decide) ?_
      refine lv_iconst (v := 3) hx hb dX11_bearer_26 (by decide) ?_
      refine lv_iload_n hx hb dX11_bearer_27 rfl (lv_at hl 1 rfl) ?_
      refine lv_imul hx hb dX11_bearer_28 ?_
      refine lv_cg (y := nI (3 * ii)) (by rw [show (3 : Int32) = nI 3 from rfl]; exact pk_mul _ _) ?_
      refine lv_iadd hx hb dX11_bearer_29 ?_
      refine lv_cg (y := nI (20 + (3 * ii))) (by rw [show (20 : Int32) = nI 20 from rfl]; exact nI_add _ _) ?_
      refine lv_iload_n hx hb dX11_bearer_30 rfl (lv_at hl 2 rfl) ?_
      refine lv_iadd hx hb dX11_bearer_31 ?_
      refine lv_cg (y := nI ((20 + (3 * ii)) + wh)) (by exact nI_add _ _) ?_
      have tn2876_ : nIT ii := fun _ => nI_toInt (by first | omega | (have t_b5 := b5; have t_b10 := b10; have t_hii := hii; have t_hwh := hwh; omega))
      have tn2877_ : nIT wh := fun _ => nI_toInt (by first | omega | (have t_b5 := b5; have t_b10 := b10; have t_hii := hii; have t_hwh := hwh; omega))
      refine va_iald hx hb hK.1 hP 1 0 rfl rfl (vp_in_nI (by first | omega | (have t_b5 := b5; have t_b10 := b10; have t_hii := hii; have t_hwh := hwh; have t_n0 : (nI N).toInt = (N : Int) := tn2870_ (); have t_n1 : (nI B).toInt = (B : Int) := tn2871_ (); have t_n2 : (nI T).toInt = (T : Int) := tn2872_ (); have t_n3 : (nI S).toInt = (S : Int) := tn2873_ (); have t_n4 : (nI M).toInt = (M : Int) := tn2874_ (); have t_n5 : (nI ii).toInt = (ii : Int) := tn2876_ (); have t_n6 : (nI wh).toInt = (wh : Int) := tn2877_ (); omega)) (by decide)) dX11_bearer_32 ?_
      refine lv_cg (y := fst ((20 + (3 * ii)) + wh)) (by rw [nI_clamp (by omega)]) ?_
      refine lv_goto (tgt := 37) hx hb dX11_bearer_33 (by decide) ?_
      have hpost : (fst ((20 + (3 * ii)) + wh) : Int32) = if (0 ≤ (nI ii).toInt ∧ (nI ii).toInt < ((B : Nat) : Int)) ∧ 0 ≤ (nI wh).toInt ∧ (nI wh).toInt ≤ 2 then fst (20 + 3 * (nI ii).toNatClampNeg + (nI wh).toNatClampNeg) else -1 := by
        have t_b5 := b5
        have t_b10 := b10
        have t_hii := hii
        have t_hwh := hwh
        have t_n0 : (nI N).toInt = (N : Int) := tn2870_ ()
        have t_n1 : (nI B).toInt = (B : Int) := tn2871_ ()
        have t_n2 : (nI T).toInt = (T : Int) := tn2872_ ()
        have t_n3 : (nI S).toInt = (S : Int) := tn2873_ ()
        have t_n4 : (nI M).toInt = (M : Int) := tn2874_ ()
        have t_n5 : (nI ii).toInt = (ii : Int) := tn2876_ ()
        have t_n6 : (nI wh).toInt = (wh : Int) := tn2877_ ()
        have z0 : (0 : Int32).toInt = 0 := qI_0
        have z1 : (1 : Int32).toInt = 1 := qI_1
        have z2 : (2 : Int32).toInt = 2 := qI_2
        have z3 : (3 : Int32).toInt = 3 := qI_3
        have z5 : (5 : Int32).toInt = 5 := qI_5
        have z9 : (9 : Int32).toInt = 9 := qI_9
        have z20 : (20 : Int32).toInt = 20 := qI_20
        have z4 : (-4 : Int32).toInt = -4 := (by decide)
        have z10 : (10 : Int32).toInt = 10 := qI_10
        first | (rw [if_neg (by omega)]; done) | (rw [if_pos (by omega), nI_clamp (by omega), nI_clamp (by omega)]; done)
      refine W.widen (k := 0) (n := 0) (Nat.le_of_ble_eq_true rfl) (Nat.le_of_ble_eq_true rfl) ?_
      exact W.iret (v := fst ((20 + (3 * ii)) + wh)) hx hb hr (fun t ht hW => ⟨⟨fst ((20 + (3 * ii)) + wh), (), rfl, ⟨hpost, trivial⟩, trivial⟩, hS.F ht⟩) hS.2.2 dX11_bearer_37

set_option maxHeartbeats 1000000 in
set_option maxRecDepth 100000 in
theorem c_X11_sets0E (l : Launch) (dC : Nat → ClassId) (dI : Nat → Nat → Nat) (G : Nat → ClassId) (sz : Nat) (h0 st N B rp tp T cu lt od th be ln S ma M ah bh ik la lg ce : Nat) (x1 x2 vrs vrb vhs vca vxs vxb vfa vbr vba vsp vhe vtk vva vto : Int32) (fst : Nat → Int32) (hN : N ≤ 10) (hB : B ≤ 6) (hT : T ≤ 320) (hS0 : S ≤ 8) (hM : M ≤ 6) (hst : OKS fst) : Met l yX11_sets (Cond.code yX11_sets cX11_sets 5 (some .int) :: GT) ({ frames := 0, cells := 0, slots := 0, locals := 0 } : Room) (PcW [.ref h0, .int 0, .int x1, .int x2] dC dI G [(h0, .inr (11, [.ref st, .int (nI N), .int (nI B), .ref rp, .int vrs, .int vrb, .int vhs, .int vca, .int vxs, .int vxb, .ref tp, .int (nI T), .int vfa, .int vbr, .int vba, .int vsp, .int vhe, .int vtk, .int vva, .ref cu, .ref lt, .ref od, .ref th, .ref be, .ref ln, .int (nI S), .ref ma, .int (nI M), .ref ah, .ref bh, .ref ik, .ref la, .ref lg, .ref ce, .int vto])), (st, .inl (G 0, 196, .inl fst))] sz) (va_Qi (fun (r : Int32) (u : (Nat → Int32)) => match u with | ost => (r = -1) ∧ OKS ost ∧ ost = fst) (fun (u : (Nat → Int32)) (t : State) => match u with | ost => va_P (dC, dI) vwCl [(h0, .inr (11, [.ref st, .int (nI N), .int (nI B), .ref rp, .int vrs, .int vrb, .int vhs, .int vca, .int vxs, .int vxb, .ref tp, .int (nI T), .int vfa, .int vbr, .int vba, .int vsp, .int vhe, .int vtk, .int vva, .ref cu, .ref lt, .ref od, .ref th, .ref be, .ref ln, .int (nI S), .ref ma, .int (nI M), .ref ah, .ref bh, .ref ik, .ref la, .ref lg, .ref ce, .int vto])), (st, .inl (G 0, 196, .inl ost))] t.heap ∧ va_D (va_A [(h0, .inr (11, [.ref st, .int (nI N), .int (nI B), .ref rp, .int vrs, .int vrb, .int vhs, .int vca, .int vxs, .int vxb, .ref tp, .int (nI T), .int vfa, .int vbr, .int vba, .int vsp, .int vhe, .int vtk, .int vva, .ref cu, .ref lt, .ref od, .ref th, .ref be, .ref ln, .int (nI S), .ref ma, .int (nI M), .ref ah, .ref bh, .ref ik, .ref la, .ref lg, .ref ce, .int vto])), (st, .inl (G 0, 196, .inl fst))] sz) [(h0, .inr (11, [.ref st, .int (nI N), .int (nI B), .ref rp, .int vrs, .int vrb, .int vhs, .int vca, .int vxs, .int vxb, .ref tp, .int (nI T), .int vfa, .int vbr, .int vba, .int vsp, .int vhe, .int vtk, .int vva, .ref cu, .ref lt, .ref od, .ref th, .ref be, .ref ln, .int (nI S), .ref ma, .int (nI M), .ref ah, .ref bh, .ref ik, .ref la, .ref lg, .ref ce, .int vto])), (st, .inl (G 0, 196, .inl ost))]) (va_A [(h0, .inr (11, [.ref st, .int (nI N), .int (nI B), .ref rp, .int vrs, .int vrb, .int vhs, .int vca, .int vxs, .int vxb, .ref tp, .int (nI T), .int vfa, .int vbr, .int vba, .int vsp, .int vhe, .int vtk, .int vva, .ref cu, .ref lt, .ref od, .ref th, .ref be, .ref ln, .int (nI S), .ref ma, .int (nI M), .ref ah, .ref bh, .ref ik, .ref la, .ref lg, .ref ce, .int vto])), (st, .inl (G 0, 196, .inl fst))] sz)) 0 0 (va_A [(h0, .inr (11, [.ref st, .int (nI N), .int (nI B), .ref rp, .int vrs, .int vrb, .int vhs, .int vca, .int vxs, .int vxb, .ref tp, .int (nI T), .int vfa, .int vbr, .int vba, .int vsp, .int vhe, .int vtk, .int vva, .ref cu, .ref lt, .ref od, .ref th, .ref be, .ref ln, .int (nI S), .ref ma, .int (nI M), .ref ah, .ref bh, .ref ik, .ref la, .ref lg, .ref ce, .int vto])), (st, .inl (G 0, 196, .inl fst))] sz) := by
  refine Met.ofW (cc := cX11_sets) (maxL := 5) (ret := (some .int)) (by decide) rfl ?_
  intro p e s m args below meth c s₁ Bd hml hv
  obtain ⟨rfl, hsz, hP, hK, hD0⟩ := hv
  have hx := Bd.exec
  have hb := Bd.bytes
  have hr := Bd.returns
  have hg : ∀ w ∈ GT, w.before ([.ref h0, .int 0, .int x1, .int x2] : List Value).toArray s = true := fun w h => atoms_spec (ws := Cond.code yX11_sets cX11_sets 5 (some .int) :: GT) Bd.pre w (List.mem_cons_of_mem _ h)
  have hown : s.vm.findClass RX11 = some m.cls := findClass_of_methodNamed Bd.named
  have hlocks := Bd.notSynchronized
  subst hsz
  have hD := hD0.self (sz := s.heap.size)
  generalize hAe : va_A [(h0, .inr (11, [.ref st, .int (nI N), .int (nI B), .ref rp, .int vrs, .int vrb, .int vhs, .int vca, .int vxs, .int vxb, .ref tp, .int (nI T), .int vfa, .int vbr, .int vba, .int vsp, .int vhe, .int vtk, .int vva, .ref cu, .ref lt, .ref od, .ref th, .ref be, .ref ln, .int (nI S), .ref ma, .int (nI M), .ref ah, .ref bh, .ref ik, .ref la, .ref lg, .ref ce, .int vto])), (st, .inl (G 0, 196, .inl fst))] s.heap.size = A at hD ⊢
  have hA : ∀ q : Nat, s.heap.size ≤ q → A q := fun q h => by rw [← hAe]; exact Or.inr h
  have hS : va_S A s.heap s.heap [] := va_S.rf
  have hl := lv_entry ([.ref h0, .int 0, .int x1, .int x2]) (n := 5) (Nat.le_of_ble_eq_true rfl)
  rw [lg_entry_eq]
  generalize (lg_sl ([.ref h0, .int 0, .int x1, .int x2]) ++ List.replicate (5 - (lg_sl ([.ref h0, .int 0, .int x1, .int x2])).length) Slot.unset).toArray = ls at hl ⊢
  have hl : lv_has ls 5 [(0, .ref h0), (1, .int 0), (2, .int x1), (3, .int x2)] := hl
  refine lv_iload_n hx hb dX11_sets_0 rfl (lv_at hl 1 rfl) ?_
  refine lv_if_ne (tgt := 6) hx hb dX11_sets_1 (by decide) (fun c1 => ?_) (fun c1 => ?_)
  · skip
    exact absurd c1 (by decide)
  · skip
    refine lv_iconst (v := (-1)) hx hb dX11_sets_4 (by decide) ?_
    have hpost : ((-1) : Int32) = -1 := by
      rfl
    have hP9 := hP.sub (ws' := [(h0, .inr (11, [.ref st, .int (nI N), .int (nI B), .ref rp, .int vrs, .int vrb, .int vhs, .int vca, .int vxs, .int vxb, .ref tp, .int (nI T), .int vfa, .int vbr, .int vba, .int vsp, .int vhe, .int vtk, .int vva, .ref cu, .ref lt, .ref od, .ref th, .ref be, .ref ln, .int (nI S), .ref ma, .int (nI M), .ref ah, .ref bh, .ref ik, .ref la, .ref lg, .ref ce, .int vto])), (st, .inl (G 0, 196, .inl fst))]) [0, 1] rfl
    have hD9 := hD.sub (ws' := [(h0, .inr (11, [.ref st, .int (nI N), .int (nI B), .ref rp, .int vrs, .int vrb, .int vhs, .int vca, .int vxs, .int vxb, .ref tp, .int (nI T), .int vfa, .int vbr, .int vba, .int vsp, .int vhe, .int vtk, .int vva, .ref cu, .ref lt, .ref od, .ref th, .ref be, .ref ln, .int (nI S), .ref ma, .int (nI M), .ref ah, .ref bh, .ref ik, .ref la, .ref lg, .ref ce, .int vto])), (st, .inl (G 0, 196, .inl fst))]) [0, 1] (by decide) rfl
    refine W.widen (k := 0) (n := 0) (Nat.le_of_ble_eq_true rfl) (Nat.le_of_ble_eq_true rfl) ?_
    exact W.iret (v := (-1)) hx hb hr (fun t ht hW => ⟨⟨(-1), fst, rfl, ⟨hpost, ⟨hst, rfl⟩⟩, ⟨by rw [ht]; exact hP9, hD9⟩⟩, hS.F ht⟩) hS.2.2 dX11_sets_5

set_option maxHeartbeats 1000000 in
set_option maxRecDepth 100000 in
theorem c_X11_sets1E (l : Launch) (dC : Nat → ClassId) (dI : Nat → Nat → Nat) (G : Nat → ClassId) (sz : Nat) (h0 k st N B rp tp T cu lt od th be ln S ma M ah bh ik la lg ce : Nat) (x2 vrs vrb vhs vca vxs vxb vfa vbr vba vsp vhe vtk vva vto : Int32) (fst : Nat → Int32) (hN : N ≤ 10) (hB : B ≤ 6) (hT : T ≤ 320) (hS0 : S ≤ 8) (hM : M ≤ 6) (hst : OKS fst) (hk : k < 196) (hok : okS k x2) : Met l yX11_sets (Cond.code yX11_sets cX11_sets 5 (some .int) :: GT) ({ frames := 0, cells := 0, slots := 0, locals := 0 } : Room) (PcW [.ref h0, .int 1, .int (nI k), .int x2] dC dI G [(h0, .inr (11, [.ref st, .int (nI N), .int (nI B), .ref rp, .int vrs, .int vrb, .int vhs, .int vca, .int vxs, .int vxb, .ref tp, .int (nI T), .int vfa, .int vbr, .int vba, .int vsp, .int vhe, .int vtk, .int vva, .ref cu, .ref lt, .ref od, .ref th, .ref be, .ref ln, .int (nI S), .ref ma, .int (nI M), .ref ah, .ref bh, .ref ik, .ref la, .ref lg, .ref ce, .int vto])), (st, .inl (G 0, 196, .inl fst))] sz) (va_Qi (fun (r : Int32) (u : (Nat → Int32)) => match u with | ost => (r = fst k) ∧ OKS ost ∧ ost = upd fst k x2) (fun (u : (Nat → Int32)) (t : State) => match u with | ost => va_P (dC, dI) vwCl [(h0, .inr (11, [.ref st, .int (nI N), .int (nI B), .ref rp, .int vrs, .int vrb, .int vhs, .int vca, .int vxs, .int vxb, .ref tp, .int (nI T), .int vfa, .int vbr, .int vba, .int vsp, .int vhe, .int vtk, .int vva, .ref cu, .ref lt, .ref od, .ref th, .ref be, .ref ln, .int (nI S), .ref ma, .int (nI M), .ref ah, .ref bh, .ref ik, .ref la, .ref lg, .ref ce, .int vto])), (st, .inl (G 0, 196, .inl ost))] t.heap ∧ va_D (va_A [(h0, .inr (11, [.ref st, .int (nI N), .int (nI B), .ref rp, .int vrs, .int vrb, .int vhs, .int vca, .int vxs, .int vxb, .ref tp, .int (nI T), .int vfa, .int vbr, .int vba, .int vsp, .int vhe, .int vtk, .int vva, .ref cu, .ref lt, .ref od, .ref th, .ref be, .ref ln, .int (nI S), .ref ma, .int (nI M), .ref ah, .ref bh, .ref ik, .ref la, .ref lg, .ref ce, .int vto])), (st, .inl (G 0, 196, .inl fst))] sz) [(h0, .inr (11, [.ref st, .int (nI N), .int (nI B), .ref rp, .int vrs, .int vrb, .int vhs, .int vca, .int vxs, .int vxb, .ref tp, .int (nI T), .int vfa, .int vbr, .int vba, .int vsp, .int vhe, .int vtk, .int vva, .ref cu, .ref lt, .ref od, .ref th, .ref be, .ref ln, .int (nI S), .ref ma, .int (nI M), .ref ah, .ref bh, .ref ik, .ref la, .ref lg, .ref ce, .int vto])), (st, .inl (G 0, 196, .inl ost))]) (va_A [(h0, .inr (11, [.ref st, .int (nI N), .int (nI B), .ref rp, .int vrs, .int vrb, .int vhs, .int vca, .int vxs, .int vxb, .ref tp, .int (nI T), .int vfa, .int vbr, .int vba, .int vsp, .int vhe, .int vtk, .int vva, .ref cu, .ref lt, .ref od, .ref th, .ref be, .ref ln, .int (nI S), .ref ma, .int (nI M), .ref ah, .ref bh, .ref ik, .ref la, .ref lg, .ref ce, .int vto])), (st, .inl (G 0, 196, .inl fst))] sz)) 0 0 (va_A [(h0, .inr (11, [.ref st, .int (nI N), .int (nI B), .ref rp, .int vrs, .int vrb, .int vhs, .int vca, .int vxs, .int vxb, .ref tp, .int (nI T), .int vfa, .int vbr, .int vba, .int vsp, .int vhe, .int vtk, .int vva, .ref cu, .ref lt, .ref od, .ref th, .ref be, .ref ln, .int (nI S), .ref ma, .int (nI M), .ref ah, .ref bh, .ref ik, .ref la, .ref lg, .ref ce, .int vto])), (st, .inl (G 0, 196, .inl fst))] sz) := by
  refine Met.ofW (cc := cX11_sets) (maxL := 5) (ret := (some .int)) (by decide) rfl ?_
  intro p e s m args below meth c s₁ Bd hml hv
  obtain ⟨rfl, hsz, hP, hK, hD0⟩ := hv
  have hx := Bd.exec
  have hb := Bd.bytes
  have hr := Bd.returns
  have hg : ∀ w ∈ GT, w.before ([.ref h0, .int 1, .int (nI k), .int x2] : List Value).toArray s = true := fun w h => atoms_spec (ws := Cond.code yX11_sets cX11_sets 5 (some .int) :: GT) Bd.pre w (List.mem_cons_of_mem _ h)
  have hown : s.vm.findClass RX11 = some m.cls := findClass_of_methodNamed Bd.named
  have hlocks := Bd.notSynchronized
  subst hsz
  have hD := hD0.self (sz := s.heap.size)
  generalize hAe : va_A [(h0, .inr (11, [.ref st, .int (nI N), .int (nI B), .ref rp, .int vrs, .int vrb, .int vhs, .int vca, .int vxs, .int vxb, .ref tp, .int (nI T), .int vfa, .int vbr, .int vba, .int vsp, .int vhe, .int vtk, .int vva, .ref cu, .ref lt, .ref od, .ref th, .ref be, .ref ln, .int (nI S), .ref ma, .int (nI M), .ref ah, .ref bh, .ref ik, .ref la, .ref lg, .ref ce, .int vto])), (st, .inl (G 0, 196, .inl fst))] s.heap.size = A at hD ⊢
  have hA : ∀ q : Nat, s.heap.size ≤ q → A q := fun q h => by rw [← hAe]; exact Or.inr h
  have hS : va_S A s.heap s.heap [] := va_S.rf
  have hl := lv_entry ([.ref h0, .int 1, .int (nI k), .int x2]) (n := 5) (Nat.le_of_ble_eq_true rfl)
  rw [lg_entry_eq]
  generalize (lg_sl ([.ref h0, .int 1, .int (nI k), .int x2]) ++ List.replicate (5 - (lg_sl ([.ref h0, .int 1, .int (nI k), .int x2])).length) Slot.unset).toArray = ls at hl ⊢
  have hl : lv_has ls 5 [(0, .ref h0), (1, .int 1), (2, .int (nI k)), (3, .int x2)] := hl
  refine lv_iload_n hx hb dX11_sets_0 rfl (lv_at hl 1 rfl) ?_
  refine lv_if_ne (tgt := 6) hx hb dX11_sets_1 (by decide) (fun c1 => ?_) (fun c1 => ?_)
  · skip
    refine lv_aload_n hx hb dX11_sets_6 rfl (lv_at hl 0 rfl) ?_
    refine va_get (D := (dC, dI)) (ci := 11) (v := .ref st) (C := RX11) (T := TX11) (N := 35) hx hb hg inG11 hown hK.1 hP 0 rfl rfl 0 (by decide) (hg _ wt_878) (fun _ h9 => h9) rfl dX11_sets_7 ?_
    refine lv_iload_n hx hb dX11_sets_10 rfl (lv_at hl 2 rfl) ?_
    have tn2878_ : nIT k := fun _ => nI_toInt (by first | omega | (have t_c1 := neI c1; have : (0 : Int32).toInt = 0 := qI_0; have : (1 : Int32).toInt = 1 := qI_1; omega))
    have tn2879_ : nIT N := fun _ => nI_toInt (by first | omega | (have t_c1 := neI c1; have : (0 : Int32).toInt = 0 := qI_0; have : (1 : Int32).toInt = 1 := qI_1; omega))
    have tn2880_ : nIT B := fun _ => nI_toInt (by first | omega | (have t_c1 := neI c1; have : (0 : Int32).toInt = 0 := qI_0; have : (1 : Int32).toInt = 1 := qI_1; omega))
    have tn2881_ : nIT T := fun _ => nI_toInt (by first | omega | (have t_c1 := neI c1; have : (0 : Int32).toInt = 0 := qI_0; have : (1 : Int32).toInt = 1 := qI_1; omega))
    have tn2882_ : nIT S := fun _ => nI_toInt (by first | omega | (have t_c1 := neI c1; have : (0 : Int32).toInt = 0 := qI_0; have : (1 : Int32).toInt = 1 := qI_1; omega))
    have tn2883_ : nIT M := fun _ => nI_toInt (by first | omega | (have t_c1 := neI c1; have : (0 : Int32).toInt = 0 := qI_0; have : (1 : Int32).toInt = 1 := qI_1; omega))
    refine va_iald hx hb hK.1 hP 1 0 rfl rfl (vp_in_nI (by first | omega | (have t_c1 := neI c1; have : (0 : Int32).toInt = 0 := qI_0; have : (1 : Int32).toInt = 1 := qI_1; have t_n0 : (nI k).toInt = (k : Int) := tn2878_ (); have t_n1 : (nI N).toInt = (N : Int) := tn2879_ (); have t_n2 : (nI B).toInt = (B : Int) := tn2880_ (); have t_n3 : (nI T).toInt = (T : Int) := tn2881_ (); have t_n4 : (nI S).toInt = (S : Int) := tn2882_ (); have t_n5 : (nI M).toInt = (M : Int) := tn2883_ (); omega)) (by decide)) dX11_sets_11 ?_
    refine lv_cg (y := fst k) (by rw [nI_clamp (by omega)]) ?_
    refine lv_istore (lv' := [(4, .int (fst k)), (0, .ref h0), (1, .int 1), (2, .int (nI k)), (3, .int x2)]) hx hb dX11_sets_12 hl (by decide) rfl (fun ls hl => ?_)
    refine lv_aload_n hx hb dX11_sets_14 rfl (lv_at hl 1 rfl) ?_
    refine va_get (D := (dC, dI)) (ci := 11) (v := .ref st) (C := RX11) (T := TX11) (N := 35) hx hb hg inG11 hown hK.1 hP 0 rfl rfl 0 (by decide) (hg _ wt_878) (fun _ h9 => h9) rfl dX11_sets_15 ?_
    refine lv_iload_n hx hb dX11_sets_18 rfl (lv_at hl 3 rfl) ?_
    refine lv_iload_n hx hb dX11_sets_19 rfl (lv_at hl 4 rfl) ?_
    refine va_iast hx hb hK.1 hP hD hS 1 0 rfl rfl (vp_in_nI (by first | omega | (have t_c1 := neI c1; have : (0 : Int32).toInt = 0 := qI_0; have : (1 : Int32).toInt = 1 := qI_1; have t_n0 : (nI k).toInt = (k : Int) := tn2878_ (); have t_n1 : (nI N).toInt = (N : Int) := tn2879_ (); have t_n2 : (nI B).toInt = (B : Int) := tn2880_ (); have t_n3 : (nI T).toInt = (T : Int) := tn2881_ (); have t_n4 : (nI S).toInt = (S : Int) := tn2882_ (); have t_n5 : (nI M).toInt = (M : Int) := tn2883_ (); omega)) (by decide)) dX11_sets_20 (fun H locs hP hD hS => ?_)
    rw [nI_clamp (by omega)] at hP hD
    have hP : va_P (dC, dI) vwCl [(h0, .inr (11, [.ref st, .int (nI N), .int (nI B), .ref rp, .int vrs, .int vrb, .int vhs, .int vca, .int vxs, .int vxb, .ref tp, .int (nI T), .int vfa, .int vbr, .int vba, .int vsp, .int vhe, .int vtk, .int vva, .ref cu, .ref lt, .ref od, .ref th, .ref be, .ref ln, .int (nI S), .ref ma, .int (nI M), .ref ah, .ref bh, .ref ik, .ref la, .ref lg, .ref ce, .int vto])), (st, .inl (G 0, 196, .inl (upd fst k x2)))] H := hP
    have hD : va_D A [(h0, .inr (11, [.ref st, .int (nI N), .int (nI B), .ref rp, .int vrs, .int vrb, .int vhs, .int vca, .int vxs, .int vxb, .ref tp, .int (nI T), .int vfa, .int vbr, .int vba, .int vsp, .int vhe, .int vtk, .int vva, .ref cu, .ref lt, .ref od, .ref th, .ref be, .ref ln, .int (nI S), .ref ma, .int (nI M), .ref ah, .ref bh, .ref ik, .ref la, .ref lg, .ref ce, .int vto])), (st, .inl (G 0, 196, .inl (upd fst k x2)))] := hD
    refine lv_iload hx hb dX11_sets_21 (lv_at hl 0 rfl) ?_
    have hpost : (fst k : Int32) = fst k := by
      rfl
    have hP9 := hP.sub (ws' := [(h0, .inr (11, [.ref st, .int (nI N), .int (nI B), .ref rp, .int vrs, .int vrb, .int vhs, .int vca, .int vxs, .int vxb, .ref tp, .int (nI T), .int vfa, .int vbr, .int vba, .int vsp, .int vhe, .int vtk, .int vva, .ref cu, .ref lt, .ref od, .ref th, .ref be, .ref ln, .int (nI S), .ref ma, .int (nI M), .ref ah, .ref bh, .ref ik, .ref la, .ref lg, .ref ce, .int vto])), (st, .inl (G 0, 196, .inl (upd fst k x2)))]) [0, 1] rfl
    have hD9 := hD.sub (ws' := [(h0, .inr (11, [.ref st, .int (nI N), .int (nI B), .ref rp, .int vrs, .int vrb, .int vhs, .int vca, .int vxs, .int vxb, .ref tp, .int (nI T), .int vfa, .int vbr, .int vba, .int vsp, .int vhe, .int vtk, .int vva, .ref cu, .ref lt, .ref od, .ref th, .ref be, .ref ln, .int (nI S), .ref ma, .int (nI M), .ref ah, .ref bh, .ref ik, .ref la, .ref lg, .ref ce, .int vto])), (st, .inl (G 0, 196, .inl (upd fst k x2)))]) [0, 1] (by decide) rfl
    refine W.widen (k := 0) (n := 0) (Nat.le_of_ble_eq_true rfl) (Nat.le_of_ble_eq_true rfl) ?_
    exact W.iret (v := fst k) hx hb hr (fun t ht hW => ⟨⟨fst k, (upd fst k x2), rfl, ⟨hpost, ⟨hst.upd hok, rfl⟩⟩, ⟨by rw [ht]; exact hP9, hD9⟩⟩, hS.F ht⟩) hS.2.2 dX11_sets_23
  · skip
    exact absurd c1 (by decide)

set_option maxHeartbeats 1000000 in
set_option maxRecDepth 100000 in
theorem c_X11_startE (l : Launch) (dC : Nat → ClassId) (dI : Nat → Nat → Nat) (G : Nat → ClassId) (sz : Nat) (h0 st N B rp tp T cu lt od th be ln S ma M ah bh ik la lg ce : Nat) (v vrs vrb vhs vca vxs vxb vfa vbr vba vsp vhe vtk vva vto : Int32) (fst : Nat → Int32) (hN : N ≤ 10) (hB : B ≤ 6) (hT : T ≤ 320) (hS0 : S ≤ 8) (hM : M ≤ 6) (hst : OKS fst) : Met l yX11_start (Cond.code yX11_start cX11_start 2 (some .int) :: GT) ({ frames := 1, cells := 0, slots := 0, locals := 25 } : Room) (PcW [.ref h0, .int v] dC dI G [(h0, .inr (11, [.ref st, .int (nI N), .int (nI B), .ref rp, .int vrs, .int vrb, .int vhs, .int vca, .int vxs, .int vxb, .ref tp, .int (nI T), .int vfa, .int vbr, .int vba, .int vsp, .int vhe, .int vtk, .int vva, .ref cu, .ref lt, .ref od, .ref th, .ref be, .ref ln, .int (nI S), .ref ma, .int (nI M), .ref ah, .ref bh, .ref ik, .ref la, .ref lg, .ref ce, .int vto])), (st, .inl (G 0, 196, .inl fst))] sz) (va_Qi (fun (r : Int32) (u : (Nat → Int32)) => match u with | ost => (r = if (1 ≤ v.toInt ∧ v.toInt ≤ 9) then 5 + fst 48 else -1) ∧ OKS ost ∧ ost = (if (1 ≤ v.toInt ∧ v.toInt ≤ 9) then upd fst 48 (v - 5) else fst)) (fun (u : (Nat → Int32)) (t : State) => match u with | ost => va_P (dC, dI) vwCl [(h0, .inr (11, [.ref st, .int (nI N), .int (nI B), .ref rp, .int vrs, .int vrb, .int vhs, .int vca, .int vxs, .int vxb, .ref tp, .int (nI T), .int vfa, .int vbr, .int vba, .int vsp, .int vhe, .int vtk, .int vva, .ref cu, .ref lt, .ref od, .ref th, .ref be, .ref ln, .int (nI S), .ref ma, .int (nI M), .ref ah, .ref bh, .ref ik, .ref la, .ref lg, .ref ce, .int vto])), (st, .inl (G 0, 196, .inl ost))] t.heap ∧ va_D (va_A [(h0, .inr (11, [.ref st, .int (nI N), .int (nI B), .ref rp, .int vrs, .int vrb, .int vhs, .int vca, .int vxs, .int vxb, .ref tp, .int (nI T), .int vfa, .int vbr, .int vba, .int vsp, .int vhe, .int vtk, .int vva, .ref cu, .ref lt, .ref od, .ref th, .ref be, .ref ln, .int (nI S), .ref ma, .int (nI M), .ref ah, .ref bh, .ref ik, .ref la, .ref lg, .ref ce, .int vto])), (st, .inl (G 0, 196, .inl fst))] sz) [(h0, .inr (11, [.ref st, .int (nI N), .int (nI B), .ref rp, .int vrs, .int vrb, .int vhs, .int vca, .int vxs, .int vxb, .ref tp, .int (nI T), .int vfa, .int vbr, .int vba, .int vsp, .int vhe, .int vtk, .int vva, .ref cu, .ref lt, .ref od, .ref th, .ref be, .ref ln, .int (nI S), .ref ma, .int (nI M), .ref ah, .ref bh, .ref ik, .ref la, .ref lg, .ref ce, .int vto])), (st, .inl (G 0, 196, .inl ost))]) (va_A [(h0, .inr (11, [.ref st, .int (nI N), .int (nI B), .ref rp, .int vrs, .int vrb, .int vhs, .int vca, .int vxs, .int vxb, .ref tp, .int (nI T), .int vfa, .int vbr, .int vba, .int vsp, .int vhe, .int vtk, .int vva, .ref cu, .ref lt, .ref od, .ref th, .ref be, .ref ln, .int (nI S), .ref ma, .int (nI M), .ref ah, .ref bh, .ref ik, .ref la, .ref lg, .ref ce, .int vto])), (st, .inl (G 0, 196, .inl fst))] sz)) 0 0 (va_A [(h0, .inr (11, [.ref st, .int (nI N), .int (nI B), .ref rp, .int vrs, .int vrb, .int vhs, .int vca, .int vxs, .int vxb, .ref tp, .int (nI T), .int vfa, .int vbr, .int vba, .int vsp, .int vhe, .int vtk, .int vva, .ref cu, .ref lt, .ref od, .ref th, .ref be, .ref ln, .int (nI S), .ref ma, .int (nI M), .ref ah, .ref bh, .ref ik, .ref la, .ref lg, .ref ce, .int vto])), (st, .inl (G 0, 196, .inl fst))] sz) := by
  have hB_ := hB
  have hM_ := hM
  have hT_ := hT
  refine Met.ofW (cc := cX11_start) (maxL := 2) (ret := (some .int)) (by decide) rfl ?_
  intro p e s m args below meth c s₁ Bd hml hv
  obtain ⟨rfl, hsz, hP, hK, hD0⟩ := hv
  have hx := Bd.exec
  have hb := Bd.bytes
  have hr := Bd.returns
  have hg : ∀ w ∈ GT, w.before ([.ref h0, .int v] : List Value).toArray s = true := fun w h => atoms_spec (ws := Cond.code yX11_start cX11_start 2 (some .int) :: GT) Bd.pre w (List.mem_cons_of_mem _ h)
  have hown : s.vm.findClass RX11 = some m.cls := findClass_of_methodNamed Bd.named
  have hlocks := Bd.notSynchronized
  subst hsz
  have hD := hD0.self (sz := s.heap.size)
  generalize hAe : va_A [(h0, .inr (11, [.ref st, .int (nI N), .int (nI B), .ref rp, .int vrs, .int vrb, .int vhs, .int vca, .int vxs, .int vxb, .ref tp, .int (nI T), .int vfa, .int vbr, .int vba, .int vsp, .int vhe, .int vtk, .int vva, .ref cu, .ref lt, .ref od, .ref th, .ref be, .ref ln, .int (nI S), .ref ma, .int (nI M), .ref ah, .ref bh, .ref ik, .ref la, .ref lg, .ref ce, .int vto])), (st, .inl (G 0, 196, .inl fst))] s.heap.size = A at hD ⊢
  have hA : ∀ q : Nat, s.heap.size ≤ q → A q := fun q h => by rw [← hAe]; exact Or.inr h
  have hS : va_S A s.heap s.heap [] := va_S.rf
  have hl := lv_entry ([.ref h0, .int v]) (n := 2) (Nat.le_of_ble_eq_true rfl)
  rw [lg_entry_eq]
  generalize (lg_sl ([.ref h0, .int v]) ++ List.replicate (2 - (lg_sl ([.ref h0, .int v])).length) Slot.unset).toArray = ls at hl ⊢
  have hl : lv_has ls 2 [(0, .ref h0), (1, .int v)] := hl
  refine lv_iload_n hx hb dX11_start_0 rfl (lv_at hl 1 rfl) ?_
  refine lv_i2l (v := v.toInt64) hx hb dX11_start_1 rfl ?_
  refine lv_lconst (v := 1) hx hb dX11_start_2 (by decide) ?_
  refine lv_ldc2 (v := 9) hx hb hown (hg _ wt_1069) dX11_start_3 ?_
  have hPc := hP.sub (ws' := []) [] rfl
  refine va_calli (va_runS (As := [.long v.toInt64, .long 1, .long 9]) (rest := []) ⟨hx, hb, hml, hown, hg⟩ (c_X11_in l dC dI G _ v.toInt64 1 9) (kwS hg mfX11_in wt_992 ⟨Nat.le_of_ble_eq_true rfl, Nat.le_of_ble_eq_true rfl⟩) (preSR hK hPc) rfl rfl hl.1 rfl (lv_room (Nat.le_of_ble_eq_true rfl)) dX11_start_6 ⟨Nat.le_of_ble_eq_true rfl, Nat.le_of_ble_eq_true rfl⟩) hS (fun q h1 h2 => absurd h2 (Nat.not_le.mpr h1)) (fun q h => hA q (Nat.le_trans hS.1 h)) (fun r1 ur1 t H1 locs ht hvm w2 hB hz1 hk1 hS => ?_)
  have hP := keepR hP hk1
  obtain ⟨w2, w2x⟩ := w2
  try simp only [l_ii, show (1 : Int64).toInt = 1 from by decide, show (9 : Int64).toInt = 9 from by decide] at w2
  subst w2
  refine lv_if_ne (tgt := 14) hx hb dX11_start_9 (by decide) (fun c3 => ?_) (fun c3 => ?_)
  · skip
    have b4 := if10_p c3
    refine lv_iconst (v := 5) hx hb dX11_start_14 (by decide) ?_
    refine lv_aload_n hx hb dX11_start_15 rfl (lv_at hl 0 rfl) ?_
    refine lv_iconst (v := 1) hx hb dX11_start_16 (by decide) ?_
    refine lv_bipush (v := 48) hx hb dX11_start_17 (by decide) ?_
    refine lv_iload_n hx hb dX11_start_19 rfl (lv_at hl 1 rfl) ?_
    refine lv_iconst (v := 5) hx hb dX11_start_20 (by decide) ?_
    refine lv_isub hx hb dX11_start_21 ?_
    have hPc := hP.sub (ws' := [(h0, .inr (11, [.ref st, .int (nI N), .int (nI B), .ref rp, .int vrs, .int vrb, .int vhs, .int vca, .int vxs, .int vxb, .ref tp, .int (nI T), .int vfa, .int vbr, .int vba, .int vsp, .int vhe, .int vtk, .int vva, .ref cu, .ref lt, .ref od, .ref th, .ref be, .ref ln, .int (nI S), .ref ma, .int (nI M), .ref ah, .ref bh, .ref ik, .ref la, .ref lg, .ref ce, .int vto])), (st, .inl (G 0, 196, .inl fst))]) [0, 1] rfl
    have hDc := hD.sub (ws' := [(h0, .inr (11, [.ref st, .int (nI N), .int (nI B), .ref rp, .int vrs, .int vrb, .int vhs, .int vca, .int vxs, .int vxb, .ref tp, .int (nI T), .int vfa, .int vbr, .int vba, .int vsp, .int vhe, .int vtk, .int vva, .ref cu, .ref lt, .ref od, .ref th, .ref be, .ref ln, .int (nI S), .ref ma, .int (nI M), .ref ah, .ref bh, .ref ik, .ref la, .ref lg, .ref ce, .int vto])), (st, .inl (G 0, 196, .inl fst))]) [0, 1] (by decide) rfl
    have hFc := va_free (wc := [(h0, .inr (11, [.ref st, .int (nI N), .int (nI B), .ref rp, .int vrs, .int vrb, .int vhs, .int vca, .int vxs, .int vxb, .ref tp, .int (nI T), .int vfa, .int vbr, .int vba, .int vsp, .int vhe, .int vtk, .int vva, .ref cu, .ref lt, .ref od, .ref th, .ref be, .ref ln, .int (nI S), .ref ma, .int (nI M), .ref ah, .ref bh, .ref ik, .ref la, .ref lg, .ref ce, .int vto])), (st, .inl (G 0, 196, .inl fst))]) hD hS hA [0, 1] rfl
    have tn2884_ : nIT N := fun _ => nI_toInt (by first | omega | (have t_b4 := b4; omega))
    have tn2885_ : nIT B := fun _ => nI_toInt (by first | omega | (have t_b4 := b4; omega))
    have tn2886_ : nIT T := fun _ => nI_toInt (by first | omega | (have t_b4 := b4; omega))
    have tn2887_ : nIT S := fun _ => nI_toInt (by first | omega | (have t_b4 := b4; omega))
    have tn2888_ : nIT M := fun _ => nI_toInt (by first | omega | (have t_b4 := b4; omega))
    refine va_calli (va_runV (As := [.int 1, .int 48, .int (v - 5)]) (rest := [.int 5]) ⟨hx, hb, hml, hown, hg⟩ (c_X11_sets1E l dC dI G _ h0 48 st N B rp tp T cu lt od th be ln S ma M ah bh ik la lg ce (v - 5) vrs vrb vhs vca vxs vxb vfa vbr vba vsp vhe vtk vva vto fst hN hB_ hT_ hS0 hM_ hst (by first | omega | (have t_b4 := b4; have t_n0 : (nI N).toInt = (N : Int) := tn2884_ (); have t_n1 : (nI B).toInt = (B : Int) := tn2885_ (); have t_n2 : (nI T).toInt = (T : Int) := tn2886_ (); have t_n3 : (nI S).toInt = (S : Int) := tn2887_ (); have t_n4 : (nI M).toInt = (M : Int) := tn2888_ (); omega)) (okS_sd (by have t_b4 := b4; have t_n0 : (nI N).toInt = (N : Int) := tn2884_ (); have t_n1 : (nI B).toInt = (B : Int) := tn2885_ (); have t_n2 : (nI T).toInt = (T : Int) := tn2886_ (); have t_n3 : (nI S).toInt = (S : Int) := tn2887_ (); have t_n4 : (nI M).toInt = (M : Int) := tn2888_ (); omega) (by have t_b4 := b4; have t_n0 : (nI N).toInt = (N : Int) := tn2884_ (); have t_n1 : (nI B).toInt = (B : Int) := tn2885_ (); have t_n2 : (nI T).toInt = (T : Int) := tn2886_ (); have t_n3 : (nI S).toInt = (S : Int) := tn2887_ (); have t_n4 : (nI M).toInt = (M : Int) := tn2888_ (); omega))) (kwV hg mfX11_sets wt_1070 ⟨Nat.le_of_ble_eq_true rfl, Nat.le_of_ble_eq_true rfl⟩) (preVW hK hPc hDc (ci := 11) rfl rfl) rfl rfl hl.1 rfl (lv_room (Nat.le_of_ble_eq_true rfl)) dX11_start_22 ⟨Nat.le_of_ble_eq_true rfl, Nat.le_of_ble_eq_true rfl⟩) hS (fun q _ h => hFc q h) hFc (fun r5 ur5 t H1 locs ht hvm w6 hB hz1 hk1 hS => ?_)
    obtain ⟨u7, rfl⟩ : ∃ z, z = ur5 := ⟨_, rfl⟩
    obtain ⟨hP1, hD1⟩ := hB
    rw [ht] at hP1
    obtain ⟨hP, hD⟩ := va_join (wr := []) (w1 := [(h0, .inr (11, [.ref st, .int (nI N), .int (nI B), .ref rp, .int vrs, .int vrb, .int vhs, .int vca, .int vxs, .int vxb, .ref tp, .int (nI T), .int vfa, .int vbr, .int vba, .int vsp, .int vhe, .int vtk, .int vva, .ref cu, .ref lt, .ref od, .ref th, .ref be, .ref ln, .int (nI S), .ref ma, .int (nI M), .ref ah, .ref bh, .ref ik, .ref la, .ref lg, .ref ce, .int vto])), (st, .inl (G 0, 196, .inl u7))]) hP hD [0, 1] [] rfl rfl (by decide) (by decide) hk1 hFc hP1 hD1
    generalize H1 = H at hP hS ⊢
    have hP : va_P (dC, dI) vwCl [(h0, .inr (11, [.ref st, .int (nI N), .int (nI B), .ref rp, .int vrs, .int vrb, .int vhs, .int vca, .int vxs, .int vxb, .ref tp, .int (nI T), .int vfa, .int vbr, .int vba, .int vsp, .int vhe, .int vtk, .int vva, .ref cu, .ref lt, .ref od, .ref th, .ref be, .ref ln, .int (nI S), .ref ma, .int (nI M), .ref ah, .ref bh, .ref ik, .ref la, .ref lg, .ref ce, .int vto])), (st, .inl (G 0, 196, .inl u7))] H := hP
    have hD : va_D A [(h0, .inr (11, [.ref st, .int (nI N), .int (nI B), .ref rp, .int vrs, .int vrb, .int vhs, .int vca, .int vxs, .int vxb, .ref tp, .int (nI T), .int vfa, .int vbr, .int vba, .int vsp, .int vhe, .int vtk, .int vva, .ref cu, .ref lt, .ref od, .ref th, .ref be, .ref ln, .int (nI S), .ref ma, .int (nI M), .ref ah, .ref bh, .ref ik, .ref la, .ref lg, .ref ce, .int vto])), (st, .inl (G 0, 196, .inl u7))] := hD
    obtain ⟨w6, w6x⟩ := w6
    refine lv_iadd hx hb dX11_start_25 ?_
    have hpost : (5 + r5 : Int32) = if (1 ≤ v.toInt ∧ v.toInt ≤ 9) then 5 + fst 48 else -1 := by
      have t_b4 := b4
      have t_n0 : (nI N).toInt = (N : Int) := tn2884_ ()
      have t_n1 : (nI B).toInt = (B : Int) := tn2885_ ()
      have t_n2 : (nI T).toInt = (T : Int) := tn2886_ ()
      have t_n3 : (nI S).toInt = (S : Int) := tn2887_ ()
      have t_n4 : (nI M).toInt = (M : Int) := tn2888_ ()
      have z0 : (0 : Int32).toInt = 0 := qI_0
      have z1 : (1 : Int32).toInt = 1 := qI_1
      have z2 : (2 : Int32).toInt = 2 := qI_2
      have z3 : (3 : Int32).toInt = 3 := qI_3
      have z5 : (5 : Int32).toInt = 5 := qI_5
      have z9 : (9 : Int32).toInt = 9 := qI_9
      have z20 : (20 : Int32).toInt = 20 := qI_20
      have z4 : (-4 : Int32).toInt = -4 := (by decide)
      have z10 : (10 : Int32).toInt = 10 := qI_10
      rw [if_pos (by omega)]
      (try rw [nI_clamp (by omega)])
      rw [w6]
    have hP9 := hP.sub (ws' := [(h0, .inr (11, [.ref st, .int (nI N), .int (nI B), .ref rp, .int vrs, .int vrb, .int vhs, .int vca, .int vxs, .int vxb, .ref tp, .int (nI T), .int vfa, .int vbr, .int vba, .int vsp, .int vhe, .int vtk, .int vva, .ref cu, .ref lt, .ref od, .ref th, .ref be, .ref ln, .int (nI S), .ref ma, .int (nI M), .ref ah, .ref bh, .ref ik, .ref la, .ref lg, .ref ce, .int vto])), (st, .inl (G 0, 196, .inl u7))]) [0, 1] rfl
    have hD9 := hD.sub (ws' := [(h0, .inr (11, [.ref st, .int (nI N), .int (nI B), .ref rp, .int vrs, .int vrb, .int vhs, .int vca, .int vxs, .int vxb, .ref tp, .int (nI T), .int vfa, .int vbr, .int vba, .int vsp, .int vhe, .int vtk, .int vva, .ref cu, .ref lt, .ref od, .ref th, .ref be, .ref ln, .int (nI S), .ref ma, .int (nI M), .ref ah, .ref bh, .ref ik, .ref la, .ref lg, .ref ce, .int vto])), (st, .inl (G 0, 196, .inl u7))]) [0, 1] (by decide) rfl
    refine W.widen (k := 0) (n := 0) (Nat.le_of_ble_eq_true rfl) (Nat.le_of_ble_eq_true rfl) ?_
    exact W.iret (v := 5 + r5) hx hb hr (fun t ht hW => ⟨⟨5 + r5, u7, rfl, ⟨hpost, ⟨w6x.1, (by have t_b4 := b4; have t_n0 : (nI N).toInt = (N : Int) := tn2884_ (); have t_n1 : (nI B).toInt = (B : Int) := tn2885_ (); have t_n2 : (nI T).toInt = (T : Int) := tn2886_ (); have t_n3 : (nI S).toInt = (S : Int) := tn2887_ (); have t_n4 : (nI M).toInt = (M : Int) := tn2888_ (); have z0 : (0 : Int32).toInt = 0 := qI_0; have z1 : (1 : Int32).toInt = 1 := qI_1; have z2 : (2 : Int32).toInt = 2 := qI_2; have z3 : (3 : Int32).toInt = 3 := qI_3; have z5 : (5 : Int32).toInt = 5 := qI_5; have z9 : (9 : Int32).toInt = 9 := qI_9; have z20 : (20 : Int32).toInt = 20 := qI_20; have z4 : (-4 : Int32).toInt = -4 := (by decide); have z10 : (10 : Int32).toInt = 10 := qI_10; rw [if_pos (by omega)]; (try rw [nI_clamp (by omega)]); exact w6x.2)⟩⟩, ⟨by rw [ht]; exact hP9, hD9⟩⟩, hS.F ht⟩) hS.2.2 dX11_start_26
  · skip
    have b8 := if10_n c3
    refine lv_iconst (v := (-1)) hx hb dX11_start_12 (by decide) ?_
    have hpost : ((-1) : Int32) = if (1 ≤ v.toInt ∧ v.toInt ≤ 9) then 5 + fst 48 else -1 := by
      have t_b8 := b8
      have tn2889_ : nIT N := fun _ => nI_toInt (by omega)
      have t_n0 : (nI N).toInt = (N : Int) := tn2889_ ()
      have tn2890_ : nIT B := fun _ => nI_toInt (by omega)
      have t_n1 : (nI B).toInt = (B : Int) := tn2890_ ()
      have tn2891_ : nIT T := fun _ => nI_toInt (by omega)
      have t_n2 : (nI T).toInt = (T : Int) := tn2891_ ()
      have tn2892_ : nIT S := fun _ => nI_toInt (by omega)
      have t_n3 : (nI S).toInt = (S : Int) := tn2892_ ()
      have tn2893_ : nIT M := fun _ => nI_toInt (by omega)
      have t_n4 : (nI M).toInt = (M : Int) := tn2893_ ()
      have z0 : (0 : Int32).toInt = 0 := qI_0
      have z1 : (1 : Int32).toInt = 1 := qI_1
      have z2 : (2 : Int32).toInt = 2 := qI_2
      have z3 : (3 : Int32).toInt = 3 := qI_3
      have z5 : (5 : Int32).toInt = 5 := qI_5
      have z9 : (9 : Int32).toInt = 9 := qI_9
      have z20 : (20 : Int32).toInt = 20 := qI_20
      have z4 : (-4 : Int32).toInt = -4 := (by decide)
      have z10 : (10 : Int32).toInt = 10 := qI_10
      rw [if_neg (by omega)]
    have hP9 := hP.sub (ws' := [(h0, .inr (11, [.ref st, .int (nI N), .int (nI B), .ref rp, .int vrs, .int vrb, .int vhs, .int vca, .int vxs, .int vxb, .ref tp, .int (nI T), .int vfa, .int vbr, .int vba, .int vsp, .int vhe, .int vtk, .int vva, .ref cu, .ref lt, .ref od, .ref th, .ref be, .ref ln, .int (nI S), .ref ma, .int (nI M), .ref ah, .ref bh, .ref ik, .ref la, .ref lg, .ref ce, .int vto])), (st, .inl (G 0, 196, .inl fst))]) [0, 1] rfl
    have hD9 := hD.sub (ws' := [(h0, .inr (11, [.ref st, .int (nI N), .int (nI B), .ref rp, .int vrs, .int vrb, .int vhs, .int vca, .int vxs, .int vxb, .ref tp, .int (nI T), .int vfa, .int vbr, .int vba, .int vsp, .int vhe, .int vtk, .int vva, .ref cu, .ref lt, .ref od, .ref th, .ref be, .ref ln, .int (nI S), .ref ma, .int (nI M), .ref ah, .ref bh, .ref ik, .ref la, .ref lg, .ref ce, .int vto])), (st, .inl (G 0, 196, .inl fst))]) [0, 1] (by decide) rfl
    refine W.widen (k := 0) (n := 0) (Nat.le_of_ble_eq_true rfl) (Nat.le_of_ble_eq_true rfl) ?_
    have tn2894_ : nIT N := fun _ => nI_toInt (by first | omega | (have t_b8 := b8; omega))
    have tn2895_ : nIT B := fun _ => nI_toInt (by first | omega | (have t_b8 := b8; omega))
    have tn2896_ : nIT T := fun _ => nI_toInt (by first | omega | (have t_b8 := b8; omega))
    have tn2897_ : nIT S := fun _ => nI_toInt (by first | omega | (have t_b8 := b8; omega))
    have tn2898_ : nIT M := fun _ => nI_toInt (by first | omega | (have t_b8 := b8; omega))
    exact W.iret (v := (-1)) hx hb hr (fun t ht hW => ⟨⟨(-1), fst, rfl, ⟨hpost, ⟨hst, (by have t_b8 := b8; have t_n0 : (nI N).toInt = (N : Int) := tn2894_ (); have t_n1 : (nI B).toInt = (B : Int) := tn2895_ (); have t_n2 : (nI T).toInt = (T : Int) := tn2896_ (); have t_n3 : (nI S).toInt = (S : Int) := tn2897_ (); have t_n4 : (nI M).toInt = (M : Int) := tn2898_ (); have z0 : (0 : Int32).toInt = 0 := qI_0; have z1 : (1 : Int32).toInt = 1 := qI_1; have z2 : (2 : Int32).toInt = 2 := qI_2; have z3 : (3 : Int32).toInt = 3 := qI_3; have z5 : (5 : Int32).toInt = 5 := qI_5; have z9 : (9 : Int32).toInt = 9 := qI_9; have z20 : (20 : Int32).toInt = 20 := qI_20; have z4 : (-4 : Int32).toInt = -4 := (by decide); have z10 : (10 : Int32).toInt = 10 := qI_10; rw [if_neg (by omega)])⟩⟩, ⟨by rw [ht]; exact hP9, hD9⟩⟩, hS.F ht⟩) hS.2.2 dX11_start_13

set_option maxHeartbeats 1000000 in
set_option maxRecDepth 100000 in
theorem c_X11_noiseE (l : Launch) (dC : Nat → ClassId) (dI : Nat → Nat → Nat) (G : Nat → ClassId) (sz : Nat) (h0 st N B rp tp T cu lt od th be ln S ma M ah bh ik la lg ce : Nat) (i v vrs vrb vhs vca vxs vxb vfa vbr vba vsp vhe vtk vva vto : Int32) (fst : Nat → Int32) (hN : N ≤ 10) (hB : B ≤ 6) (hT : T ≤ 320) (hS0 : S ≤ 8) (hM : M ≤ 6) (hst : OKS fst) : Met l yX11_noise (Cond.code yX11_noise cX11_noise 3 (some .int) :: GT) ({ frames := 2, cells := 0, slots := 0, locals := 46 } : Room) (PcW [.ref h0, .int i, .int v] dC dI G [(h0, .inr (11, [.ref st, .int (nI N), .int (nI B), .ref rp, .int vrs, .int vrb, .int vhs, .int vca, .int vxs, .int vxb, .ref tp, .int (nI T), .int vfa, .int vbr, .int vba, .int vsp, .int vhe, .int vtk, .int vva, .ref cu, .ref lt, .ref od, .ref th, .ref be, .ref ln, .int (nI S), .ref ma, .int (nI M), .ref ah, .ref bh, .ref ik, .ref la, .ref lg, .ref ce, .int vto])), (st, .inl (G 0, 196, .inl fst))] sz) (va_Qi (fun (r : Int32) (u : (Nat → Int32)) => match u with | ost => (r = if ((0 ≤ i.toInt ∧ i.toInt < ((N : Nat) : Int)) ∧ 0 ≤ v.toInt ∧ v.toInt ≤ 9) then fst (2 * i.toNatClampNeg) else -1) ∧ OKS ost ∧ ost = (if ((0 ≤ i.toInt ∧ i.toInt < ((N : Nat) : Int)) ∧ 0 ≤ v.toInt ∧ v.toInt ≤ 9) then upd fst (2 * i.toNatClampNeg) v else fst)) (fun (u : (Nat → Int32)) (t : State) => match u with | ost => va_P (dC, dI) vwCl [(h0, .inr (11, [.ref st, .int (nI N), .int (nI B), .ref rp, .int vrs, .int vrb, .int vhs, .int vca, .int vxs, .int vxb, .ref tp, .int (nI T), .int vfa, .int vbr, .int vba, .int vsp, .int vhe, .int vtk, .int vva, .ref cu, .ref lt, .ref od, .ref th, .ref be, .ref ln, .int (nI S), .ref ma, .int (nI M), .ref ah, .ref bh, .ref ik, .ref la, .ref lg, .ref ce, .int vto])), (st, .inl (G 0, 196, .inl ost))] t.heap ∧ va_D (va_A [(h0, .inr (11, [.ref st, .int (nI N), .int (nI B), .ref rp, .int vrs, .int vrb, .int vhs, .int vca, .int vxs, .int vxb, .ref tp, .int (nI T), .int vfa, .int vbr, .int vba, .int vsp, .int vhe, .int vtk, .int vva, .ref cu, .ref lt, .ref od, .ref th, .ref be, .ref ln, .int (nI S), .ref ma, .int (nI M), .ref ah, .ref bh, .ref ik, .ref la, .ref lg, .ref ce, .int vto])), (st, .inl (G 0, 196, .inl fst))] sz) [(h0, .inr (11, [.ref st, .int (nI N), .int (nI B), .ref rp, .int vrs, .int vrb, .int vhs, .int vca, .int vxs, .int vxb, .ref tp, .int (nI T), .int vfa, .int vbr, .int vba, .int vsp, .int vhe, .int vtk, .int vva, .ref cu, .ref lt, .ref od, .ref th, .ref be, .ref ln, .int (nI S), .ref ma, .int (nI M), .ref ah, .ref bh, .ref ik, .ref la, .ref lg, .ref ce, .int vto])), (st, .inl (G 0, 196, .inl ost))]) (va_A [(h0, .inr (11, [.ref st, .int (nI N), .int (nI B), .ref rp, .int vrs, .int vrb, .int vhs, .int vca, .int vxs, .int vxb, .ref tp, .int (nI T), .int vfa, .int vbr, .int vba, .int vsp, .int vhe, .int vtk, .int vva, .ref cu, .ref lt, .ref od, .ref th, .ref be, .ref ln, .int (nI S), .ref ma, .int (nI M), .ref ah, .ref bh, .ref ik, .ref la, .ref lg, .ref ce, .int vto])), (st, .inl (G 0, 196, .inl fst))] sz)) 0 0 (va_A [(h0, .inr (11, [.ref st, .int (nI N), .int (nI B), .ref rp, .int vrs, .int vrb, .int vhs, .int vca, .int vxs, .int vxb, .ref tp, .int (nI T), .int vfa, .int vbr, .int vba, .int vsp, .int vhe, .int vtk, .int vva, .ref cu, .ref lt, .ref od, .ref th, .ref be, .ref ln, .int (nI S), .ref ma, .int (nI M), .ref ah, .ref bh, .ref ik, .ref la, .ref lg, .ref ce, .int vto])), (st, .inl (G 0, 196, .inl fst))] sz) := by
  have hB_ := hB
  have hM_ := hM
  have hT_ := hT
  refine Met.ofW (cc := cX11_noise) (maxL := 3) (ret := (some .int)) (by decide) rfl ?_
  intro p e s m args below meth c s₁ Bd hml hv
  obtain ⟨rfl, hsz, hP, hK, hD0⟩ := hv
  have hx := Bd.exec
  have hb := Bd.bytes
  have hr := Bd.returns
  have hg : ∀ w ∈ GT, w.before ([.ref h0, .int i, .int v] : List Value).toArray s = true := fun w h => atoms_spec (ws := Cond.code yX11_noise cX11_noise 3 (some .int) :: GT) Bd.pre w (List.mem_cons_of_mem _ h)
  have hown : s.vm.findClass RX11 = some m.cls := findClass_of_methodNamed Bd.named
  have hlocks := Bd.notSynchronized
  subst hsz
  have hD := hD0.self (sz := s.heap.size)
  generalize hAe : va_A [(h0, .inr (11, [.ref st, .int (nI N), .int (nI B), .ref rp, .int vrs, .int vrb, .int vhs, .int vca, .int vxs, .int vxb, .ref tp, .int (nI T), .int vfa, .int vbr, .int vba, .int vsp, .int vhe, .int vtk, .int vva, .ref cu, .ref lt, .ref od, .ref th, .ref be, .ref ln, .int (nI S), .ref ma, .int (nI M), .ref ah, .ref bh, .ref ik, .ref la, .ref lg, .ref ce, .int vto])), (st, .inl (G 0, 196, .inl fst))] s.heap.size = A at hD ⊢
  have hA : ∀ q : Nat, s.heap.size ≤ q → A q := fun q h => by rw [← hAe]; exact Or.inr h
  have hS : va_S A s.heap s.heap [] := va_S.rf
  have hl := lv_entry ([.ref h0, .int i, .int v]) (n := 3) (Nat.le_of_ble_eq_true rfl)
  rw [lg_entry_eq]
  generalize (lg_sl ([.ref h0, .int i, .int v]) ++ List.replicate (3 - (lg_sl ([.ref h0, .int i, .int v])).length) Slot.unset).toArray = ls at hl ⊢
  have hl : lv_has ls 3 [(0, .ref h0), (1, .int i), (2, .int v)] := hl
  refine lv_aload_n hx hb dX11_noise_0 rfl (lv_at hl 0 rfl) ?_
  refine lv_aload_n hx hb dX11_noise_1 rfl (lv_at hl 0 rfl) ?_
  refine lv_iload_n hx hb dX11_noise_2 rfl (lv_at hl 1 rfl) ?_
  have hPc := hP.sub (ws' := [(h0, .inr (11, [.ref st, .int (nI N), .int (nI B), .ref rp, .int vrs, .int vrb, .int vhs, .int vca, .int vxs, .int vxb, .ref tp, .int (nI T), .int vfa, .int vbr, .int vba, .int vsp, .int vhe, .int vtk, .int vva, .ref cu, .ref lt, .ref od, .ref th, .ref be, .ref ln, .int (nI S), .ref ma, .int (nI M), .ref ah, .ref bh, .ref ik, .ref la, .ref lg, .ref ce, .int vto]))]) [0] rfl
  have tn2899_ : nIT N := fun _ => nI_toInt (by omega)
  have tn2900_ : nIT B := fun _ => nI_toInt (by omega)
  have tn2901_ : nIT T := fun _ => nI_toInt (by omega)
  have tn2902_ : nIT S := fun _ => nI_toInt (by omega)
  have tn2903_ : nIT M := fun _ => nI_toInt (by omega)
  refine va_calli (va_runV (As := [.int i]) (rest := [.ref h0]) ⟨hx, hb, hml, hown, hg⟩ (c_X11_isStretch l dC dI G _ h0 st N B rp tp T cu lt od th be ln S ma M ah bh ik la lg ce i vrs vrb vhs vca vxs vxb vfa vbr vba vsp vhe vtk vva vto hN hB_ hT_ hS0 hM_) (kwV hg mfX11_isStretch wt_1052 ⟨Nat.le_of_ble_eq_true rfl, Nat.le_of_ble_eq_true rfl⟩) (preVR hK hPc (ci := 11) rfl rfl) rfl rfl hl.1 rfl (lv_room (Nat.le_of_ble_eq_true rfl)) dX11_noise_3 ⟨Nat.le_of_ble_eq_true rfl, Nat.le_of_ble_eq_true rfl⟩) hS (fun q h1 h2 => absurd h2 (Nat.not_le.mpr h1)) (fun q h => hA q (Nat.le_trans hS.1 h)) (fun r1 ur1 t H1 locs ht hvm w2 hB hz1 hk1 hS => ?_)
  have hP := keepR hP hk1
  obtain ⟨w2, w2x⟩ := w2
  try simp only [l_ii, show (0 : Int32).toInt = 0 from by decide] at w2
  try rw [show (nI (N)).toInt = ((N : Nat) : Int) from tn2899_ ()] at w2
  subst w2
  refine lv_if_eq (tgt := 25) hx hb dX11_noise_6 (by decide) (fun c3 => ?_) (fun c3 => ?_)
  · skip
    have b4 := if10_n c3
    refine lv_iconst (v := 0) hx hb dX11_noise_25 (by decide) ?_
    refine lv_iconst (v := 2) hx hb dX11_noise_26 (by decide) ?_
    refine lv_iload_n hx hb dX11_noise_27 rfl (lv_at hl 1 rfl) ?_
    refine lv_imul hx hb dX11_noise_28 ?_
    refine lv_iload_n hx hb dX11_noise_29 rfl (lv_at hl 2 rfl) ?_
    have hPc := hP.sub (ws' := [(h0, .inr (11, [.ref st, .int (nI N), .int (nI B), .ref rp, .int vrs, .int vrb, .int vhs, .int vca, .int vxs, .int vxb, .ref tp, .int (nI T), .int vfa, .int vbr, .int vba, .int vsp, .int vhe, .int vtk, .int vva, .ref cu, .ref lt, .ref od, .ref th, .ref be, .ref ln, .int (nI S), .ref ma, .int (nI M), .ref ah, .ref bh, .ref ik, .ref la, .ref lg, .ref ce, .int vto])), (st, .inl (G 0, 196, .inl fst))]) [0, 1] rfl
    have hDc := hD.sub (ws' := [(h0, .inr (11, [.ref st, .int (nI N), .int (nI B), .ref rp, .int vrs, .int vrb, .int vhs, .int vca, .int vxs, .int vxb, .ref tp, .int (nI T), .int vfa, .int vbr, .int vba, .int vsp, .int vhe, .int vtk, .int vva, .ref cu, .ref lt, .ref od, .ref th, .ref be, .ref ln, .int (nI S), .ref ma, .int (nI M), .ref ah, .ref bh, .ref ik, .ref la, .ref lg, .ref ce, .int vto])), (st, .inl (G 0, 196, .inl fst))]) [0, 1] (by decide) rfl
    have hFc := va_free (wc := [(h0, .inr (11, [.ref st, .int (nI N), .int (nI B), .ref rp, .int vrs, .int vrb, .int vhs, .int vca, .int vxs, .int vxb, .ref tp, .int (nI T), .int vfa, .int vbr, .int vba, .int vsp, .int vhe, .int vtk, .int vva, .ref cu, .ref lt, .ref od, .ref th, .ref be, .ref ln, .int (nI S), .ref ma, .int (nI M), .ref ah, .ref bh, .ref ik, .ref la, .ref lg, .ref ce, .int vto])), (st, .inl (G 0, 196, .inl fst))]) hD hS hA [0, 1] rfl
    refine va_calli (va_runV (As := [.int 0, .int (2 * i), .int v]) (rest := []) ⟨hx, hb, hml, hown, hg⟩ (c_X11_sets0E l dC dI G _ h0 st N B rp tp T cu lt od th be ln S ma M ah bh ik la lg ce (2 * i) v vrs vrb vhs vca vxs vxb vfa vbr vba vsp vhe vtk vva vto fst hN hB_ hT_ hS0 hM_ hst) (kwV hg mfX11_sets wt_1070 ⟨Nat.le_of_ble_eq_true rfl, Nat.le_of_ble_eq_true rfl⟩) (preVW hK hPc hDc (ci := 11) rfl rfl) rfl rfl hl.1 rfl (lv_room (Nat.le_of_ble_eq_true rfl)) dX11_noise_30 ⟨Nat.le_of_ble_eq_true rfl, Nat.le_of_ble_eq_true rfl⟩) hS (fun q _ h => hFc q h) hFc (fun r5 ur5 t H1 locs ht hvm w6 hB hz1 hk1 hS => ?_)
    obtain ⟨u7, rfl⟩ : ∃ z, z = ur5 := ⟨_, rfl⟩
    obtain ⟨hP1, hD1⟩ := hB
    rw [ht] at hP1
    obtain ⟨hP, hD⟩ := va_join (wr := []) (w1 := [(h0, .inr (11, [.ref st, .int (nI N), .int (nI B), .ref rp, .int vrs, .int vrb, .int vhs, .int vca, .int vxs, .int vxb, .ref tp, .int (nI T), .int vfa, .int vbr, .int vba, .int vsp, .int vhe, .int vtk, .int vva, .ref cu, .ref lt, .ref od, .ref th, .ref be, .ref ln, .int (nI S), .ref ma, .int (nI M), .ref ah, .ref bh, .ref ik, .ref la, .ref lg, .ref ce, .int vto])), (st, .inl (G 0, 196, .inl u7))]) hP hD [0, 1] [] rfl rfl (by decide) (by decide) hk1 hFc hP1 hD1
    generalize H1 = H at hP hS ⊢
    have hP : va_P (dC, dI) vwCl [(h0, .inr (11, [.ref st, .int (nI N), .int (nI B), .ref rp, .int vrs, .int vrb, .int vhs, .int vca, .int vxs, .int vxb, .ref tp, .int (nI T), .int vfa, .int vbr, .int vba, .int vsp, .int vhe, .int vtk, .int vva, .ref cu, .ref lt, .ref od, .ref th, .ref be, .ref ln, .int (nI S), .ref ma, .int (nI M), .ref ah, .ref bh, .ref ik, .ref la, .ref lg, .ref ce, .int vto])), (st, .inl (G 0, 196, .inl u7))] H := hP
    have hD : va_D A [(h0, .inr (11, [.ref st, .int (nI N), .int (nI B), .ref rp, .int vrs, .int vrb, .int vhs, .int vca, .int vxs, .int vxb, .ref tp, .int (nI T), .int vfa, .int vbr, .int vba, .int vsp, .int vhe, .int vtk, .int vva, .ref cu, .ref lt, .ref od, .ref th, .ref be, .ref ln, .int (nI S), .ref ma, .int (nI M), .ref ah, .ref bh, .ref ik, .ref la, .ref lg, .ref ce, .int vto])), (st, .inl (G 0, 196, .inl u7))] := hD
    obtain ⟨w6, w6x⟩ := w6
    have hpost : (r5 : Int32) = if ((0 ≤ i.toInt ∧ i.toInt < ((N : Nat) : Int)) ∧ 0 ≤ v.toInt ∧ v.toInt ≤ 9) then fst (2 * i.toNatClampNeg) else -1 := by
      have t_b4 := b4
      have t_n0 : (nI N).toInt = (N : Int) := tn2899_ ()
      have t_n1 : (nI B).toInt = (B : Int) := tn2900_ ()
      have t_n2 : (nI T).toInt = (T : Int) := tn2901_ ()
      have t_n3 : (nI S).toInt = (S : Int) := tn2902_ ()
      have t_n4 : (nI M).toInt = (M : Int) := tn2903_ ()
      have z0 : (0 : Int32).toInt = 0 := qI_0
      have z1 : (1 : Int32).toInt = 1 := qI_1
      have z2 : (2 : Int32).toInt = 2 := qI_2
      have z3 : (3 : Int32).toInt = 3 := qI_3
      have z5 : (5 : Int32).toInt = 5 := qI_5
      have z9 : (9 : Int32).toInt = 9 := qI_9
      have z20 : (20 : Int32).toInt = 20 := qI_20
      have z4 : (-4 : Int32).toInt = -4 := (by decide)
      have z10 : (10 : Int32).toInt = 10 := qI_10
      rw [if_neg (by omega)]
      exact w6
    have hP9 := hP.sub (ws' := [(h0, .inr (11, [.ref st, .int (nI N), .int (nI B), .ref rp, .int vrs, .int vrb, .int vhs, .int vca, .int vxs, .int vxb, .ref tp, .int (nI T), .int vfa, .int vbr, .int vba, .int vsp, .int vhe, .int vtk, .int vva, .ref cu, .ref lt, .ref od, .ref th, .ref be, .ref ln, .int (nI S), .ref ma, .int (nI M), .ref ah, .ref bh, .ref ik, .ref la, .ref lg, .ref ce, .int vto])), (st, .inl (G 0, 196, .inl u7))]) [0, 1] rfl
    have hD9 := hD.sub (ws' := [(h0, .inr (11, [.ref st, .int (nI N), .int (nI B), .ref rp, .int vrs, .int vrb, .int vhs, .int vca, .int vxs, .int vxb, .ref tp, .int (nI T), .int vfa, .int vbr, .int vba, .int vsp, .int vhe, .int vtk, .int vva, .ref cu, .ref lt, .ref od, .ref th, .ref be, .ref ln, .int (nI S), .ref ma, .int (nI M), .ref ah, .ref bh, .ref ik, .ref la, .ref lg, .ref ce, .int vto])), (st, .inl (G 0, 196, .inl u7))]) [0, 1] (by decide) rfl
    refine W.widen (k := 0) (n := 0) (Nat.le_of_ble_eq_true rfl) (Nat.le_of_ble_eq_true rfl) ?_
    exact W.iret (v := r5) hx hb hr (fun t ht hW => ⟨⟨r5, u7, rfl, ⟨hpost, ⟨w6x.1, (by have t_b4 := b4; have t_n0 : (nI N).toInt = (N : Int) := tn2899_ (); have t_n1 : (nI B).toInt = (B : Int) := tn2900_ (); have t_n2 : (nI T).toInt = (T : Int) := tn2901_ (); have t_n3 : (nI S).toInt = (S : Int) := tn2902_ (); have t_n4 : (nI M).toInt = (M : Int) := tn2903_ (); have z0 : (0 : Int32).toInt = 0 := qI_0; have z1 : (1 : Int32).toInt = 1 := qI_1; have z2 : (2 : Int32).toInt = 2 := qI_2; have z3 : (3 : Int32).toInt = 3 := qI_3; have z5 : (5 : Int32).toInt = 5 := qI_5; have z9 : (9 : Int32).toInt = 9 := qI_9; have z20 : (20 : Int32).toInt = 20 := qI_20; have z4 : (-4 : Int32).toInt = -4 := (by decide); have z10 : (10 : Int32).toInt = 10 := qI_10; rw [if_neg (by omega)]; exact w6x.2)⟩⟩, ⟨by rw [ht]; exact hP9, hD9⟩⟩, hS.F ht⟩) hS.2.2 dX11_noise_33
  · skip
    have b8 := if10_p c3
    refine lv_iload_n hx hb dX11_noise_9 rfl (lv_at hl 2 rfl) ?_
    refine lv_i2l (v := v.toInt64) hx hb dX11_noise_10 rfl ?_
    refine lv_lconst (v := 0) hx hb dX11_noise_11 (by decide) ?_
    refine lv_ldc2 (v := 9) hx hb hown (hg _ wt_1069) dX11_noise_12 ?_
    have hPc := hP.sub (ws' := []) [] rfl
    refine va_calli (va_runS (As := [.long v.toInt64, .long 0, .long 9]) (rest := [.ref h0]) ⟨hx, hb, hml, hown, hg⟩ (c_X11_in l dC dI G _ v.toInt64 0 9) (kwS hg mfX11_in wt_992 ⟨Nat.le_of_ble_eq_true rfl, Nat.le_of_ble_eq_true rfl⟩) (preSR hK hPc) rfl rfl hl.1 rfl (lv_room (Nat.le_of_ble_eq_true rfl)) dX11_noise_15 ⟨Nat.le_of_ble_eq_true rfl, Nat.le_of_ble_eq_true rfl⟩) hS (fun q h1 h2 => absurd h2 (Nat.not_le.mpr h1)) (fun q h => hA q (Nat.le_trans hS.1 h)) (fun r9 ur9 t H1 locs ht hvm w10 hB hz1 hk1 hS => ?_)
    have hP := keepR hP hk1
    obtain ⟨w10, w10x⟩ := w10
    try simp only [l_ii, show (0 : Int64).toInt = 0 from by decide, show (9 : Int64).toInt = 9 from by decide] at w10
    subst w10
    refine lv_if_eq (tgt := 25) hx hb dX11_noise_18 (by decide) (fun c11 => ?_) (fun c11 => ?_)
    · skip
      have b12 := if10_n c11
      refine lv_iconst (v := 0) hx hb dX11_noise_25 (by decide) ?_
      refine lv_iconst (v := 2) hx hb dX11_noise_26 (by decide) ?_
      refine lv_iload_n hx hb dX11_noise_27 rfl (lv_at hl 1 rfl) ?_
      refine lv_imul hx hb dX11_noise_28 ?_
      refine lv_iload_n hx hb dX11_noise_29 rfl (lv_at hl 2 rfl) ?_
      have hPc := hP.sub (ws' := [(h0, .inr (11, [.ref st, .int (nI N), .int (nI B), .ref rp, .int vrs, .int vrb, .int vhs, .int vca, .int vxs, .int vxb, .ref tp, .int (nI T), .int vfa, .int vbr, .int vba, .int vsp, .int vhe, .int vtk, .int vva, .ref cu, .ref lt, .ref od, .ref th, .ref be, .ref ln, .int (nI S), .ref ma, .int (nI M), .ref ah, .ref bh, .ref ik, .ref la, .ref lg, .ref ce, .int vto])), (st, .inl (G 0, 196, .inl fst))]) [0, 1] rfl
      have hDc := hD.sub (ws' := [(h0, .inr (11, [.ref st, .int (nI N), .int (nI B), .ref rp, .int vrs, .int vrb, .int vhs, .int vca, .int vxs, .int vxb, .ref tp, .int (nI T), .int vfa, .int vbr, .int vba, .int vsp, .int vhe, .int vtk, .int vva, .ref cu, .ref lt, .ref od, .ref th, .ref be, .ref ln, .int (nI S), .ref ma, .int (nI M), .ref ah, .ref bh, .ref ik, .ref la, .ref lg, .ref ce, .int vto])), (st, .inl (G 0, 196, .inl fst))]) [0, 1] (by decide) rfl
      have hFc := va_free (wc := [(h0, .inr (11, [.ref st, .int (nI N), .int (nI B), .ref rp, .int vrs, .int vrb, .int vhs, .int vca, .int vxs, .int vxb, .ref tp, .int (nI T), .int vfa, .int vbr, .int vba, .int vsp, .int vhe, .int vtk, .int vva, .ref cu, .ref lt, .ref od, .ref th, .ref be, .ref ln, .int (nI S), .ref ma, .int (nI M), .ref ah, .ref bh, .ref ik, .ref la, .ref lg, .ref ce, .int vto])), (st, .inl (G 0, 196, .inl fst))]) hD hS hA [0, 1] rfl
      refine va_calli (va_runV (As := [.int 0, .int (2 * i), .int v]) (rest := []) ⟨hx, hb, hml, hown, hg⟩ (c_X11_sets0E l dC dI G _ h0 st N B rp tp T cu lt od th be ln S ma M ah bh ik la lg ce (2 * i) v vrs vrb vhs vca vxs vxb vfa vbr vba vsp vhe vtk vva vto fst hN hB_ hT_ hS0 hM_ hst) (kwV hg mfX11_sets wt_1070 ⟨Nat.le_of_ble_eq_true rfl, Nat.le_of_ble_eq_true rfl⟩) (preVW hK hPc hDc (ci := 11) rfl rfl) rfl rfl hl.1 rfl (lv_room (Nat.le_of_ble_eq_true rfl)) dX11_noise_30 ⟨Nat.le_of_ble_eq_true rfl, Nat.le_of_ble_eq_true rfl⟩) hS (fun q _ h => hFc q h) hFc (fun r13 ur13 t H1 locs ht hvm w14 hB hz1 hk1 hS => ?_)
      obtain ⟨u15, rfl⟩ : ∃ z, z = ur13 := ⟨_, rfl⟩
      obtain ⟨hP1, hD1⟩ := hB
      rw [ht] at hP1
      obtain ⟨hP, hD⟩ := va_join (wr := []) (w1 := [(h0, .inr (11, [.ref st, .int (nI N), .int (nI B), .ref rp, .int vrs, .int vrb, .int vhs, .int vca, .int vxs, .int vxb, .ref tp, .int (nI T), .int vfa, .int vbr, .int vba, .int vsp, .int vhe, .int vtk, .int vva, .ref cu, .ref lt, .ref od, .ref th, .ref be, .ref ln, .int (nI S), .ref ma, .int (nI M), .ref ah, .ref bh, .ref ik, .ref la, .ref lg, .ref ce, .int vto])), (st, .inl (G 0, 196, .inl u15))]) hP hD [0, 1] [] rfl rfl (by decide) (by decide) hk1 hFc hP1 hD1
      generalize H1 = H at hP hS ⊢
      have hP : va_P (dC, dI) vwCl [(h0, .inr (11, [.ref st, .int (nI N), .int (nI B), .ref rp, .int vrs, .int vrb, .int vhs, .int vca, .int vxs, .int vxb, .ref tp, .int (nI T), .int vfa, .int vbr, .int vba, .int vsp, .int vhe, .int vtk, .int vva, .ref cu, .ref lt, .ref od, .ref th, .ref be, .ref ln, .int (nI S), .ref ma, .int (nI M), .ref ah, .ref bh, .ref ik, .ref la, .ref lg, .ref ce, .int vto])), (st, .inl (G 0, 196, .inl u15))] H := hP
      have hD : va_D A [(h0, .inr (11, [.ref st, .int (nI N), .int (nI B), .ref rp, .int vrs, .int vrb, .int vhs, .int vca, .int vxs, .int vxb, .ref tp, .int (nI T), .int vfa, .int vbr, .int vba, .int vsp, .int vhe, .int vtk, .int vva, .ref cu, .ref lt, .ref od, .ref th, .ref be, .ref ln, .int (nI S), .ref ma, .int (nI M), .ref ah, .ref bh, .ref ik, .ref la, .ref lg, .ref ce, .int vto])), (st, .inl (G 0, 196, .inl u15))] := hD
      obtain ⟨w14, w14x⟩ := w14
      have hpost : (r13 : Int32) = if ((0 ≤ i.toInt ∧ i.toInt < ((N : Nat) : Int)) ∧ 0 ≤ v.toInt ∧ v.toInt ≤ 9) then fst (2 * i.toNatClampNeg) else -1 := by
        have t_b8 := b8
        have t_b12 := b12
        have t_n0 : (nI N).toInt = (N : Int) := tn2899_ ()
        have t_n1 : (nI B).toInt = (B : Int) := tn2900_ ()
        have t_n2 : (nI T).toInt = (T : Int) := tn2901_ ()
        have t_n3 : (nI S).toInt = (S : Int) := tn2902_ ()
        have t_n4 : (nI M).toInt = (M : Int) := tn2903_ ()
        have z0 : (0 : Int32).toInt = 0 := qI_0
        have z1 : (1 : Int32).toInt = 1 := qI_1
        have z2 : (2 : Int32).toInt = 2 := qI_2
        have z3 : (3 : Int32).toInt = 3 := qI_3
        have z5 : (5 : Int32).toInt = 5 := qI_5
        have z9 : (9 : Int32).toInt = 9 := qI_9
        have z20 : (20 : Int32).toInt = 20 := qI_20
        have z4 : (-4 : Int32).toInt = -4 := (by decide)
        have z10 : (10 : Int32).toInt = 10 := qI_10
        rw [if_neg (by omega)]
        exact w14
      have hP9 := hP.sub (ws' := [(h0, .inr (11, [.ref st, .int (nI N), .int (nI B), .ref rp, .int vrs, .int vrb, .int vhs, .int vca, .int vxs, .int vxb, .ref tp, .int (nI T), .int vfa, .int vbr, .int vba, .int vsp, .int vhe, .int vtk, .int vva, .ref cu, .ref lt, .ref od, .ref th, .ref be, .ref ln, .int (nI S), .ref ma, .int (nI M), .ref ah, .ref bh, .ref ik, .ref la, .ref lg, .ref ce, .int vto])), (st, .inl (G 0, 196, .inl u15))]) [0, 1] rfl
      have hD9 := hD.sub (ws' := [(h0, .inr (11, [.ref st, .int (nI N), .int (nI B), .ref rp, .int vrs, .int vrb, .int vhs, .int vca, .int vxs, .int vxb, .ref tp, .int (nI T), .int vfa, .int vbr, .int vba, .int vsp, .int vhe, .int vtk, .int vva, .ref cu, .ref lt, .ref od, .ref th, .ref be, .ref ln, .int (nI S), .ref ma, .int (nI M), .ref ah, .ref bh, .ref ik, .ref la, .ref lg, .ref ce, .int vto])), (st, .inl (G 0, 196, .inl u15))]) [0, 1] (by decide) rfl
      refine W.widen (k := 0) (n := 0) (Nat.le_of_ble_eq_true rfl) (Nat.le_of_ble_eq_true rfl) ?_
      exact W.iret (v := r13) hx hb hr (fun t ht hW => ⟨⟨r13, u15, rfl, ⟨hpost, ⟨w14x.1, (by have t_b8 := b8; have t_b12 := b12; have t_n0 : (nI N).toInt = (N : Int) := tn2899_ (); have t_n1 : (nI B).toInt = (B : Int) := tn2900_ (); have t_n2 : (nI T).toInt = (T : Int) := tn2901_ (); have t_n3 : (nI S).toInt = (S : Int) := tn2902_ (); have t_n4 : (nI M).toInt = (M : Int) := tn2903_ (); have z0 : (0 : Int32).toInt = 0 := qI_0; have z1 : (1 : Int32).toInt = 1 := qI_1; have z2 : (2 : Int32).toInt = 2 := qI_2; have z3 : (3 : Int32).toInt = 3 := qI_3; have z5 : (5 : Int32).toInt = 5 := qI_5; have z9 : (9 : Int32).toInt = 9 := qI_9; have z20 : (20 : Int32).toInt = 20 := qI_20; have z4 : (-4 : Int32).toInt = -4 := (by decide); have z10 : (10 : Int32).toInt = 10 := qI_10; rw [if_neg (by omega)]; exact w14x.2)⟩⟩, ⟨by rw [ht]; exact hP9, hD9⟩⟩, hS.F ht⟩) hS.2.2 dX11_noise_33
    · skip
      have b16 := if10_p c11
      obtain ⟨ii, hii, rfl⟩ : ∃ j : Nat, j < 10 ∧ i = nI j := by
        have t_b8 := b8
        have t_b16 := b16
        have t_n0 : (nI N).toInt = (N : Int) := tn2899_ ()
        have t_n1 : (nI B).toInt = (B : Int) := tn2900_ ()
        have t_n2 : (nI T).toInt = (T : Int) := tn2901_ ()
        have t_n3 : (nI S).toInt = (S : Int) := tn2902_ ()
        have t_n4 : (nI M).toInt = (M : Int) := tn2903_ ()
        exact i32_nat (by omega) (by omega)
      refine lv_iconst (v := 1) hx hb dX11_noise_21 (by decide) ?_
      refine lv_goto (tgt := 26) hx hb dX11_noise_22 (by decide) ?_
      refine lv_iconst (v := 2) hx hb dX11_noise_26 (by decide) ?_
      refine lv_iload_n hx hb dX11_noise_27 rfl (lv_at hl 1 rfl) ?_
      refine lv_imul hx hb dX11_noise_28 ?_
      refine lv_cg (y := nI (2 * ii)) (by rw [show (2 : Int32) = nI 2 from rfl]; exact pk_mul _ _) ?_
      refine lv_iload_n hx hb dX11_noise_29 rfl (lv_at hl 2 rfl) ?_
      have hPc := hP.sub (ws' := [(h0, .inr (11, [.ref st, .int (nI N), .int (nI B), .ref rp, .int vrs, .int vrb, .int vhs, .int vca, .int vxs, .int vxb, .ref tp, .int (nI T), .int vfa, .int vbr, .int vba, .int vsp, .int vhe, .int vtk, .int vva, .ref cu, .ref lt, .ref od, .ref th, .ref be, .ref ln, .int (nI S), .ref ma, .int (nI M), .ref ah, .ref bh, .ref ik, .ref la, .ref lg, .ref ce, .int vto])), (st, .inl (G 0, 196, .inl fst))]) [0, 1] rfl
      have hDc := hD.sub (ws' := [(h0, .inr (11, [.ref st, .int (nI N), .int (nI B), .ref rp, .int vrs, .int vrb, .int vhs, .int vca, .int vxs, .int vxb, .ref tp, .int (nI T), .int vfa, .int vbr, .int vba, .int vsp, .int vhe, .int vtk, .int vva, .ref cu, .ref lt, .ref od, .ref th, .ref be, .ref ln, .int (nI S), .ref ma, .int (nI M), .ref ah, .ref bh, .ref ik, .ref la, .ref lg, .ref ce, .int vto])), (st, .inl (G 0, 196, .inl fst))]) [0, 1] (by decide) rfl
      have hFc := va_free (wc := [(h0, .inr (11, [.ref st, .int (nI N), .int (nI B), .ref rp, .int vrs, .int vrb, .int vhs, .int vca, .int vxs, .int vxb, .ref tp, .int (nI T), .int vfa, .int vbr, .int vba, .int vsp, .int vhe, .int vtk, .int vva, .ref cu, .ref lt, .ref od, .ref th, .ref be, .ref ln, .int (nI S), .ref ma, .int (nI M), .ref ah, .ref bh, .ref ik, .ref la, .ref lg, .ref ce, .int vto])), (st, .inl (G 0, 196, .inl fst))]) hD hS hA [0, 1] rfl
      have tn2904_ : nIT ii := fun _ => nI_toInt (by first | omega | (have t_b8 := b8; have t_b16 := b16; have t_hii := hii; omega))
      refine va_calli (va_runV (As := [.int 1, .int (nI (2 * ii)), .int v]) (rest := []) ⟨hx, hb, hml, hown, hg⟩ (c_X11_sets1E l dC dI G _ h0 (2 * ii) st N B rp tp T cu lt od th be ln S ma M ah bh ik la lg ce v vrs vrb vhs vca vxs vxb vfa vbr vba vsp vhe vtk vva vto fst hN hB_ hT_ hS0 hM_ hst (by first | omega | (have t_b8 := b8; have t_b16 := b16; have t_hii := hii; have t_n0 : (nI N).toInt = (N : Int) := tn2899_ (); have t_n1 : (nI B).toInt = (B : Int) := tn2900_ (); have t_n2 : (nI T).toInt = (T : Int) := tn2901_ (); have t_n3 : (nI S).toInt = (S : Int) := tn2902_ (); have t_n4 : (nI M).toInt = (M : Int) := tn2903_ (); have t_n5 : (nI ii).toInt = (ii : Int) := tn2904_ (); omega)) (okS_lo (by have t_b8 := b8; have t_b16 := b16; have t_hii := hii; have t_n0 : (nI N).toInt = (N : Int) := tn2899_ (); have t_n1 : (nI B).toInt = (B : Int) := tn2900_ (); have t_n2 : (nI T).toInt = (T : Int) := tn2901_ (); have t_n3 : (nI S).toInt = (S : Int) := tn2902_ (); have t_n4 : (nI M).toInt = (M : Int) := tn2903_ (); have t_n5 : (nI ii).toInt = (ii : Int) := tn2904_ (); omega) (by have t_b8 := b8; have t_b16 := b16; have t_hii := hii; have t_n0 : (nI N).toInt = (N : Int) := tn2899_ (); have t_n1 : (nI B).toInt = (B : Int) := tn2900_ (); have t_n2 : (nI T).toInt = (T : Int) := tn2901_ (); have t_n3 : (nI S).toInt = (S : Int) := tn2902_ (); have t_n4 : (nI M).toInt = (M : Int) := tn2903_ (); have t_n5 : (nI ii).toInt = (ii : Int) := tn2904_ (); omega) (by have t_b8 := b8; have t_b16 := b16; have t_hii := hii; have t_n0 : (nI N).toInt = (N : Int) := tn2899_ (); have t_n1 : (nI B).toInt = (B : Int) := tn2900_ (); have t_n2 : (nI T).toInt = (T : Int) := tn2901_ (); have t_n3 : (nI S).toInt = (S : Int) := tn2902_ (); have t_n4 : (nI M).toInt = (M : Int) := tn2903_ (); have t_n5 : (nI ii).toInt = (ii : Int) := tn2904_ (); omega))) (kwV hg mfX11_sets wt_1070 ⟨Nat.le_of_ble_eq_true rfl, Nat.le_of_ble_eq_true rfl⟩) (preVW hK hPc hDc (ci := 11) rfl rfl) rfl rfl hl.1 rfl (lv_room (Nat.le_of_ble_eq_true rfl)) dX11_noise_30 ⟨Nat.le_of_ble_eq_true rfl, Nat.le_of_ble_eq_true rfl⟩) hS (fun q _ h => hFc q h) hFc (fun r17 ur17 t H1 locs ht hvm w18 hB hz1 hk1 hS => ?_)
      obtain ⟨u19, rfl⟩ : ∃ z, z = ur17 := ⟨_, rfl⟩
      obtain ⟨hP1, hD1⟩ := hB
      rw [ht] at hP1
      obtain ⟨hP, hD⟩ := va_join (wr := []) (w1 := [(h0, .inr (11, [.ref st, .int (nI N), .int (nI B), .ref rp, .int vrs, .int vrb, .int vhs, .int vca, .int vxs, .int vxb, .ref tp, .int (nI T), .int vfa, .int vbr, .int vba, .int vsp, .int vhe, .int vtk, .int vva, .ref cu, .ref lt, .ref od, .ref th, .ref be, .ref ln, .int (nI S), .ref ma, .int (nI M), .ref ah, .ref bh, .ref ik, .ref la, .ref lg, .ref ce, .int vto])), (st, .inl (G 0, 196, .inl u19))]) hP hD [0, 1] [] rfl rfl (by decide) (by decide) hk1 hFc hP1 hD1
      generalize H1 = H at hP hS ⊢
      have hP : va_P (dC, dI) vwCl [(h0, .inr (11, [.ref st, .int (nI N), .int (nI B), .ref rp, .int vrs, .int vrb, .int vhs, .int vca, .int vxs, .int vxb, .ref tp, .int (nI T), .int vfa, .int vbr, .int vba, .int vsp, .int vhe, .int vtk, .int vva, .ref cu, .ref lt, .ref od, .ref th, .ref be, .ref ln, .int (nI S), .ref ma, .int (nI M), .ref ah, .ref bh, .ref ik, .ref la, .ref lg, .ref ce, .int vto])), (st, .inl (G 0, 196, .inl u19))] H := hP
      have hD : va_D A [(h0, .inr (11, [.ref st, .int (nI N), .int (nI B), .ref rp, .int vrs, .int vrb, .int vhs, .int vca, .int vxs, .int vxb, .ref tp, .int (nI T), .int vfa, .int vbr, .int vba, .int vsp, .int vhe, .int vtk, .int vva, .ref cu, .ref lt, .ref od, .ref th, .ref be, .ref ln, .int (nI S), .ref ma, .int (nI M), .ref ah, .ref bh, .ref ik, .ref la, .ref lg, .ref ce, .int vto])), (st, .inl (G 0, 196, .inl u19))] := hD
      obtain ⟨w18, w18x⟩ := w18
      have hpost : (r17 : Int32) = if ((0 ≤ (nI ii).toInt ∧ (nI ii).toInt < ((N : Nat) : Int)) ∧ 0 ≤ v.toInt ∧ v.toInt ≤ 9) then fst (2 * (nI ii).toNatClampNeg) else -1 := by
        have t_b8 := b8
        have t_b16 := b16
        have t_hii := hii
        have t_n0 : (nI N).toInt = (N : Int) := tn2899_ ()
        have t_n1 : (nI B).toInt = (B : Int) := tn2900_ ()
        have t_n2 : (nI T).toInt = (T : Int) := tn2901_ ()
        have t_n3 : (nI S).toInt = (S : Int) := tn2902_ ()
        have t_n4 : (nI M).toInt = (M : Int) := tn2903_ ()
        have t_n5 : (nI ii).toInt = (ii : Int) := tn2904_ ()
        have z0 : (0 : Int32).toInt = 0 := qI_0
        have z1 : (1 : Int32).toInt = 1 := qI_1
        have z2 : (2 : Int32).toInt = 2 := qI_2
        have z3 : (3 : Int32).toInt = 3 := qI_3
        have z5 : (5 : Int32).toInt = 5 := qI_5
        have z9 : (9 : Int32).toInt = 9 := qI_9
        have z20 : (20 : Int32).toInt = 20 := qI_20
        have z4 : (-4 : Int32).toInt = -4 := (by decide)
        have z10 : (10 : Int32).toInt = 10 := qI_10
        rw [if_pos (by omega)]
        (try rw [nI_clamp (by omega)])
        exact w18
      have hP9 := hP.sub (ws' := [(h0, .inr (11, [.ref st, .int (nI N), .int (nI B), .ref rp, .int vrs, .int vrb, .int vhs, .int vca, .int vxs, .int vxb, .ref tp, .int (nI T), .int vfa, .int vbr, .int vba, .int vsp, .int vhe, .int vtk, .int vva, .ref cu, .ref lt, .ref od, .ref th, .ref be, .ref ln, .int (nI S), .ref ma, .int (nI M), .ref ah, .ref bh, .ref ik, .ref la, .ref lg, .ref ce, .int vto])), (st, .inl (G 0, 196, .inl u19))]) [0, 1] rfl
      have hD9 := hD.sub (ws' := [(h0, .inr (11, [.ref st, .int (nI N), .int (nI B), .ref rp, .int vrs, .int vrb, .int vhs, .int vca, .int vxs, .int vxb, .ref tp, .int (nI T), .int vfa, .int vbr, .int vba, .int vsp, .int vhe, .int vtk, .int vva, .ref cu, .ref lt, .ref od, .ref th, .ref be, .ref ln, .int (nI S), .ref ma, .int (nI M), .ref ah, .ref bh, .ref ik, .ref la, .ref lg, .ref ce, .int vto])), (st, .inl (G 0, 196, .inl u19))]) [0, 1] (by decide) rfl
      refine W.widen (k := 0) (n := 0) (Nat.le_of_ble_eq_true rfl) (Nat.le_of_ble_eq_true rfl) ?_
      exact W.iret (v := r17) hx hb hr (fun t ht hW => ⟨⟨r17, u19, rfl, ⟨hpost, ⟨w18x.1, (by have t_b8 := b8; have t_b16 := b16; have t_hii := hii; have t_n0 : (nI N).toInt = (N : Int) := tn2899_ (); have t_n1 : (nI B).toInt = (B : Int) := tn2900_ (); have t_n2 : (nI T).toInt = (T : Int) := tn2901_ (); have t_n3 : (nI S).toInt = (S : Int) := tn2902_ (); have t_n4 : (nI M).toInt = (M : Int) := tn2903_ (); have t_n5 : (nI ii).toInt = (ii : Int) := tn2904_ (); have z0 : (0 : Int32).toInt = 0 := qI_0; have z1 : (1 : Int32).toInt = 1 := qI_1; have z2 : (2 : Int32).toInt = 2 := qI_2; have z3 : (3 : Int32).toInt = 3 := qI_3; have z5 : (5 : Int32).toInt = 5 := qI_5; have z9 : (9 : Int32).toInt = 9 := qI_9; have z20 : (20 : Int32).toInt = 20 := qI_20; have z4 : (-4 : Int32).toInt = -4 := (by decide); have z10 : (10 : Int32).toInt = 10 := qI_10; rw [if_pos (by omega)]; (try rw [nI_clamp (by omega)]); exact w18x.2)⟩⟩, ⟨by rw [ht]; exact hP9, hD9⟩⟩, hS.F ht⟩) hS.2.2 dX11_noise_33

set_option maxHeartbeats 1000000 in
set_option maxRecDepth 100000 in
theorem c_X11_coldE (l : Launch) (dC : Nat → ClassId) (dI : Nat → Nat → Nat) (G : Nat → ClassId) (sz : Nat) (h0 st N B rp tp T cu lt od th be ln S ma M ah bh ik la lg ce : Nat) (i v vrs vrb vhs vca vxs vxb vfa vbr vba vsp vhe vtk vva vto : Int32) (fst : Nat → Int32) (hN : N ≤ 10) (hB : B ≤ 6) (hT : T ≤ 320) (hS0 : S ≤ 8) (hM : M ≤ 6) (hst : OKS fst) : Met l yX11_cold (Cond.code yX11_cold cX11_cold 3 (some .int) :: GT) ({ frames := 2, cells := 0, slots := 0, locals := 46 } : Room) (PcW [.ref h0, .int i, .int v] dC dI G [(h0, .inr (11, [.ref st, .int (nI N), .int (nI B), .ref rp, .int vrs, .int vrb, .int vhs, .int vca, .int vxs, .int vxb, .ref tp, .int (nI T), .int vfa, .int vbr, .int vba, .int vsp, .int vhe, .int vtk, .int vva, .ref cu, .ref lt, .ref od, .ref th, .ref be, .ref ln, .int (nI S), .ref ma, .int (nI M), .ref ah, .ref bh, .ref ik, .ref la, .ref lg, .ref ce, .int vto])), (st, .inl (G 0, 196, .inl fst))] sz) (va_Qi (fun (r : Int32) (u : (Nat → Int32)) => match u with | ost => (r = if ((0 ≤ i.toInt ∧ i.toInt < ((N : Nat) : Int)) ∧ 0 ≤ v.toInt ∧ v.toInt ≤ 9) then fst (2 * i.toNatClampNeg + 1) else -1) ∧ OKS ost ∧ ost = (if ((0 ≤ i.toInt ∧ i.toInt < ((N : Nat) : Int)) ∧ 0 ≤ v.toInt ∧ v.toInt ≤ 9) then upd fst (2 * i.toNatClampNeg + 1) v else fst)) (fun (u : (Nat → Int32)) (t : State) => match u with | ost => va_P (dC, dI) vwCl [(h0, .inr (11, [.ref st, .int (nI N), .int (nI B), .ref rp, .int vrs, .int vrb, .int vhs, .int vca, .int vxs, .int vxb, .ref tp, .int (nI T), .int vfa, .int vbr, .int vba, .int vsp, .int vhe, .int vtk, .int vva, .ref cu, .ref lt, .ref od, .ref th, .ref be, .ref ln, .int (nI S), .ref ma, .int (nI M), .ref ah, .ref bh, .ref ik, .ref la, .ref lg, .ref ce, .int vto])), (st, .inl (G 0, 196, .inl ost))] t.heap ∧ va_D (va_A [(h0, .inr (11, [.ref st, .int (nI N), .int (nI B), .ref rp, .int vrs, .int vrb, .int vhs, .int vca, .int vxs, .int vxb, .ref tp, .int (nI T), .int vfa, .int vbr, .int vba, .int vsp, .int vhe, .int vtk, .int vva, .ref cu, .ref lt, .ref od, .ref th, .ref be, .ref ln, .int (nI S), .ref ma, .int (nI M), .ref ah, .ref bh, .ref ik, .ref la, .ref lg, .ref ce, .int vto])), (st, .inl (G 0, 196, .inl fst))] sz) [(h0, .inr (11, [.ref st, .int (nI N), .int (nI B), .ref rp, .int vrs, .int vrb, .int vhs, .int vca, .int vxs, .int vxb, .ref tp, .int (nI T), .int vfa, .int vbr, .int vba, .int vsp, .int vhe, .int vtk, .int vva, .ref cu, .ref lt, .ref od, .ref th, .ref be, .ref ln, .int (nI S), .ref ma, .int (nI M), .ref ah, .ref bh, .ref ik, .ref la, .ref lg, .ref ce, .int vto])), (st, .inl (G 0, 196, .inl ost))]) (va_A [(h0, .inr (11, [.ref st, .int (nI N), .int (nI B), .ref rp, .int vrs, .int vrb, .int vhs, .int vca, .int vxs, .int vxb, .ref tp, .int (nI T), .int vfa, .int vbr, .int vba, .int vsp, .int vhe, .int vtk, .int vva, .ref cu, .ref lt, .ref od, .ref th, .ref be, .ref ln, .int (nI S), .ref ma, .int (nI M), .ref ah, .ref bh, .ref ik, .ref la, .ref lg, .ref ce, .int vto])), (st, .inl (G 0, 196, .inl fst))] sz)) 0 0 (va_A [(h0, .inr (11, [.ref st, .int (nI N), .int (nI B), .ref rp, .int vrs, .int vrb, .int vhs, .int vca, .int vxs, .int vxb, .ref tp, .int (nI T), .int vfa, .int vbr, .int vba, .int vsp, .int vhe, .int vtk, .int vva, .ref cu, .ref lt, .ref od, .ref th, .ref be, .ref ln, .int (nI S), .ref ma, .int (nI M), .ref ah, .ref bh, .ref ik, .ref la, .ref lg, .ref ce, .int vto])), (st, .inl (G 0, 196, .inl fst))] sz) := by
  have hB_ := hB
  have hM_ := hM
  have hT_ := hT
  refine Met.ofW (cc := cX11_cold) (maxL := 3) (ret := (some .int)) (by decide) rfl ?_
  intro p e s m args below meth c s₁ Bd hml hv
  obtain ⟨rfl, hsz, hP, hK, hD0⟩ := hv
  have hx := Bd.exec
  have hb := Bd.bytes
  have hr := Bd.returns
  have hg : ∀ w ∈ GT, w.before ([.ref h0, .int i, .int v] : List Value).toArray s = true := fun w h => atoms_spec (ws := Cond.code yX11_cold cX11_cold 3 (some .int) :: GT) Bd.pre w (List.mem_cons_of_mem _ h)
  have hown : s.vm.findClass RX11 = some m.cls := findClass_of_methodNamed Bd.named
  have hlocks := Bd.notSynchronized
  subst hsz
  have hD := hD0.self (sz := s.heap.size)
  generalize hAe : va_A [(h0, .inr (11, [.ref st, .int (nI N), .int (nI B), .ref rp, .int vrs, .int vrb, .int vhs, .int vca, .int vxs, .int vxb, .ref tp, .int (nI T), .int vfa, .int vbr, .int vba, .int vsp, .int vhe, .int vtk, .int vva, .ref cu, .ref lt, .ref od, .ref th, .ref be, .ref ln, .int (nI S), .ref ma, .int (nI M), .ref ah, .ref bh, .ref ik, .ref la, .ref lg, .ref ce, .int vto])), (st, .inl (G 0, 196, .inl fst))] s.heap.size = A at hD ⊢
  have hA : ∀ q : Nat, s.heap.size ≤ q → A q := fun q h => by rw [← hAe]; exact Or.inr h
  have hS : va_S A s.heap s.heap [] := va_S.rf
  have hl := lv_entry ([.ref h0, .int i, .int v]) (n := 3) (Nat.le_of_ble_eq_true rfl)
  rw [lg_entry_eq]
  generalize (lg_sl ([.ref h0, .int i, .int v]) ++ List.replicate (3 - (lg_sl ([.ref h0, .int i, .int v])).length) Slot.unset).toArray = ls at hl ⊢
  have hl : lv_has ls 3 [(0, .ref h0), (1, .int i), (2, .int v)] := hl
  refine lv_aload_n hx hb dX11_cold_0 rfl (lv_at hl 0 rfl) ?_
  refine lv_aload_n hx hb dX11_cold_1 rfl (lv_at hl 0 rfl) ?_
  refine lv_iload_n hx hb dX11_cold_2 rfl (lv_at hl 1 rfl) ?_
  have hPc := hP.sub (ws' := [(h0, .inr (11, [.ref st, .int (nI N), .int (nI B), .ref rp, .int vrs, .int vrb, .int vhs, .int vca, .int vxs, .int vxb, .ref tp, .int (nI T), .int vfa, .int vbr, .int vba, .int vsp, .int vhe, .int vtk, .int vva, .ref cu, .ref lt, .ref od, .ref th, .ref be, .ref ln, .int (nI S), .ref ma, .int (nI M), .ref ah, .ref bh, .ref ik, .ref la, .ref lg, .ref ce, .int vto]))]) [0] rfl
  have tn2905_ : nIT N := fun _ => nI_toInt (by omega)
  have tn2906_ : nIT B := fun _ => nI_toInt (by omega)
  have tn2907_ : nIT T := fun _ => nI_toInt (by omega)
  have tn2908_ : nIT S := fun _ => nI_toInt (by omega)
  have tn2909_ : nIT M := fun _ => nI_toInt (by omega)
  refine va_calli (va_runV (As := [.int i]) (rest := [.ref h0]) ⟨hx, hb, hml, hown, hg⟩ (c_X11_isStretch l dC dI G _ h0 st N B rp tp T cu lt od th be ln S ma M ah bh ik la lg ce i vrs vrb vhs vca vxs vxb vfa vbr vba vsp vhe vtk vva vto hN hB_ hT_ hS0 hM_) (kwV hg mfX11_isStretch wt_1052 ⟨Nat.le_of_ble_eq_true rfl, Nat.le_of_ble_eq_true rfl⟩) (preVR hK hPc (ci := 11) rfl rfl) rfl rfl hl.1 rfl (lv_room (Nat.le_of_ble_eq_true rfl)) dX11_cold_3 ⟨Nat.le_of_ble_eq_true rfl, Nat.le_of_ble_eq_true rfl⟩) hS (fun q h1 h2 => absurd h2 (Nat.not_le.mpr h1)) (fun q h => hA q (Nat.le_trans hS.1 h)) (fun r1 ur1 t H1 locs ht hvm w2 hB hz1 hk1 hS => ?_)
  have hP := keepR hP hk1
  obtain ⟨w2, w2x⟩ := w2
  try simp only [l_ii, show (0 : Int32).toInt = 0 from by decide] at w2
  try rw [show (nI (N)).toInt = ((N : Nat) : Int) from tn2905_ ()] at w2
  subst w2
  refine lv_if_eq (tgt := 25) hx hb dX11_cold_6 (by decide) (fun c3 => ?_) (fun c3 => ?_)
  · skip
    have b4 := if10_n c3
    refine lv_iconst (v := 0) hx hb dX11_cold_25 (by decide) ?_
    refine lv_iconst (v := 2) hx hb dX11_cold_26 (by decide) ?_
    refine lv_iload_n hx hb dX11_cold_27 rfl (lv_at hl 1 rfl) ?_
    refine lv_imul hx hb dX11_cold_28 ?_
    refine lv_iconst (v := 1) hx hb dX11_cold_29 (by decide) ?_
    refine lv_iadd hx hb dX11_cold_30 ?_
    refine lv_iload_n hx hb dX11_cold_31 rfl (lv_at hl 2 rfl) ?_
    have hPc := hP.sub (ws' := [(h0, .inr (11, [.ref st, .int (nI N), .int (nI B), .ref rp, .int vrs, .int vrb, .int vhs, .int vca, .int vxs, .int vxb, .ref tp, .int (nI T), .int vfa, .int vbr, .int vba, .int vsp, .int vhe, .int vtk, .int vva, .ref cu, .ref lt, .ref od, .ref th, .ref be, .ref ln, .int (nI S), .ref ma, .int (nI M), .ref ah, .ref bh, .ref ik, .ref la, .ref lg, .ref ce, .int vto])), (st, .inl (G 0, 196, .inl fst))]) [0, 1] rfl
    have hDc := hD.sub (ws' := [(h0, .inr (11, [.ref st, .int (nI N), .int (nI B), .ref rp, .int vrs, .int vrb, .int vhs, .int vca, .int vxs, .int vxb, .ref tp, .int (nI T), .int vfa, .int vbr, .int vba, .int vsp, .int vhe, .int vtk, .int vva, .ref cu, .ref lt, .ref od, .ref th, .ref be, .ref ln, .int (nI S), .ref ma, .int (nI M), .ref ah, .ref bh, .ref ik, .ref la, .ref lg, .ref ce, .int vto])), (st, .inl (G 0, 196, .inl fst))]) [0, 1] (by decide) rfl
    have hFc := va_free (wc := [(h0, .inr (11, [.ref st, .int (nI N), .int (nI B), .ref rp, .int vrs, .int vrb, .int vhs, .int vca, .int vxs, .int vxb, .ref tp, .int (nI T), .int vfa, .int vbr, .int vba, .int vsp, .int vhe, .int vtk, .int vva, .ref cu, .ref lt, .ref od, .ref th, .ref be, .ref ln, .int (nI S), .ref ma, .int (nI M), .ref ah, .ref bh, .ref ik, .ref la, .ref lg, .ref ce, .int vto])), (st, .inl (G 0, 196, .inl fst))]) hD hS hA [0, 1] rfl
    refine va_calli (va_runV (As := [.int 0, .int ((2 * i) + 1), .int v]) (rest := []) ⟨hx, hb, hml, hown, hg⟩ (c_X11_sets0E l dC dI G _ h0 st N B rp tp T cu lt od th be ln S ma M ah bh ik la lg ce ((2 * i) + 1) v vrs vrb vhs vca vxs vxb vfa vbr vba vsp vhe vtk vva vto fst hN hB_ hT_ hS0 hM_ hst) (kwV hg mfX11_sets wt_1070 ⟨Nat.le_of_ble_eq_true rfl, Nat.le_of_ble_eq_true rfl⟩) (preVW hK hPc hDc (ci := 11) rfl rfl) rfl rfl hl.1 rfl (lv_room (Nat.le_of_ble_eq_true rfl)) dX11_cold_32 ⟨Nat.le_of_ble_eq_true rfl, Nat.le_of_ble_eq_true rfl⟩) hS (fun q _ h => hFc q h) hFc (fun r5 ur5 t H1 locs ht hvm w6 hB hz1 hk1 hS => ?_)
    obtain ⟨u7, rfl⟩ : ∃ z, z = ur5 := ⟨_, rfl⟩
    obtain ⟨hP1, hD1⟩ := hB
    rw [ht] at hP1
    obtain ⟨hP, hD⟩ := va_join (wr := []) (w1 := [(h0, .inr (11, [.ref st, .int (nI N), .int (nI B), .ref rp, .int vrs, .int vrb, .int vhs, .int vca, .int vxs, .int vxb, .ref tp, .int (nI T), .int vfa, .int vbr, .int vba, .int vsp, .int vhe, .int vtk, .int vva, .ref cu, .ref lt, .ref od, .ref th, .ref be, .ref ln, .int (nI S), .ref ma, .int (nI M), .ref ah, .ref bh, .ref ik, .ref la, .ref lg, .ref ce, .int vto])), (st, .inl (G 0, 196, .inl u7))]) hP hD [0, 1] [] rfl rfl (by decide) (by decide) hk1 hFc hP1 hD1
    generalize H1 = H at hP hS ⊢
    have hP : va_P (dC, dI) vwCl [(h0, .inr (11, [.ref st, .int (nI N), .int (nI B), .ref rp, .int vrs, .int vrb, .int vhs, .int vca, .int vxs, .int vxb, .ref tp, .int (nI T), .int vfa, .int vbr, .int vba, .int vsp, .int vhe, .int vtk, .int vva, .ref cu, .ref lt, .ref od, .ref th, .ref be, .ref ln, .int (nI S), .ref ma, .int (nI M), .ref ah, .ref bh, .ref ik, .ref la, .ref lg, .ref ce, .int vto])), (st, .inl (G 0, 196, .inl u7))] H := hP
    have hD : va_D A [(h0, .inr (11, [.ref st, .int (nI N), .int (nI B), .ref rp, .int vrs, .int vrb, .int vhs, .int vca, .int vxs, .int vxb, .ref tp, .int (nI T), .int vfa, .int vbr, .int vba, .int vsp, .int vhe, .int vtk, .int vva, .ref cu, .ref lt, .ref od, .ref th, .ref be, .ref ln, .int (nI S), .ref ma, .int (nI M), .ref ah, .ref bh, .ref ik, .ref la, .ref lg, .ref ce, .int vto])), (st, .inl (G 0, 196, .inl u7))] := hD
    obtain ⟨w6, w6x⟩ := w6
    have hpost : (r5 : Int32) = if ((0 ≤ i.toInt ∧ i.toInt < ((N : Nat) : Int)) ∧ 0 ≤ v.toInt ∧ v.toInt ≤ 9) then fst (2 * i.toNatClampNeg + 1) else -1 := by
      have t_b4 := b4
      have t_n0 : (nI N).toInt = (N : Int) := tn2905_ ()
      have t_n1 : (nI B).toInt = (B : Int) := tn2906_ ()
      have t_n2 : (nI T).toInt = (T : Int) := tn2907_ ()
      have t_n3 : (nI S).toInt = (S : Int) := tn2908_ ()
      have t_n4 : (nI M).toInt = (M : Int) := tn2909_ ()
      have z0 : (0 : Int32).toInt = 0 := qI_0
      have z1 : (1 : Int32).toInt = 1 := qI_1
      have z2 : (2 : Int32).toInt = 2 := qI_2
      have z3 : (3 : Int32).toInt = 3 := qI_3
      have z5 : (5 : Int32).toInt = 5 := qI_5
      have z9 : (9 : Int32).toInt = 9 := qI_9
      have z20 : (20 : Int32).toInt = 20 := qI_20
      have z4 : (-4 : Int32).toInt = -4 := (by decide)
      have z10 : (10 : Int32).toInt = 10 := qI_10
      rw [if_neg (by omega)]
      exact w6
    have hP9 := hP.sub (ws' := [(h0, .inr (11, [.ref st, .int (nI N), .int (nI B), .ref rp, .int vrs, .int vrb, .int vhs, .int vca, .int vxs, .int vxb, .ref tp, .int (nI T), .int vfa, .int vbr, .int vba, .int vsp, .int vhe, .int vtk, .int vva, .ref cu, .ref lt, .ref od, .ref th, .ref be, .ref ln, .int (nI S), .ref ma, .int (nI M), .ref ah, .ref bh, .ref ik, .ref la, .ref lg, .ref ce, .int vto])), (st, .inl (G 0, 196, .inl u7))]) [0, 1] rfl
    have hD9 := hD.sub (ws' := [(h0, .inr (11, [.ref st, .int (nI N), .int (nI B), .ref rp, .int vrs, .int vrb, .int vhs, .int vca, .int vxs, .int vxb, .ref tp, .int (nI T), .int vfa, .int vbr, .int vba, .int vsp, .int vhe, .int vtk, .int vva, .ref cu, .ref lt, .ref od, .ref th, .ref be, .ref ln, .int (nI S), .ref ma, .int (nI M), .ref ah, .ref bh, .ref ik, .ref la, .ref lg, .ref ce, .int vto])), (st, .inl (G 0, 196, .inl u7))]) [0, 1] (by decide) rfl
    refine W.widen (k := 0) (n := 0) (Nat.le_of_ble_eq_true rfl) (Nat.le_of_ble_eq_true rfl) ?_
    exact W.iret (v := r5) hx hb hr (fun t ht hW => ⟨⟨r5, u7, rfl, ⟨hpost, ⟨w6x.1, (by have t_b4 := b4; have t_n0 : (nI N).toInt = (N : Int) := tn2905_ (); have t_n1 : (nI B).toInt = (B : Int) := tn2906_ (); have t_n2 : (nI T).toInt = (T : Int) := tn2907_ (); have t_n3 : (nI S).toInt = (S : Int) := tn2908_ (); have t_n4 : (nI M).toInt = (M : Int) := tn2909_ (); have z0 : (0 : Int32).toInt = 0 := qI_0; have z1 : (1 : Int32).toInt = 1 := qI_1; have z2 : (2 : Int32).toInt = 2 := qI_2; have z3 : (3 : Int32).toInt = 3 := qI_3; have z5 : (5 : Int32).toInt = 5 := qI_5; have z9 : (9 : Int32).toInt = 9 := qI_9; have z20 : (20 : Int32).toInt = 20 := qI_20; have z4 : (-4 : Int32).toInt = -4 := (by decide); have z10 : (10 : Int32).toInt = 10 := qI_10; rw [if_neg (by omega)]; exact w6x.2)⟩⟩, ⟨by rw [ht]; exact hP9, hD9⟩⟩, hS.F ht⟩) hS.2.2 dX11_cold_35
  · skip
    have b8 := if10_p c3
    refine lv_iload_n hx hb dX11_cold_9 rfl (lv_at hl 2 rfl) ?_
    refine lv_i2l (v := v.toInt64) hx hb dX11_cold_10 rfl ?_
    refine lv_lconst (v := 0) hx hb dX11_cold_11 (by decide) ?_
    refine lv_ldc2 (v := 9) hx hb hown (hg _ wt_1069) dX11_cold_12 ?_
    have hPc := hP.sub (ws' := []) [] rfl
    refine va_calli (va_runS (As := [.long v.toInt64, .long 0, .long 9]) (rest := [.ref h0]) ⟨hx, hb, hml, hown, hg⟩ (c_X11_in l dC dI G _ v.toInt64 0 9) (kwS hg mfX11_in wt_992 ⟨Nat.le_of_ble_eq_true rfl, Nat.le_of_ble_eq_true rfl⟩) (preSR hK hPc) rfl rfl hl.1 rfl (lv_room (Nat.le_of_ble_eq_true rfl)) dX11_cold_15 ⟨Nat.le_of_ble_eq_true rfl, Nat.le_of_ble_eq_true rfl⟩) hS (fun q h1 h2 => absurd h2 (Nat.not_le.mpr h1)) (fun q h => hA q (Nat.le_trans hS.1 h)) (fun r9 ur9 t H1 locs ht hvm w10 hB hz1 hk1 hS => ?_)
    have hP := keepR hP hk1
    obtain ⟨w10, w10x⟩ := w10
    try simp only [l_ii, show (0 : Int64).toInt = 0 from by decide, show (9 : Int64).toInt = 9 from by decide] at w10
    subst w10
    refine lv_if_eq (tgt := 25) hx hb dX11_cold_18 (by decide) (fun c11 => ?_) (fun c11 => ?_)
    · skip
      have b12 := if10_n c11
      refine lv_iconst (v := 0) hx hb dX11_cold_25 (by decide) ?_
      refine lv_iconst (v := 2) hx hb dX11_cold_26 (by decide) ?_
      refine lv_iload_n hx hb dX11_cold_27 rfl (lv_at hl 1 rfl) ?_
      refine lv_imul hx hb dX11_cold_28 ?_
      refine lv_iconst (v := 1) hx hb dX11_cold_29 (by decide) ?_
      refine lv_iadd hx hb dX11_cold_30 ?_
      refine lv_iload_n hx hb dX11_cold_31 rfl (lv_at hl 2 rfl) ?_
      have hPc := hP.sub (ws' := [(h0, .inr (11, [.ref st, .int (nI N), .int (nI B), .ref rp, .int vrs, .int vrb, .int vhs, .int vca, .int vxs, .int vxb, .ref tp, .int (nI T), .int vfa, .int vbr, .int vba, .int vsp, .int vhe, .int vtk, .int vva, .ref cu, .ref lt, .ref od, .ref th, .ref be, .ref ln, .int (nI S), .ref ma, .int (nI M), .ref ah, .ref bh, .ref ik, .ref la, .ref lg, .ref ce, .int vto])), (st, .inl (G 0, 196, .inl fst))]) [0, 1] rfl
      have hDc := hD.sub (ws' := [(h0, .inr (11, [.ref st, .int (nI N), .int (nI B), .ref rp, .int vrs, .int vrb, .int vhs, .int vca, .int vxs, .int vxb, .ref tp, .int (nI T), .int vfa, .int vbr, .int vba, .int vsp, .int vhe, .int vtk, .int vva, .ref cu, .ref lt, .ref od, .ref th, .ref be, .ref ln, .int (nI S), .ref ma, .int (nI M), .ref ah, .ref bh, .ref ik, .ref la, .ref lg, .ref ce, .int vto])), (st, .inl (G 0, 196, .inl fst))]) [0, 1] (by decide) rfl
      have hFc := va_free (wc := [(h0, .inr (11, [.ref st, .int (nI N), .int (nI B), .ref rp, .int vrs, .int vrb, .int vhs, .int vca, .int vxs, .int vxb, .ref tp, .int (nI T), .int vfa, .int vbr, .int vba, .int vsp, .int vhe, .int vtk, .int vva, .ref cu, .ref lt, .ref od, .ref th, .ref be, .ref ln, .int (nI S), .ref ma, .int (nI M), .ref ah, .ref bh, .ref ik, .ref la, .ref lg, .ref ce, .int vto])), (st, .inl (G 0, 196, .inl fst))]) hD hS hA [0, 1] rfl
      refine va_calli (va_runV (As := [.int 0, .int ((2 * i) + 1), .int v]) (rest := []) ⟨hx, hb, hml, hown, hg⟩ (c_X11_sets0E l dC dI G _ h0 st N B rp tp T cu lt od th be ln S ma M ah bh ik la lg ce ((2 * i) + 1) v vrs vrb vhs vca vxs vxb vfa vbr vba vsp vhe vtk vva vto fst hN hB_ hT_ hS0 hM_ hst) (kwV hg mfX11_sets wt_1070 ⟨Nat.le_of_ble_eq_true rfl, Nat.le_of_ble_eq_true rfl⟩) (preVW hK hPc hDc (ci := 11) rfl rfl) rfl rfl hl.1 rfl (lv_room (Nat.le_of_ble_eq_true rfl)) dX11_cold_32 ⟨Nat.le_of_ble_eq_true rfl, Nat.le_of_ble_eq_true rfl⟩) hS (fun q _ h => hFc q h) hFc (fun r13 ur13 t H1 locs ht hvm w14 hB hz1 hk1 hS => ?_)
      obtain ⟨u15, rfl⟩ : ∃ z, z = ur13 := ⟨_, rfl⟩
      obtain ⟨hP1, hD1⟩ := hB
      rw [ht] at hP1
      obtain ⟨hP, hD⟩ := va_join (wr := []) (w1 := [(h0, .inr (11, [.ref st, .int (nI N), .int (nI B), .ref rp, .int vrs, .int vrb, .int vhs, .int vca, .int vxs, .int vxb, .ref tp, .int (nI T), .int vfa, .int vbr, .int vba, .int vsp, .int vhe, .int vtk, .int vva, .ref cu, .ref lt, .ref od, .ref th, .ref be, .ref ln, .int (nI S), .ref ma, .int (nI M), .ref ah, .ref bh, .ref ik, .ref la, .ref lg, .ref ce, .int vto])), (st, .inl (G 0, 196, .inl u15))]) hP hD [0, 1] [] rfl rfl (by decide) (by decide) hk1 hFc hP1 hD1
      generalize H1 = H at hP hS ⊢
      have hP : va_P (dC, dI) vwCl [(h0, .inr (11, [.ref st, .int (nI N), .int (nI B), .ref rp, .int vrs, .int vrb, .int vhs, .int vca, .int vxs, .int vxb, .ref tp, .int (nI T), .int vfa, .int vbr, .int vba, .int vsp, .int vhe, .int vtk, .int vva, .ref cu, .ref lt, .ref od, .ref th, .ref be, .ref ln, .int (nI S), .ref ma, .int (nI M), .ref ah, .ref bh, .ref ik, .ref la, .ref lg, .ref ce, .int vto])), (st, .inl (G 0, 196, .inl u15))] H := hP
      have hD : va_D A [(h0, .inr (11, [.ref st, .int (nI N), .int (nI B), .ref rp, .int vrs, .int vrb, .int vhs, .int vca, .int vxs, .int vxb, .ref tp, .int (nI T), .int vfa, .int vbr, .int vba, .int vsp, .int vhe, .int vtk, .int vva, .ref cu, .ref lt, .ref od, .ref th, .ref be, .ref ln, .int (nI S), .ref ma, .int (nI M), .ref ah, .ref bh, .ref ik, .ref la, .ref lg, .ref ce, .int vto])), (st, .inl (G 0, 196, .inl u15))] := hD
      obtain ⟨w14, w14x⟩ := w14
      have hpost : (r13 : Int32) = if ((0 ≤ i.toInt ∧ i.toInt < ((N : Nat) : Int)) ∧ 0 ≤ v.toInt ∧ v.toInt ≤ 9) then fst (2 * i.toNatClampNeg + 1) else -1 := by
        have t_b8 := b8
        have t_b12 := b12
        have t_n0 : (nI N).toInt = (N : Int) := tn2905_ ()
        have t_n1 : (nI B).toInt = (B : Int) := tn2906_ ()
        have t_n2 : (nI T).toInt = (T : Int) := tn2907_ ()
        have t_n3 : (nI S).toInt = (S : Int) := tn2908_ ()
        have t_n4 : (nI M).toInt = (M : Int) := tn2909_ ()
        have z0 : (0 : Int32).toInt = 0 := qI_0
        have z1 : (1 : Int32).toInt = 1 := qI_1
        have z2 : (2 : Int32).toInt = 2 := qI_2
        have z3 : (3 : Int32).toInt = 3 := qI_3
        have z5 : (5 : Int32).toInt = 5 := qI_5
        have z9 : (9 : Int32).toInt = 9 := qI_9
        have z20 : (20 : Int32).toInt = 20 := qI_20
        have z4 : (-4 : Int32).toInt = -4 := (by decide)
        have z10 : (10 : Int32).toInt = 10 := qI_10
        rw [if_neg (by omega)]
        exact w14
      have hP9 := hP.sub (ws' := [(h0, .inr (11, [.ref st, .int (nI N), .int (nI B), .ref rp, .int vrs, .int vrb, .int vhs, .int vca, .int vxs, .int vxb, .ref tp, .int (nI T), .int vfa, .int vbr, .int vba, .int vsp, .int vhe, .int vtk, .int vva, .ref cu, .ref lt, .ref od, .ref th, .ref be, .ref ln, .int (nI S), .ref ma, .int (nI M), .ref ah, .ref bh, .ref ik, .ref la, .ref lg, .ref ce, .int vto])), (st, .inl (G 0, 196, .inl u15))]) [0, 1] rfl
      have hD9 := hD.sub (ws' := [(h0, .inr (11, [.ref st, .int (nI N), .int (nI B), .ref rp, .int vrs, .int vrb, .int vhs, .int vca, .int vxs, .int vxb, .ref tp, .int (nI T), .int vfa, .int vbr, .int vba, .int vsp, .int vhe, .int vtk, .int vva, .ref cu, .ref lt, .ref od, .ref th, .ref be, .ref ln, .int (nI S), .ref ma, .int (nI M), .ref ah, .ref bh, .ref ik, .ref la, .ref lg, .ref ce, .int vto])), (st, .inl (G 0, 196, .inl u15))]) [0, 1] (by decide) rfl
      refine W.widen (k := 0) (n := 0) (Nat.le_of_ble_eq_true rfl) (Nat.le_of_ble_eq_true rfl) ?_
      exact W.iret (v := r13) hx hb hr (fun t ht hW => ⟨⟨r13, u15, rfl, ⟨hpost, ⟨w14x.1, (by have t_b8 := b8; have t_b12 := b12; have t_n0 : (nI N).toInt = (N : Int) := tn2905_ (); have t_n1 : (nI B).toInt = (B : Int) := tn2906_ (); have t_n2 : (nI T).toInt = (T : Int) := tn2907_ (); have t_n3 : (nI S).toInt = (S : Int) := tn2908_ (); have t_n4 : (nI M).toInt = (M : Int) := tn2909_ (); have z0 : (0 : Int32).toInt = 0 := qI_0; have z1 : (1 : Int32).toInt = 1 := qI_1; have z2 : (2 : Int32).toInt = 2 := qI_2; have z3 : (3 : Int32).toInt = 3 := qI_3; have z5 : (5 : Int32).toInt = 5 := qI_5; have z9 : (9 : Int32).toInt = 9 := qI_9; have z20 : (20 : Int32).toInt = 20 := qI_20; have z4 : (-4 : Int32).toInt = -4 := (by decide); have z10 : (10 : Int32).toInt = 10 := qI_10; rw [if_neg (by omega)]; exact w14x.2)⟩⟩, ⟨by rw [ht]; exact hP9, hD9⟩⟩, hS.F ht⟩) hS.2.2 dX11_cold_35
    · skip
      have b16 := if10_p c11
      obtain ⟨ii, hii, rfl⟩ : ∃ j : Nat, j < 10 ∧ i = nI j := by
        have t_b8 := b8
        have t_b16 := b16
        have t_n0 : (nI N).toInt = (N : Int) := tn2905_ ()
        have t_n1 : (nI B).toInt = (B : Int) := tn2906_ ()
        have t_n2 : (nI T).toInt = (T : Int) := tn2907_ ()
        have t_n3 : (nI S).toInt = (S : Int) := tn2908_ ()
        have t_n4 : (nI M).toInt = (M : Int) := tn2909_ ()
        exact i32_nat (by omega) (by omega)
      refine lv_iconst (v := 1) hx hb dX11_cold_21 (by decide) ?_
      refine lv_goto (tgt := 26) hx hb dX11_cold_22 (by decide) ?_
      refine lv_iconst (v := 2) hx hb dX11_cold_26 (by decide) ?_
      refine lv_iload_n hx hb dX11_cold_27 rfl (lv_at hl 1 rfl) ?_
      refine lv_imul hx hb dX11_cold_28 ?_
      refine lv_cg (y := nI (2 * ii)) (by rw [show (2 : Int32) = nI 2 from rfl]; exact pk_mul _ _) ?_
      refine lv_iconst (v := 1) hx hb dX11_cold_29 (by decide) ?_
      refine lv_iadd hx hb dX11_cold_30 ?_
      refine lv_cg (y := nI ((2 * ii) + 1)) (by rw [show (1 : Int32) = nI 1 from rfl]; exact nI_add _ _) ?_
      refine lv_iload_n hx hb dX11_cold_31 rfl (lv_at hl 2 rfl) ?_
      have hPc := hP.sub (ws' := [(h0, .inr (11, [.ref st, .int (nI N), .int (nI B), .ref rp, .int vrs, .int vrb, .int vhs, .int vca, .int vxs, .int vxb, .ref tp, .int (nI T), .int vfa, .int vbr, .int vba, .int vsp, .int vhe, .int vtk, .int vva, .ref cu, .ref lt, .ref od, .ref th, .ref be, .ref ln, .int (nI S), .ref ma, .int (nI M), .ref ah, .ref bh, .ref ik, .ref la, .ref lg, .ref ce, .int vto])), (st, .inl (G 0, 196, .inl fst))]) [0, 1] rfl
      have hDc := hD.sub (ws' := [(h0, .inr (11, [.ref st, .int (nI N), .int (nI B), .ref rp, .int vrs, .int vrb, .int vhs, .int vca, .int vxs, .int vxb, .ref tp, .int (nI T), .int vfa, .int vbr, .int vba, .int vsp, .int vhe, .int vtk, .int vva, .ref cu, .ref lt, .ref od, .ref th, .ref be, .ref ln, .int (nI S), .ref ma, .int (nI M), .ref ah, .ref bh, .ref ik, .ref la, .ref lg, .ref ce, .int vto])), (st, .inl (G 0, 196, .inl fst))]) [0, 1] (by decide) rfl
      have hFc := va_free (wc := [(h0, .inr (11, [.ref st, .int (nI N), .int (nI B), .ref rp, .int vrs, .int vrb, .int vhs, .int vca, .int vxs, .int vxb, .ref tp, .int (nI T), .int vfa, .int vbr, .int vba, .int vsp, .int vhe, .int vtk, .int vva, .ref cu, .ref lt, .ref od, .ref th, .ref be, .ref ln, .int (nI S), .ref ma, .int (nI M), .ref ah, .ref bh, .ref ik, .ref la, .ref lg, .ref ce, .int vto])), (st, .inl (G 0, 196, .inl fst))]) hD hS hA [0, 1] rfl
      have tn2910_ : nIT ii := fun _ => nI_toInt (by first | omega | (have t_b8 := b8; have t_b16 := b16; have t_hii := hii; omega))
      refine va_calli (va_runV (As := [.int 1, .int (nI ((2 * ii) + 1)), .int v]) (rest := []) ⟨hx, hb, hml, hown, hg⟩ (c_X11_sets1E l dC dI G _ h0 ((2 * ii) + 1) st N B rp tp T cu lt od th be ln S ma M ah bh ik la lg ce v vrs vrb vhs vca vxs vxb vfa vbr vba vsp vhe vtk vva vto fst hN hB_ hT_ hS0 hM_ hst (by first | omega | (have t_b8 := b8; have t_b16 := b16; have t_hii := hii; have t_n0 : (nI N).toInt = (N : Int) := tn2905_ (); have t_n1 : (nI B).toInt = (B : Int) := tn2906_ (); have t_n2 : (nI T).toInt = (T : Int) := tn2907_ (); have t_n3 : (nI S).toInt = (S : Int) := tn2908_ (); have t_n4 : (nI M).toInt = (M : Int) := tn2909_ (); have t_n5 : (nI ii).toInt = (ii : Int) := tn2910_ (); omega)) (okS_lo (by have t_b8 := b8; have t_b16 := b16; have t_hii := hii; have t_n0 : (nI N).toInt = (N : Int) := tn2905_ (); have t_n1 : (nI B).toInt = (B : Int) := tn2906_ (); have t_n2 : (nI T).toInt = (T : Int) := tn2907_ (); have t_n3 : (nI S).toInt = (S : Int) := tn2908_ (); have t_n4 : (nI M).toInt = (M : Int) := tn2909_ (); have t_n5 : (nI ii).toInt = (ii : Int) := tn2910_ (); omega) (by have t_b8 := b8; have t_b16 := b16; have t_hii := hii; have t_n0 : (nI N).toInt = (N : Int) := tn2905_ (); have t_n1 : (nI B).toInt = (B : Int) := tn2906_ (); have t_n2 : (nI T).toInt = (T : Int) := tn2907_ (); have t_n3 : (nI S).toInt = (S : Int) := tn2908_ (); have t_n4 : (nI M).toInt = (M : Int) := tn2909_ (); have t_n5 : (nI ii).toInt = (ii : Int) := tn2910_ (); omega) (by have t_b8 := b8; have t_b16 := b16; have t_hii := hii; have t_n0 : (nI N).toInt = (N : Int) := tn2905_ (); have t_n1 : (nI B).toInt = (B : Int) := tn2906_ (); have t_n2 : (nI T).toInt = (T : Int) := tn2907_ (); have t_n3 : (nI S).toInt = (S : Int) := tn2908_ (); have t_n4 : (nI M).toInt = (M : Int) := tn2909_ (); have t_n5 : (nI ii).toInt = (ii : Int) := tn2910_ (); omega))) (kwV hg mfX11_sets wt_1070 ⟨Nat.le_of_ble_eq_true rfl, Nat.le_of_ble_eq_true rfl⟩) (preVW hK hPc hDc (ci := 11) rfl rfl) rfl rfl hl.1 rfl (lv_room (Nat.le_of_ble_eq_true rfl)) dX11_cold_32 ⟨Nat.le_of_ble_eq_true rfl, Nat.le_of_ble_eq_true rfl⟩) hS (fun q _ h => hFc q h) hFc (fun r17 ur17 t H1 locs ht hvm w18 hB hz1 hk1 hS => ?_)
      obtain ⟨u19, rfl⟩ : ∃ z, z = ur17 := ⟨_, rfl⟩
      obtain ⟨hP1, hD1⟩ := hB
      rw [ht] at hP1
      obtain ⟨hP, hD⟩ := va_join (wr := []) (w1 := [(h0, .inr (11, [.ref st, .int (nI N), .int (nI B), .ref rp, .int vrs, .int vrb, .int vhs, .int vca, .int vxs, .int vxb, .ref tp, .int (nI T), .int vfa, .int vbr, .int vba, .int vsp, .int vhe, .int vtk, .int vva, .ref cu, .ref lt, .ref od, .ref th, .ref be, .ref ln, .int (nI S), .ref ma, .int (nI M), .ref ah, .ref bh, .ref ik, .ref la, .ref lg, .ref ce, .int vto])), (st, .inl (G 0, 196, .inl u19))]) hP hD [0, 1] [] rfl rfl (by decide) (by decide) hk1 hFc hP1 hD1
      generalize H1 = H at hP hS ⊢
      have hP : va_P (dC, dI) vwCl [(h0, .inr (11, [.ref st, .int (nI N), .int (nI B), .ref rp, .int vrs, .int vrb, .int vhs, .int vca, .int vxs, .int vxb, .ref tp, .int (nI T), .int vfa, .int vbr, .int vba, .int vsp, .int vhe, .int vtk, .int vva, .ref cu, .ref lt, .ref od, .ref th, .ref be, .ref ln, .int (nI S), .ref ma, .int (nI M), .ref ah, .ref bh, .ref ik, .ref la, .ref lg, .ref ce, .int vto])), (st, .inl (G 0, 196, .inl u19))] H := hP
      have hD : va_D A [(h0, .inr (11, [.ref st, .int (nI N), .int (nI B), .ref rp, .int vrs, .int vrb, .int vhs, .int vca, .int vxs, .int vxb, .ref tp, .int (nI T), .int vfa, .int vbr, .int vba, .int vsp, .int vhe, .int vtk, .int vva, .ref cu, .ref lt, .ref od, .ref th, .ref be, .ref ln, .int (nI S), .ref ma, .int (nI M), .ref ah, .ref bh, .ref ik, .ref la, .ref lg, .ref ce, .int vto])), (st, .inl (G 0, 196, .inl u19))] := hD
      obtain ⟨w18, w18x⟩ := w18
      have hpost : (r17 : Int32) = if ((0 ≤ (nI ii).toInt ∧ (nI ii).toInt < ((N : Nat) : Int)) ∧ 0 ≤ v.toInt ∧ v.toInt ≤ 9) then fst (2 * (nI ii).toNatClampNeg + 1) else -1 := by
        have t_b8 := b8
        have t_b16 := b16
        have t_hii := hii
        have t_n0 : (nI N).toInt = (N : Int) := tn2905_ ()
        have t_n1 : (nI B).toInt = (B : Int) := tn2906_ ()
        have t_n2 : (nI T).toInt = (T : Int) := tn2907_ ()
        have t_n3 : (nI S).toInt = (S : Int) := tn2908_ ()
        have t_n4 : (nI M).toInt = (M : Int) := tn2909_ ()
        have t_n5 : (nI ii).toInt = (ii : Int) := tn2910_ ()
        have z0 : (0 : Int32).toInt = 0 := qI_0
        have z1 : (1 : Int32).toInt = 1 := qI_1
        have z2 : (2 : Int32).toInt = 2 := qI_2
        have z3 : (3 : Int32).toInt = 3 := qI_3
        have z5 : (5 : Int32).toInt = 5 := qI_5
        have z9 : (9 : Int32).toInt = 9 := qI_9
        have z20 : (20 : Int32).toInt = 20 := qI_20
        have z4 : (-4 : Int32).toInt = -4 := (by decide)
        have z10 : (10 : Int32).toInt = 10 := qI_10
        rw [if_pos (by omega)]
        (try rw [nI_clamp (by omega)])
        exact w18
      have hP9 := hP.sub (ws' := [(h0, .inr (11, [.ref st, .int (nI N), .int (nI B), .ref rp, .int vrs, .int vrb, .int vhs, .int vca, .int vxs, .int vxb, .ref tp, .int (nI T), .int vfa, .int vbr, .int vba, .int vsp, .int vhe, .int vtk, .int vva, .ref cu, .ref lt, .ref od, .ref th, .ref be, .ref ln, .int (nI S), .ref ma, .int (nI M), .ref ah, .ref bh, .ref ik, .ref la, .ref lg, .ref ce, .int vto])), (st, .inl (G 0, 196, .inl u19))]) [0, 1] rfl
      have hD9 := hD.sub (ws' := [(h0, .inr (11, [.ref st, .int (nI N), .int (nI B), .ref rp, .int vrs, .int vrb, .int vhs, .int vca, .int vxs, .int vxb, .ref tp, .int (nI T), .int vfa, .int vbr, .int vba, .int vsp, .int vhe, .int vtk, .int vva, .ref cu, .ref lt, .ref od, .ref th, .ref be, .ref ln, .int (nI S), .ref ma, .int (nI M), .ref ah, .ref bh, .ref ik, .ref la, .ref lg, .ref ce, .int vto])), (st, .inl (G 0, 196, .inl u19))]) [0, 1] (by decide) rfl
      refine W.widen (k := 0) (n := 0) (Nat.le_of_ble_eq_true rfl) (Nat.le_of_ble_eq_true rfl) ?_
      exact W.iret (v := r17) hx hb hr (fun t ht hW => ⟨⟨r17, u19, rfl, ⟨hpost, ⟨w18x.1, (by have t_b8 := b8; have t_b16 := b16; have t_hii := hii; have t_n0 : (nI N).toInt = (N : Int) := tn2905_ (); have t_n1 : (nI B).toInt = (B : Int) := tn2906_ (); have t_n2 : (nI T).toInt = (T : Int) := tn2907_ (); have t_n3 : (nI S).toInt = (S : Int) := tn2908_ (); have t_n4 : (nI M).toInt = (M : Int) := tn2909_ (); have t_n5 : (nI ii).toInt = (ii : Int) := tn2910_ (); have z0 : (0 : Int32).toInt = 0 := qI_0; have z1 : (1 : Int32).toInt = 1 := qI_1; have z2 : (2 : Int32).toInt = 2 := qI_2; have z3 : (3 : Int32).toInt = 3 := qI_3; have z5 : (5 : Int32).toInt = 5 := qI_5; have z9 : (9 : Int32).toInt = 9 := qI_9; have z20 : (20 : Int32).toInt = 20 := qI_20; have z4 : (-4 : Int32).toInt = -4 := (by decide); have z10 : (10 : Int32).toInt = 10 := qI_10; rw [if_pos (by omega)]; (try rw [nI_clamp (by omega)]); exact w18x.2)⟩⟩, ⟨by rw [ht]; exact hP9, hD9⟩⟩, hS.F ht⟩) hS.2.2 dX11_cold_35

set_option maxHeartbeats 1000000 in
set_option maxRecDepth 100000 in
theorem c_X11_stepE (l : Launch) (dC : Nat → ClassId) (dI : Nat → Nat → Nat) (G : Nat → ClassId) (sz : Nat) (h0 st N B rp tp T cu lt od th be ln S ma M ah bh ik la lg ce : Nat) (i v vrs vrb vhs vca vxs vxb vfa vbr vba vsp vhe vtk vva vto : Int32) (fst : Nat → Int32) (hN : N ≤ 10) (hB : B ≤ 6) (hT : T ≤ 320) (hS0 : S ≤ 8) (hM : M ≤ 6) (hst : OKS fst) : Met l yX11_step (Cond.code yX11_step cX11_step 3 (some .int) :: GT) ({ frames := 2, cells := 0, slots := 0, locals := 46 } : Room) (PcW [.ref h0, .int i, .int v] dC dI G [(h0, .inr (11, [.ref st, .int (nI N), .int (nI B), .ref rp, .int vrs, .int vrb, .int vhs, .int vca, .int vxs, .int vxb, .ref tp, .int (nI T), .int vfa, .int vbr, .int vba, .int vsp, .int vhe, .int vtk, .int vva, .ref cu, .ref lt, .ref od, .ref th, .ref be, .ref ln, .int (nI S), .ref ma, .int (nI M), .ref ah, .ref bh, .ref ik, .ref la, .ref lg, .ref ce, .int vto])), (st, .inl (G 0, 196, .inl fst))] sz) (va_Qi (fun (r : Int32) (u : (Nat → Int32)) => match u with | ost => (r = if ((0 ≤ i.toInt ∧ i.toInt < ((B : Nat) : Int)) ∧ 0 ≤ v.toInt ∧ v.toInt ≤ 9) then fst (20 + 3 * i.toNatClampNeg + 1) else -1) ∧ OKS ost ∧ ost = (if ((0 ≤ i.toInt ∧ i.toInt < ((B : Nat) : Int)) ∧ 0 ≤ v.toInt ∧ v.toInt ≤ 9) then upd fst (20 + 3 * i.toNatClampNeg + 1) v else fst)) (fun (u : (Nat → Int32)) (t : State) => match u with | ost => va_P (dC, dI) vwCl [(h0, .inr (11, [.ref st, .int (nI N), .int (nI B), .ref rp, .int vrs, .int vrb, .int vhs, .int vca, .int vxs, .int vxb, .ref tp, .int (nI T), .int vfa, .int vbr, .int vba, .int vsp, .int vhe, .int vtk, .int vva, .ref cu, .ref lt, .ref od, .ref th, .ref be, .ref ln, .int (nI S), .ref ma, .int (nI M), .ref ah, .ref bh, .ref ik, .ref la, .ref lg, .ref ce, .int vto])), (st, .inl (G 0, 196, .inl ost))] t.heap ∧ va_D (va_A [(h0, .inr (11, [.ref st, .int (nI N), .int (nI B), .ref rp, .int vrs, .int vrb, .int vhs, .int vca, .int vxs, .int vxb, .ref tp, .int (nI T), .int vfa, .int vbr, .int vba, .int vsp, .int vhe, .int vtk, .int vva, .ref cu, .ref lt, .ref od, .ref th, .ref be, .ref ln, .int (nI S), .ref ma, .int (nI M), .ref ah, .ref bh, .ref ik, .ref la, .ref lg, .ref ce, .int vto])), (st, .inl (G 0, 196, .inl fst))] sz) [(h0, .inr (11, [.ref st, .int (nI N), .int (nI B), .ref rp, .int vrs, .int vrb, .int vhs, .int vca, .int vxs, .int vxb, .ref tp, .int (nI T), .int vfa, .int vbr, .int vba, .int vsp, .int vhe, .int vtk, .int vva, .ref cu, .ref lt, .ref od, .ref th, .ref be, .ref ln, .int (nI S), .ref ma, .int (nI M), .ref ah, .ref bh, .ref ik, .ref la, .ref lg, .ref ce, .int vto])), (st, .inl (G 0, 196, .inl ost))]) (va_A [(h0, .inr (11, [.ref st, .int (nI N), .int (nI B), .ref rp, .int vrs, .int vrb, .int vhs, .int vca, .int vxs, .int vxb, .ref tp, .int (nI T), .int vfa, .int vbr, .int vba, .int vsp, .int vhe, .int vtk, .int vva, .ref cu, .ref lt, .ref od, .ref th, .ref be, .ref ln, .int (nI S), .ref ma, .int (nI M), .ref ah, .ref bh, .ref ik, .ref la, .ref lg, .ref ce, .int vto])), (st, .inl (G 0, 196, .inl fst))] sz)) 0 0 (va_A [(h0, .inr (11, [.ref st, .int (nI N), .int (nI B), .ref rp, .int vrs, .int vrb, .int vhs, .int vca, .int vxs, .int vxb, .ref tp, .int (nI T), .int vfa, .int vbr, .int vba, .int vsp, .int vhe, .int vtk, .int vva, .ref cu, .ref lt, .ref od, .ref th, .ref be, .ref ln, .int (nI S), .ref ma, .int (nI M), .ref ah, .ref bh, .ref ik, .ref la, .ref lg, .ref ce, .int vto])), (st, .inl (G 0, 196, .inl fst))] sz) := by
  have hB_ := hB
  have hM_ := hM
  have hT_ := hT
  refine Met.ofW (cc := cX11_step) (maxL := 3) (ret := (some .int)) (by decide) rfl ?_
  intro p e s m args below meth c s₁ Bd hml hv
  obtain ⟨rfl, hsz, hP, hK, hD0⟩ := hv
  have hx := Bd.exec
  have hb := Bd.bytes
  have hr := Bd.returns
  have hg : ∀ w ∈ GT, w.before ([.ref h0, .int i, .int v] : List Value).toArray s = true := fun w h => atoms_spec (ws := Cond.code yX11_step cX11_step 3 (some .int) :: GT) Bd.pre w (List.mem_cons_of_mem _ h)
  have hown : s.vm.findClass RX11 = some m.cls := findClass_of_methodNamed Bd.named
  have hlocks := Bd.notSynchronized
  subst hsz
  have hD := hD0.self (sz := s.heap.size)
  generalize hAe : va_A [(h0, .inr (11, [.ref st, .int (nI N), .int (nI B), .ref rp, .int vrs, .int vrb, .int vhs, .int vca, .int vxs, .int vxb, .ref tp, .int (nI T), .int vfa, .int vbr, .int vba, .int vsp, .int vhe, .int vtk, .int vva, .ref cu, .ref lt, .ref od, .ref th, .ref be, .ref ln, .int (nI S), .ref ma, .int (nI M), .ref ah, .ref bh, .ref ik, .ref la, .ref lg, .ref ce, .int vto])), (st, .inl (G 0, 196, .inl fst))] s.heap.size = A at hD ⊢
  have hA : ∀ q : Nat, s.heap.size ≤ q → A q := fun q h => by rw [← hAe]; exact Or.inr h
  have hS : va_S A s.heap s.heap [] := va_S.rf
  have hl := lv_entry ([.ref h0, .int i, .int v]) (n := 3) (Nat.le_of_ble_eq_true rfl)
  rw [lg_entry_eq]
  generalize (lg_sl ([.ref h0, .int i, .int v]) ++ List.replicate (3 - (lg_sl ([.ref h0, .int i, .int v])).length) Slot.unset).toArray = ls at hl ⊢
  have hl : lv_has ls 3 [(0, .ref h0), (1, .int i), (2, .int v)] := hl
  refine lv_aload_n hx hb dX11_step_0 rfl (lv_at hl 0 rfl) ?_
  refine lv_aload_n hx hb dX11_step_1 rfl (lv_at hl 0 rfl) ?_
  refine lv_iload_n hx hb dX11_step_2 rfl (lv_at hl 1 rfl) ?_
  have hPc := hP.sub (ws' := [(h0, .inr (11, [.ref st, .int (nI N), .int (nI B), .ref rp, .int vrs, .int vrb, .int vhs, .int vca, .int vxs, .int vxb, .ref tp, .int (nI T), .int vfa, .int vbr, .int vba, .int vsp, .int vhe, .int vtk, .int vva, .ref cu, .ref lt, .ref od, .ref th, .ref be, .ref ln, .int (nI S), .ref ma, .int (nI M), .ref ah, .ref bh, .ref ik, .ref la, .ref lg, .ref ce, .int vto]))]) [0] rfl
  have tn2911_ : nIT N := fun _ => nI_toInt (by omega)
  have tn2912_ : nIT B := fun _ => nI_toInt (by omega)
  have tn2913_ : nIT T := fun _ => nI_toInt (by omega)
  have tn2914_ : nIT S := fun _ => nI_toInt (by omega)
  have tn2915_ : nIT M := fun _ => nI_toInt (by omega)
  refine va_calli (va_runV (As := [.int i]) (rest := [.ref h0]) ⟨hx, hb, hml, hown, hg⟩ (c_X11_isBearer l dC dI G _ h0 st N B rp tp T cu lt od th be ln S ma M ah bh ik la lg ce i vrs vrb vhs vca vxs vxb vfa vbr vba vsp vhe vtk vva vto hN hB_ hT_ hS0 hM_) (kwV hg mfX11_isBearer wt_1061 ⟨Nat.le_of_ble_eq_true rfl, Nat.le_of_ble_eq_true rfl⟩) (preVR hK hPc (ci := 11) rfl rfl) rfl rfl hl.1 rfl (lv_room (Nat.le_of_ble_eq_true rfl)) dX11_step_3 ⟨Nat.le_of_ble_eq_true rfl, Nat.le_of_ble_eq_true rfl⟩) hS (fun q h1 h2 => absurd h2 (Nat.not_le.mpr h1)) (fun q h => hA q (Nat.le_trans hS.1 h)) (fun r1 ur1 t H1 locs ht hvm w2 hB hz1 hk1 hS => ?_)
  have hP := keepR hP hk1
  obtain ⟨w2, w2x⟩ := w2
  try simp only [l_ii, show (0 : Int32).toInt = 0 from by decide] at w2
  try rw [show (nI (B)).toInt = ((B : Nat) : Int) from tn2912_ ()] at w2
  subst w2
  refine lv_if_eq (tgt := 25) hx hb dX11_step_6 (by decide) (fun c3 => ?_) (fun c3 => ?_)
  · skip
    have b4 := if10_n c3
    refine lv_iconst (v := 0) hx hb dX11_step_25 (by decide) ?_
    refine lv_bipush (v := 20) hx hb dX11_step_26 (by decide) ?_
    refine lv_iconst (v := 3) hx hb dX11_step_28 (by decide) ?_
    refine lv_iload_n hx hb dX11_step_29 rfl (lv_at hl 1 rfl) ?_
    refine lv_imul hx hb dX11_step_30 ?_
    refine lv_iadd hx hb dX11_step_31 ?_
    refine lv_iconst (v := 1) hx hb dX11_step_32 (by decide) ?_
    refine lv_iadd hx hb dX11_step_33 ?_
    refine lv_iload_n hx hb dX11_step_34 rfl (lv_at hl 2 rfl) ?_
    have hPc := hP.sub (ws' := [(h0, .inr (11, [.ref st, .int (nI N), .int (nI B), .ref rp, .int vrs, .int vrb, .int vhs, .int vca, .int vxs, .int vxb, .ref tp, .int (nI T), .int vfa, .int vbr, .int vba, .int vsp, .int vhe, .int vtk, .int vva, .ref cu, .ref lt, .ref od, .ref th, .ref be, .ref ln, .int (nI S), .ref ma, .int (nI M), .ref ah, .ref bh, .ref ik, .ref la, .ref lg, .ref ce, .int vto])), (st, .inl (G 0, 196, .inl fst))]) [0, 1] rfl
    have hDc := hD.sub (ws' := [(h0, .inr (11, [.ref st, .int (nI N), .int (nI B), .ref rp, .int vrs, .int vrb, .int vhs, .int vca, .int vxs, .int vxb, .ref tp, .int (nI T), .int vfa, .int vbr, .int vba, .int vsp, .int vhe, .int vtk, .int vva, .ref cu, .ref lt, .ref od, .ref th, .ref be, .ref ln, .int (nI S), .ref ma, .int (nI M), .ref ah, .ref bh, .ref ik, .ref la, .ref lg, .ref ce, .int vto])), (st, .inl (G 0, 196, .inl fst))]) [0, 1] (by decide) rfl
    have hFc := va_free (wc := [(h0, .inr (11, [.ref st, .int (nI N), .int (nI B), .ref rp, .int vrs, .int vrb, .int vhs, .int vca, .int vxs, .int vxb, .ref tp, .int (nI T), .int vfa, .int vbr, .int vba, .int vsp, .int vhe, .int vtk, .int vva, .ref cu, .ref lt, .ref od, .ref th, .ref be, .ref ln, .int (nI S), .ref ma, .int (nI M), .ref ah, .ref bh, .ref ik, .ref la, .ref lg, .ref ce, .int vto])), (st, .inl (G 0, 196, .inl fst))]) hD hS hA [0, 1] rfl
    refine va_calli (va_runV (As := [.int 0, .int ((20 + (3 * i)) + 1), .int v]) (rest := []) ⟨hx, hb, hml, hown, hg⟩ (c_X11_sets0E l dC dI G _ h0 st N B rp tp T cu lt od th be ln S ma M ah bh ik la lg ce ((20 + (3 * i)) + 1) v vrs vrb vhs vca vxs vxb vfa vbr vba vsp vhe vtk vva vto fst hN hB_ hT_ hS0 hM_ hst) (kwV hg mfX11_sets wt_1070 ⟨Nat.le_of_ble_eq_true rfl, Nat.le_of_ble_eq_true rfl⟩) (preVW hK hPc hDc (ci := 11) rfl rfl) rfl rfl hl.1 rfl (lv_room (Nat.le_of_ble_eq_true rfl)) dX11_step_35 ⟨Nat.le_of_ble_eq_true rfl, Nat.le_of_ble_eq_true rfl⟩) hS (fun q _ h => hFc q h) hFc (fun r5 ur5 t H1 locs ht hvm w6 hB hz1 hk1 hS => ?_)
    obtain ⟨u7, rfl⟩ : ∃ z, z = ur5 := ⟨_, rfl⟩
    obtain ⟨hP1, hD1⟩ := hB
    rw [ht] at hP1
    obtain ⟨hP, hD⟩ := va_join (wr := []) (w1 := [(h0, .inr (11, [.ref st, .int (nI N), .int (nI B), .ref rp, .int vrs, .int vrb, .int vhs, .int vca, .int vxs, .int vxb, .ref tp, .int (nI T), .int vfa, .int vbr, .int vba, .int vsp, .int vhe, .int vtk, .int vva, .ref cu, .ref lt, .ref od, .ref th, .ref be, .ref ln, .int (nI S), .ref ma, .int (nI M), .ref ah, .ref bh, .ref ik, .ref la, .ref lg, .ref ce, .int vto])), (st, .inl (G 0, 196, .inl u7))]) hP hD [0, 1] [] rfl rfl (by decide) (by decide) hk1 hFc hP1 hD1
    generalize H1 = H at hP hS ⊢
    have hP : va_P (dC, dI) vwCl [(h0, .inr (11, [.ref st, .int (nI N), .int (nI B), .ref rp, .int vrs, .int vrb, .int vhs, .int vca, .int vxs, .int vxb, .ref tp, .int (nI T), .int vfa, .int vbr, .int vba, .int vsp, .int vhe, .int vtk, .int vva, .ref cu, .ref lt, .ref od, .ref th, .ref be, .ref ln, .int (nI S), .ref ma, .int (nI M), .ref ah, .ref bh, .ref ik, .ref la, .ref lg, .ref ce, .int vto])), (st, .inl (G 0, 196, .inl u7))] H := hP
    have hD : va_D A [(h0, .inr (11, [.ref st, .int (nI N), .int (nI B), .ref rp, .int vrs, .int vrb, .int vhs, .int vca, .int vxs, .int vxb, .ref tp, .int (nI T), .int vfa, .int vbr, .int vba, .int vsp, .int vhe, .int vtk, .int vva, .ref cu, .ref lt, .ref od, .ref th, .ref be, .ref ln, .int (nI S), .ref ma, .int (nI M), .ref ah, .ref bh, .ref ik, .ref la, .ref lg, .ref ce, .int vto])), (st, .inl (G 0, 196, .inl u7))] := hD
    obtain ⟨w6, w6x⟩ := w6
    have hpost : (r5 : Int32) = if ((0 ≤ i.toInt ∧ i.toInt < ((B : Nat) : Int)) ∧ 0 ≤ v.toInt ∧ v.toInt ≤ 9) then fst (20 + 3 * i.toNatClampNeg + 1) else -1 := by
      have t_b4 := b4
      have t_n0 : (nI N).toInt = (N : Int) := tn2911_ ()
      have t_n1 : (nI B).toInt = (B : Int) := tn2912_ ()
      have t_n2 : (nI T).toInt = (T : Int) := tn2913_ ()
      have t_n3 : (nI S).toInt = (S : Int) := tn2914_ ()
      have t_n4 : (nI M).toInt = (M : Int) := tn2915_ ()
      have z0 : (0 : Int32).toInt = 0 := qI_0
      have z1 : (1 : Int32).toInt = 1 := qI_1
      have z2 : (2 : Int32).toInt = 2 := qI_2
      have z3 : (3 : Int32).toInt = 3 := qI_3
      have z5 : (5 : Int32).toInt = 5 := qI_5
      have z9 : (9 : Int32).toInt = 9 := qI_9
      have z20 : (20 : Int32).toInt = 20 := qI_20
      have z4 : (-4 : Int32).toInt = -4 := (by decide)
      have z10 : (10 : Int32).toInt = 10 := qI_10
      rw [if_neg (by omega)]
      exact w6
    have hP9 := hP.sub (ws' := [(h0, .inr (11, [.ref st, .int (nI N), .int (nI B), .ref rp, .int vrs, .int vrb, .int vhs, .int vca, .int vxs, .int vxb, .ref tp, .int (nI T), .int vfa, .int vbr, .int vba, .int vsp, .int vhe, .int vtk, .int vva, .ref cu, .ref lt, .ref od, .ref th, .ref be, .ref ln, .int (nI S), .ref ma, .int (nI M), .ref ah, .ref bh, .ref ik, .ref la, .ref lg, .ref ce, .int vto])), (st, .inl (G 0, 196, .inl u7))]) [0, 1] rfl
    have hD9 := hD.sub (ws' := [(h0, .inr (11, [.ref st, .int (nI N), .int (nI B), .ref rp, .int vrs, .int vrb, .int vhs, .int vca, .int vxs, .int vxb, .ref tp, .int (nI T), .int vfa, .int vbr, .int vba, .int vsp, .int vhe, .int vtk, .int vva, .ref cu, .ref lt, .ref od, .ref th, .ref be, .ref ln, .int (nI S), .ref ma, .int (nI M), .ref ah, .ref bh, .ref ik, .ref la, .ref lg, .ref ce, .int vto])), (st, .inl (G 0, 196, .inl u7))]) [0, 1] (by decide) rfl
    refine W.widen (k := 0) (n := 0) (Nat.le_of_ble_eq_true rfl) (Nat.le_of_ble_eq_true rfl) ?_
    exact W.iret (v := r5) hx hb hr (fun t ht hW => ⟨⟨r5, u7, rfl, ⟨hpost, ⟨w6x.1, (by have t_b4 := b4; have t_n0 : (nI N).toInt = (N : Int) := tn2911_ (); have t_n1 : (nI B).toInt = (B : Int) := tn2912_ (); have t_n2 : (nI T).toInt = (T : Int) := tn2913_ (); have t_n3 : (nI S).toInt = (S : Int) := tn2914_ (); have t_n4 : (nI M).toInt = (M : Int) := tn2915_ (); have z0 : (0 : Int32).toInt = 0 := qI_0; have z1 : (1 : Int32).toInt = 1 := qI_1; have z2 : (2 : Int32).toInt = 2 := qI_2; have z3 : (3 : Int32).toInt = 3 := qI_3; have z5 : (5 : Int32).toInt = 5 := qI_5; have z9 : (9 : Int32).toInt = 9 := qI_9; have z20 : (20 : Int32).toInt = 20 := qI_20; have z4 : (-4 : Int32).toInt = -4 := (by decide); have z10 : (10 : Int32).toInt = 10 := qI_10; rw [if_neg (by omega)]; exact w6x.2)⟩⟩, ⟨by rw [ht]; exact hP9, hD9⟩⟩, hS.F ht⟩) hS.2.2 dX11_step_38
  · skip
    have b8 := if10_p c3
    refine lv_iload_n hx hb dX11_step_9 rfl (lv_at hl 2 rfl) ?_
    refine lv_i2l (v := v.toInt64) hx hb dX11_step_10 rfl ?_
    refine lv_lconst (v := 0) hx hb dX11_step_11 (by decide) ?_
    refine lv_ldc2 (v := 9) hx hb hown (hg _ wt_1069) dX11_step_12 ?_
    have hPc := hP.sub (ws' := []) [] rfl
    refine va_calli (va_runS (As := [.long v.toInt64, .long 0, .long 9]) (rest := [.ref h0]) ⟨hx, hb, hml, hown, hg⟩ (c_X11_in l dC dI G _ v.toInt64 0 9) (kwS hg mfX11_in wt_992 ⟨Nat.le_of_ble_eq_true rfl, Nat.le_of_ble_eq_true rfl⟩) (preSR hK hPc) rfl rfl hl.1 rfl (lv_room (Nat.le_of_ble_eq_true rfl)) dX11_step_15 ⟨Nat.le_of_ble_eq_true rfl, Nat.le_of_ble_eq_true rfl⟩) hS (fun q h1 h2 => absurd h2 (Nat.not_le.mpr h1)) (fun q h => hA q (Nat.le_trans hS.1 h)) (fun r9 ur9 t H1 locs ht hvm w10 hB hz1 hk1 hS => ?_)
    have hP := keepR hP hk1
    obtain ⟨w10, w10x⟩ := w10
    try simp only [l_ii, show (0 : Int64).toInt = 0 from by decide, show (9 : Int64).toInt = 9 from by decide] at w10
    subst w10
    refine lv_if_eq (tgt := 25) hx hb dX11_step_18 (by decide) (fun c11 => ?_) (fun c11 => ?_)
    · skip
      have b12 := if10_n c11
      refine lv_iconst (v := 0) hx hb dX11_step_25 (by decide) ?_
      refine lv_bipush (v := 20) hx hb dX11_step_26 (by decide) ?_
      refine lv_iconst (v := 3) hx hb dX11_step_28 (by decide) ?_
      refine lv_iload_n hx hb dX11_step_29 rfl (lv_at hl 1 rfl) ?_
      refine lv_imul hx hb dX11_step_30 ?_
      refine lv_iadd hx hb dX11_step_31 ?_
      refine lv_iconst (v := 1) hx hb dX11_step_32 (by decide) ?_
      refine lv_iadd hx hb dX11_step_33 ?_
      refine lv_iload_n hx hb dX11_step_34 rfl (lv_at hl 2 rfl) ?_
      have hPc := hP.sub (ws' := [(h0, .inr (11, [.ref st, .int (nI N), .int (nI B), .ref rp, .int vrs, .int vrb, .int vhs, .int vca, .int vxs, .int vxb, .ref tp, .int (nI T), .int vfa, .int vbr, .int vba, .int vsp, .int vhe, .int vtk, .int vva, .ref cu, .ref lt, .ref od, .ref th, .ref be, .ref ln, .int (nI S), .ref ma, .int (nI M), .ref ah, .ref bh, .ref ik, .ref la, .ref lg, .ref ce, .int vto])), (st, .inl (G 0, 196, .inl fst))]) [0, 1] rfl
      have hDc := hD.sub (ws' := [(h0, .inr (11, [.ref st, .int (nI N), .int (nI B), .ref rp, .int vrs, .int vrb, .int vhs, .int vca, .int vxs, .int vxb, .ref tp, .int (nI T), .int vfa, .int vbr, .int vba, .int vsp, .int vhe, .int vtk, .int vva, .ref cu, .ref lt, .ref od, .ref th, .ref be, .ref ln, .int (nI S), .ref ma, .int (nI M), .ref ah, .ref bh, .ref ik, .ref la, .ref lg, .ref ce, .int vto])), (st, .inl (G 0, 196, .inl fst))]) [0, 1] (by decide) rfl
      have hFc := va_free (wc := [(h0, .inr (11, [.ref st, .int (nI N), .int (nI B), .ref rp, .int vrs, .int vrb, .int vhs, .int vca, .int vxs, .int vxb, .ref tp, .int (nI T), .int vfa, .int vbr, .int vba, .int vsp, .int vhe, .int vtk, .int vva, .ref cu, .ref lt, .ref od, .ref th, .ref be, .ref ln, .int (nI S), .ref ma, .int (nI M), .ref ah, .ref bh, .ref ik, .ref la, .ref lg, .ref ce, .int vto])), (st, .inl (G 0, 196, .inl fst))]) hD hS hA [0, 1] rfl
      refine va_calli (va_runV (As := [.int 0, .int ((20 + (3 * i)) + 1), .int v]) (rest := []) ⟨hx, hb, hml, hown, hg⟩ (c_X11_sets0E l dC dI G _ h0 st N B rp tp T cu lt od th be ln S ma M ah bh ik la lg ce ((20 + (3 * i)) + 1) v vrs vrb vhs vca vxs vxb vfa vbr vba vsp vhe vtk vva vto fst hN hB_ hT_ hS0 hM_ hst) (kwV hg mfX11_sets wt_1070 ⟨Nat.le_of_ble_eq_true rfl, Nat.le_of_ble_eq_true rfl⟩) (preVW hK hPc hDc (ci := 11) rfl rfl) rfl rfl hl.1 rfl (lv_room (Nat.le_of_ble_eq_true rfl)) dX11_step_35 ⟨Nat.le_of_ble_eq_true rfl, Nat.le_of_ble_eq_true rfl⟩) hS (fun q _ h => hFc q h) hFc (fun r13 ur13 t H1 locs ht hvm w14 hB hz1 hk1 hS => ?_)
      obtain ⟨u15, rfl⟩ : ∃ z, z = ur13 := ⟨_, rfl⟩
      obtain ⟨hP1, hD1⟩ := hB
      rw [ht] at hP1
      obtain ⟨hP, hD⟩ := va_join (wr := []) (w1 := [(h0, .inr (11, [.ref st, .int (nI N), .int (nI B), .ref rp, .int vrs, .int vrb, .int vhs, .int vca, .int vxs, .int vxb, .ref tp, .int (nI T), .int vfa, .int vbr, .int vba, .int vsp, .int vhe, .int vtk, .int vva, .ref cu, .ref lt, .ref od, .ref th, .ref be, .ref ln, .int (nI S), .ref ma, .int (nI M), .ref ah, .ref bh, .ref ik, .ref la, .ref lg, .ref ce, .int vto])), (st, .inl (G 0, 196, .inl u15))]) hP hD [0, 1] [] rfl rfl (by decide) (by decide) hk1 hFc hP1 hD1
      generalize H1 = H at hP hS ⊢
      have hP : va_P (dC, dI) vwCl [(h0, .inr (11, [.ref st, .int (nI N), .int (nI B), .ref rp, .int vrs, .int vrb, .int vhs, .int vca, .int vxs, .int vxb, .ref tp, .int (nI T), .int vfa, .int vbr, .int vba, .int vsp, .int vhe, .int vtk, .int vva, .ref cu, .ref lt, .ref od, .ref th, .ref be, .ref ln, .int (nI S), .ref ma, .int (nI M), .ref ah, .ref bh, .ref ik, .ref la, .ref lg, .ref ce, .int vto])), (st, .inl (G 0, 196, .inl u15))] H := hP
      have hD : va_D A [(h0, .inr (11, [.ref st, .int (nI N), .int (nI B), .ref rp, .int vrs, .int vrb, .int vhs, .int vca, .int vxs, .int vxb, .ref tp, .int (nI T), .int vfa, .int vbr, .int vba, .int vsp, .int vhe, .int vtk, .int vva, .ref cu, .ref lt, .ref od, .ref th, .ref be, .ref ln, .int (nI S), .ref ma, .int (nI M), .ref ah, .ref bh, .ref ik, .ref la, .ref lg, .ref ce, .int vto])), (st, .inl (G 0, 196, .inl u15))] := hD
      obtain ⟨w14, w14x⟩ := w14
      have hpost : (r13 : Int32) = if ((0 ≤ i.toInt ∧ i.toInt < ((B : Nat) : Int)) ∧ 0 ≤ v.toInt ∧ v.toInt ≤ 9) then fst (20 + 3 * i.toNatClampNeg + 1) else -1 := by
        have t_b8 := b8
        have t_b12 := b12
        have t_n0 : (nI N).toInt = (N : Int) := tn2911_ ()
        have t_n1 : (nI B).toInt = (B : Int) := tn2912_ ()
        have t_n2 : (nI T).toInt = (T : Int) := tn2913_ ()
        have t_n3 : (nI S).toInt = (S : Int) := tn2914_ ()
        have t_n4 : (nI M).toInt = (M : Int) := tn2915_ ()
        have z0 : (0 : Int32).toInt = 0 := qI_0
        have z1 : (1 : Int32).toInt = 1 := qI_1
        have z2 : (2 : Int32).toInt = 2 := qI_2
        have z3 : (3 : Int32).toInt = 3 := qI_3
        have z5 : (5 : Int32).toInt = 5 := qI_5
        have z9 : (9 : Int32).toInt = 9 := qI_9
        have z20 : (20 : Int32).toInt = 20 := qI_20
        have z4 : (-4 : Int32).toInt = -4 := (by decide)
        have z10 : (10 : Int32).toInt = 10 := qI_10
        rw [if_neg (by omega)]
        exact w14
      have hP9 := hP.sub (ws' := [(h0, .inr (11, [.ref st, .int (nI N), .int (nI B), .ref rp, .int vrs, .int vrb, .int vhs, .int vca, .int vxs, .int vxb, .ref tp, .int (nI T), .int vfa, .int vbr, .int vba, .int vsp, .int vhe, .int vtk, .int vva, .ref cu, .ref lt, .ref od, .ref th, .ref be, .ref ln, .int (nI S), .ref ma, .int (nI M), .ref ah, .ref bh, .ref ik, .ref la, .ref lg, .ref ce, .int vto])), (st, .inl (G 0, 196, .inl u15))]) [0, 1] rfl
      have hD9 := hD.sub (ws' := [(h0, .inr (11, [.ref st, .int (nI N), .int (nI B), .ref rp, .int vrs, .int vrb, .int vhs, .int vca, .int vxs, .int vxb, .ref tp, .int (nI T), .int vfa, .int vbr, .int vba, .int vsp, .int vhe, .int vtk, .int vva, .ref cu, .ref lt, .ref od, .ref th, .ref be, .ref ln, .int (nI S), .ref ma, .int (nI M), .ref ah, .ref bh, .ref ik, .ref la, .ref lg, .ref ce, .int vto])), (st, .inl (G 0, 196, .inl u15))]) [0, 1] (by decide) rfl
      refine W.widen (k := 0) (n := 0) (Nat.le_of_ble_eq_true rfl) (Nat.le_of_ble_eq_true rfl) ?_
      exact W.iret (v := r13) hx hb hr (fun t ht hW => ⟨⟨r13, u15, rfl, ⟨hpost, ⟨w14x.1, (by have t_b8 := b8; have t_b12 := b12; have t_n0 : (nI N).toInt = (N : Int) := tn2911_ (); have t_n1 : (nI B).toInt = (B : Int) := tn2912_ (); have t_n2 : (nI T).toInt = (T : Int) := tn2913_ (); have t_n3 : (nI S).toInt = (S : Int) := tn2914_ (); have t_n4 : (nI M).toInt = (M : Int) := tn2915_ (); have z0 : (0 : Int32).toInt = 0 := qI_0; have z1 : (1 : Int32).toInt = 1 := qI_1; have z2 : (2 : Int32).toInt = 2 := qI_2; have z3 : (3 : Int32).toInt = 3 := qI_3; have z5 : (5 : Int32).toInt = 5 := qI_5; have z9 : (9 : Int32).toInt = 9 := qI_9; have z20 : (20 : Int32).toInt = 20 := qI_20; have z4 : (-4 : Int32).toInt = -4 := (by decide); have z10 : (10 : Int32).toInt = 10 := qI_10; rw [if_neg (by omega)]; exact w14x.2)⟩⟩, ⟨by rw [ht]; exact hP9, hD9⟩⟩, hS.F ht⟩) hS.2.2 dX11_step_38
    · skip
      have b16 := if10_p c11
      obtain ⟨ii, hii, rfl⟩ : ∃ j : Nat, j < 6 ∧ i = nI j := by
        have t_b8 := b8
        have t_b16 := b16
        have t_n0 : (nI N).toInt = (N : Int) := tn2911_ ()
        have t_n1 : (nI B).toInt = (B : Int) := tn2912_ ()
        have t_n2 : (nI T).toInt = (T : Int) := tn2913_ ()
        have t_n3 : (nI S).toInt = (S : Int) := tn2914_ ()
        have t_n4 : (nI M).toInt = (M : Int) := tn2915_ ()
        exact i32_nat (by omega) (by omega)
      refine lv_iconst (v := 1) hx hb dX11_step_21 (by decide) ?_
      refine lv_goto (tgt := 26) hx hb dX11_step_22 (by decide) ?_
      refine lv_bipush (v := 20) hx hb dX11_step_26 (by decide) ?_
      refine lv_iconst (v := 3) hx hb dX11_step_28 (by decide) ?_
      refine lv_iload_n hx hb dX11_step_29 rfl (lv_at hl 1 rfl) ?_
      refine lv_imul hx hb dX11_step_30 ?_
      refine lv_cg (y := nI (3 * ii)) (by rw [show (3 : Int32) = nI 3 from rfl]; exact pk_mul _ _) ?_
      refine lv_iadd hx hb dX11_step_31 ?_
      refine lv_cg (y := nI (20 + (3 * ii))) (by rw [show (20 : Int32) = nI 20 from rfl]; exact nI_add _ _) ?_
      refine lv_iconst (v := 1) hx hb dX11_step_32 (by decide) ?_
      refine lv_iadd hx hb dX11_step_33 ?_
      refine lv_cg (y := nI ((20 + (3 * ii)) + 1)) (by rw [show (1 : Int32) = nI 1 from rfl]; exact nI_add _ _) ?_
      refine lv_iload_n hx hb dX11_step_34 rfl (lv_at hl 2 rfl) ?_
      have hPc := hP.sub (ws' := [(h0, .inr (11, [.ref st, .int (nI N), .int (nI B), .ref rp, .int vrs, .int vrb, .int vhs, .int vca, .int vxs, .int vxb, .ref tp, .int (nI T), .int vfa, .int vbr, .int vba, .int vsp, .int vhe, .int vtk, .int vva, .ref cu, .ref lt, .ref od, .ref th, .ref be, .ref ln, .int (nI S), .ref ma, .int (nI M), .ref ah, .ref bh, .ref ik, .ref la, .ref lg, .ref ce, .int vto])), (st, .inl (G 0, 196, .inl fst))]) [0, 1] rfl
      have hDc := hD.sub (ws' := [(h0, .inr (11, [.ref st, .int (nI N), .int (nI B), .ref rp, .int vrs, .int vrb, .int vhs, .int vca, .int vxs, .int vxb, .ref tp, .int (nI T), .int vfa, .int vbr, .int vba, .int vsp, .int vhe, .int vtk, .int vva, .ref cu, .ref lt, .ref od, .ref th, .ref be, .ref ln, .int (nI S), .ref ma, .int (nI M), .ref ah, .ref bh, .ref ik, .ref la, .ref lg, .ref ce, .int vto])), (st, .inl (G 0, 196, .inl fst))]) [0, 1] (by decide) rfl
      have hFc := va_free (wc := [(h0, .inr (11, [.ref st, .int (nI N), .int (nI B), .ref rp, .int vrs, .int vrb, .int vhs, .int vca, .int vxs, .int vxb, .ref tp, .int (nI T), .int vfa, .int vbr, .int vba, .int vsp, .int vhe, .int vtk, .int vva, .ref cu, .ref lt, .ref od, .ref th, .ref be, .ref ln, .int (nI S), .ref ma, .int (nI M), .ref ah, .ref bh, .ref ik, .ref la, .ref lg, .ref ce, .int vto])), (st, .inl (G 0, 196, .inl fst))]) hD hS hA [0, 1] rfl
      have tn2916_ : nIT ii := fun _ => nI_toInt (by first | omega | (have t_b8 := b8; have t_b16 := b16; have t_hii := hii; omega))
      refine va_calli (va_runV (As := [.int 1, .int (nI ((20 + (3 * ii)) + 1)), .int v]) (rest := []) ⟨hx, hb, hml, hown, hg⟩ (c_X11_sets1E l dC dI G _ h0 ((20 + (3 * ii)) + 1) st N B rp tp T cu lt od th be ln S ma M ah bh ik la lg ce v vrs vrb vhs vca vxs vxb vfa vbr vba vsp vhe vtk vva vto fst hN hB_ hT_ hS0 hM_ hst (by first | omega | (have t_b8 := b8; have t_b16 := b16; have t_hii := hii; have t_n0 : (nI N).toInt = (N : Int) := tn2911_ (); have t_n1 : (nI B).toInt = (B : Int) := tn2912_ (); have t_n2 : (nI T).toInt = (T : Int) := tn2913_ (); have t_n3 : (nI S).toInt = (S : Int) := tn2914_ (); have t_n4 : (nI M).toInt = (M : Int) := tn2915_ (); have t_n5 : (nI ii).toInt = (ii : Int) := tn2916_ (); omega)) (okS_lo (by have t_b8 := b8; have t_b16 := b16; have t_hii := hii; have t_n0 : (nI N).toInt = (N : Int) := tn2911_ (); have t_n1 : (nI B).toInt = (B : Int) := tn2912_ (); have t_n2 : (nI T).toInt = (T : Int) := tn2913_ (); have t_n3 : (nI S).toInt = (S : Int) := tn2914_ (); have t_n4 : (nI M).toInt = (M : Int) := tn2915_ (); have t_n5 : (nI ii).toInt = (ii : Int) := tn2916_ (); omega) (by have t_b8 := b8; have t_b16 := b16; have t_hii := hii; have t_n0 : (nI N).toInt = (N : Int) := tn2911_ (); have t_n1 : (nI B).toInt = (B : Int) := tn2912_ (); have t_n2 : (nI T).toInt = (T : Int) := tn2913_ (); have t_n3 : (nI S).toInt = (S : Int) := tn2914_ (); have t_n4 : (nI M).toInt = (M : Int) := tn2915_ (); have t_n5 : (nI ii).toInt = (ii : Int) := tn2916_ (); omega) (by have t_b8 := b8; have t_b16 := b16; have t_hii := hii; have t_n0 : (nI N).toInt = (N : Int) := tn2911_ (); have t_n1 : (nI B).toInt = (B : Int) := tn2912_ (); have t_n2 : (nI T).toInt = (T : Int) := tn2913_ (); have t_n3 : (nI S).toInt = (S : Int) := tn2914_ (); have t_n4 : (nI M).toInt = (M : Int) := tn2915_ (); have t_n5 : (nI ii).toInt = (ii : Int) := tn2916_ (); omega))) (kwV hg mfX11_sets wt_1070 ⟨Nat.le_of_ble_eq_true rfl, Nat.le_of_ble_eq_true rfl⟩) (preVW hK hPc hDc (ci := 11) rfl rfl) rfl rfl hl.1 rfl (lv_room (Nat.le_of_ble_eq_true rfl)) dX11_step_35 ⟨Nat.le_of_ble_eq_true rfl, Nat.le_of_ble_eq_true rfl⟩) hS (fun q _ h => hFc q h) hFc (fun r17 ur17 t H1 locs ht hvm w18 hB hz1 hk1 hS => ?_)
      obtain ⟨u19, rfl⟩ : ∃ z, z = ur17 := ⟨_, rfl⟩
      obtain ⟨hP1, hD1⟩ := hB
      rw [ht] at hP1
      obtain ⟨hP, hD⟩ := va_join (wr := []) (w1 := [(h0, .inr (11, [.ref st, .int (nI N), .int (nI B), .ref rp, .int vrs, .int vrb, .int vhs, .int vca, .int vxs, .int vxb, .ref tp, .int (nI T), .int vfa, .int vbr, .int vba, .int vsp, .int vhe, .int vtk, .int vva, .ref cu, .ref lt, .ref od, .ref th, .ref be, .ref ln, .int (nI S), .ref ma, .int (nI M), .ref ah, .ref bh, .ref ik, .ref la, .ref lg, .ref ce, .int vto])), (st, .inl (G 0, 196, .inl u19))]) hP hD [0, 1] [] rfl rfl (by decide) (by decide) hk1 hFc hP1 hD1
      generalize H1 = H at hP hS ⊢
      have hP : va_P (dC, dI) vwCl [(h0, .inr (11, [.ref st, .int (nI N), .int (nI B), .ref rp, .int vrs, .int vrb, .int vhs, .int vca, .int vxs, .int vxb, .ref tp, .int (nI T), .int vfa, .int vbr, .int vba, .int vsp, .int vhe, .int vtk, .int vva, .ref cu, .ref lt, .ref od, .ref th, .ref be, .ref ln, .int (nI S), .ref ma, .int (nI M), .ref ah, .ref bh, .ref ik, .ref la, .ref lg, .ref ce, .int vto])), (st, .inl (G 0, 196, .inl u19))] H := hP
      have hD : va_D A [(h0, .inr (11, [.ref st, .int (nI N), .int (nI B), .ref rp, .int vrs, .int vrb, .int vhs, .int vca, .int vxs, .int vxb, .ref tp, .int (nI T), .int vfa, .int vbr, .int vba, .int vsp, .int vhe, .int vtk, .int vva, .ref cu, .ref lt, .ref od, .ref th, .ref be, .ref ln, .int (nI S), .ref ma, .int (nI M), .ref ah, .ref bh, .ref ik, .ref la, .ref lg, .ref ce, .int vto])), (st, .inl (G 0, 196, .inl u19))] := hD
      obtain ⟨w18, w18x⟩ := w18
      have hpost : (r17 : Int32) = if ((0 ≤ (nI ii).toInt ∧ (nI ii).toInt < ((B : Nat) : Int)) ∧ 0 ≤ v.toInt ∧ v.toInt ≤ 9) then fst (20 + 3 * (nI ii).toNatClampNeg + 1) else -1 := by
        have t_b8 := b8
        have t_b16 := b16
        have t_hii := hii
        have t_n0 : (nI N).toInt = (N : Int) := tn2911_ ()
        have t_n1 : (nI B).toInt = (B : Int) := tn2912_ ()
        have t_n2 : (nI T).toInt = (T : Int) := tn2913_ ()
        have t_n3 : (nI S).toInt = (S : Int) := tn2914_ ()
        have t_n4 : (nI M).toInt = (M : Int) := tn2915_ ()
        have t_n5 : (nI ii).toInt = (ii : Int) := tn2916_ ()
        have z0 : (0 : Int32).toInt = 0 := qI_0
        have z1 : (1 : Int32).toInt = 1 := qI_1
        have z2 : (2 : Int32).toInt = 2 := qI_2
        have z3 : (3 : Int32).toInt = 3 := qI_3
        have z5 : (5 : Int32).toInt = 5 := qI_5
        have z9 : (9 : Int32).toInt = 9 := qI_9
        have z20 : (20 : Int32).toInt = 20 := qI_20
        have z4 : (-4 : Int32).toInt = -4 := (by decide)
        have z10 : (10 : Int32).toInt = 10 := qI_10
        rw [if_pos (by omega)]
        (try rw [nI_clamp (by omega)])
        exact w18
      have hP9 := hP.sub (ws' := [(h0, .inr (11, [.ref st, .int (nI N), .int (nI B), .ref rp, .int vrs, .int vrb, .int vhs, .int vca, .int vxs, .int vxb, .ref tp, .int (nI T), .int vfa, .int vbr, .int vba, .int vsp, .int vhe, .int vtk, .int vva, .ref cu, .ref lt, .ref od, .ref th, .ref be, .ref ln, .int (nI S), .ref ma, .int (nI M), .ref ah, .ref bh, .ref ik, .ref la, .ref lg, .ref ce, .int vto])), (st, .inl (G 0, 196, .inl u19))]) [0, 1] rfl
      have hD9 := hD.sub (ws' := [(h0, .inr (11, [.ref st, .int (nI N), .int (nI B), .ref rp, .int vrs, .int vrb, .int vhs, .int vca, .int vxs, .int vxb, .ref tp, .int (nI T), .int vfa, .int vbr, .int vba, .int vsp, .int vhe, .int vtk, .int vva, .ref cu, .ref lt, .ref od, .ref th, .ref be, .ref ln, .int (nI S), .ref ma, .int (nI M), .ref ah, .ref bh, .ref ik, .ref la, .ref lg, .ref ce, .int vto])), (st, .inl (G 0, 196, .inl u19))]) [0, 1] (by decide) rfl
      refine W.widen (k := 0) (n := 0) (Nat.le_of_ble_eq_true rfl) (Nat.le_of_ble_eq_true rfl) ?_
      exact W.iret (v := r17) hx hb hr (fun t ht hW => ⟨⟨r17, u19, rfl, ⟨hpost, ⟨w18x.1, (by have t_b8 := b8; have t_b16 := b16; have t_hii := hii; have t_n0 : (nI N).toInt = (N : Int) := tn2911_ (); have t_n1 : (nI B).toInt = (B : Int) := tn2912_ (); have t_n2 : (nI T).toInt = (T : Int) := tn2913_ (); have t_n3 : (nI S).toInt = (S : Int) := tn2914_ (); have t_n4 : (nI M).toInt = (M : Int) := tn2915_ (); have t_n5 : (nI ii).toInt = (ii : Int) := tn2916_ (); have z0 : (0 : Int32).toInt = 0 := qI_0; have z1 : (1 : Int32).toInt = 1 := qI_1; have z2 : (2 : Int32).toInt = 2 := qI_2; have z3 : (3 : Int32).toInt = 3 := qI_3; have z5 : (5 : Int32).toInt = 5 := qI_5; have z9 : (9 : Int32).toInt = 9 := qI_9; have z20 : (20 : Int32).toInt = 20 := qI_20; have z4 : (-4 : Int32).toInt = -4 := (by decide); have z10 : (10 : Int32).toInt = 10 := qI_10; rw [if_pos (by omega)]; (try rw [nI_clamp (by omega)]); exact w18x.2)⟩⟩, ⟨by rw [ht]; exact hP9, hD9⟩⟩, hS.F ht⟩) hS.2.2 dX11_step_38

set_option maxHeartbeats 1000000 in
set_option maxRecDepth 100000 in
theorem c_X11_warmE (l : Launch) (dC : Nat → ClassId) (dI : Nat → Nat → Nat) (G : Nat → ClassId) (sz : Nat) (h0 st N B rp tp T cu lt od th be ln S ma M ah bh ik la lg ce : Nat) (i v vrs vrb vhs vca vxs vxb vfa vbr vba vsp vhe vtk vva vto : Int32) (fst : Nat → Int32) (hN : N ≤ 10) (hB : B ≤ 6) (hT : T ≤ 320) (hS0 : S ≤ 8) (hM : M ≤ 6) (hst : OKS fst) : Met l yX11_warm (Cond.code yX11_warm cX11_warm 3 (some .int) :: GT) ({ frames := 2, cells := 0, slots := 0, locals := 46 } : Room) (PcW [.ref h0, .int i, .int v] dC dI G [(h0, .inr (11, [.ref st, .int (nI N), .int (nI B), .ref rp, .int vrs, .int vrb, .int vhs, .int vca, .int vxs, .int vxb, .ref tp, .int (nI T), .int vfa, .int vbr, .int vba, .int vsp, .int vhe, .int vtk, .int vva, .ref cu, .ref lt, .ref od, .ref th, .ref be, .ref ln, .int (nI S), .ref ma, .int (nI M), .ref ah, .ref bh, .ref ik, .ref la, .ref lg, .ref ce, .int vto])), (st, .inl (G 0, 196, .inl fst))] sz) (va_Qi (fun (r : Int32) (u : (Nat → Int32)) => match u with | ost => (r = if ((0 ≤ i.toInt ∧ i.toInt < ((B : Nat) : Int)) ∧ 0 ≤ v.toInt ∧ v.toInt ≤ 9) then fst (20 + 3 * i.toNatClampNeg + 2) else -1) ∧ OKS ost ∧ ost = (if ((0 ≤ i.toInt ∧ i.toInt < ((B : Nat) : Int)) ∧ 0 ≤ v.toInt ∧ v.toInt ≤ 9) then upd fst (20 + 3 * i.toNatClampNeg + 2) v else fst)) (fun (u : (Nat → Int32)) (t : State) => match u with | ost => va_P (dC, dI) vwCl [(h0, .inr (11, [.ref st, .int (nI N), .int (nI B), .ref rp, .int vrs, .int vrb, .int vhs, .int vca, .int vxs, .int vxb, .ref tp, .int (nI T), .int vfa, .int vbr, .int vba, .int vsp, .int vhe, .int vtk, .int vva, .ref cu, .ref lt, .ref od, .ref th, .ref be, .ref ln, .int (nI S), .ref ma, .int (nI M), .ref ah, .ref bh, .ref ik, .ref la, .ref lg, .ref ce, .int vto])), (st, .inl (G 0, 196, .inl ost))] t.heap ∧ va_D (va_A [(h0, .inr (11, [.ref st, .int (nI N), .int (nI B), .ref rp, .int vrs, .int vrb, .int vhs, .int vca, .int vxs, .int vxb, .ref tp, .int (nI T), .int vfa, .int vbr, .int vba, .int vsp, .int vhe, .int vtk, .int vva, .ref cu, .ref lt, .ref od, .ref th, .ref be, .ref ln, .int (nI S), .ref ma, .int (nI M), .ref ah, .ref bh, .ref ik, .ref la, .ref lg, .ref ce, .int vto])), (st, .inl (G 0, 196, .inl fst))] sz) [(h0, .inr (11, [.ref st, .int (nI N), .int (nI B), .ref rp, .int vrs, .int vrb, .int vhs, .int vca, .int vxs, .int vxb, .ref tp, .int (nI T), .int vfa, .int vbr, .int vba, .int vsp, .int vhe, .int vtk, .int vva, .ref cu, .ref lt, .ref od, .ref th, .ref be, .ref ln, .int (nI S), .ref ma, .int (nI M), .ref ah, .ref bh, .ref ik, .ref la, .ref lg, .ref ce, .int vto])), (st, .inl (G 0, 196, .inl ost))]) (va_A [(h0, .inr (11, [.ref st, .int (nI N), .int (nI B), .ref rp, .int vrs, .int vrb, .int vhs, .int vca, .int vxs, .int vxb, .ref tp, .int (nI T), .int vfa, .int vbr, .int vba, .int vsp, .int vhe, .int vtk, .int vva, .ref cu, .ref lt, .ref od, .ref th, .ref be, .ref ln, .int (nI S), .ref ma, .int (nI M), .ref ah, .ref bh, .ref ik, .ref la, .ref lg, .ref ce, .int vto])), (st, .inl (G 0, 196, .inl fst))] sz)) 0 0 (va_A [(h0, .inr (11, [.ref st, .int (nI N), .int (nI B), .ref rp, .int vrs, .int vrb, .int vhs, .int vca, .int vxs, .int vxb, .ref tp, .int (nI T), .int vfa, .int vbr, .int vba, .int vsp, .int vhe, .int vtk, .int vva, .ref cu, .ref lt, .ref od, .ref th, .ref be, .ref ln, .int (nI S), .ref ma, .int (nI M), .ref ah, .ref bh, .ref ik, .ref la, .ref lg, .ref ce, .int vto])), (st, .inl (G 0, 196, .inl fst))] sz) := by
  have hB_ := hB
  have hM_ := hM
  have hT_ := hT
  refine Met.ofW (cc := cX11_warm) (maxL := 3) (ret := (some .int)) (by decide) rfl ?_
  intro p e s m args below meth c s₁ Bd hml hv
  obtain ⟨rfl, hsz, hP, hK, hD0⟩ := hv
  have hx := Bd.exec
  have hb := Bd.bytes
  have hr := Bd.returns
  have hg : ∀ w ∈ GT, w.before ([.ref h0, .int i, .int v] : List Value).toArray s = true := fun w h => atoms_spec (ws := Cond.code yX11_warm cX11_warm 3 (some .int) :: GT) Bd.pre w (List.mem_cons_of_mem _ h)
  have hown : s.vm.findClass RX11 = some m.cls := findClass_of_methodNamed Bd.named
  have hlocks := Bd.notSynchronized
  subst hsz
  have hD := hD0.self (sz := s.heap.size)
  generalize hAe : va_A [(h0, .inr (11, [.ref st, .int (nI N), .int (nI B), .ref rp, .int vrs, .int vrb, .int vhs, .int vca, .int vxs, .int vxb, .ref tp, .int (nI T), .int vfa, .int vbr, .int vba, .int vsp, .int vhe, .int vtk, .int vva, .ref cu, .ref lt, .ref od, .ref th, .ref be, .ref ln, .int (nI S), .ref ma, .int (nI M), .ref ah, .ref bh, .ref ik, .ref la, .ref lg, .ref ce, .int vto])), (st, .inl (G 0, 196, .inl fst))] s.heap.size = A at hD ⊢
  have hA : ∀ q : Nat, s.heap.size ≤ q → A q := fun q h => by rw [← hAe]; exact Or.inr h
  have hS : va_S A s.heap s.heap [] := va_S.rf
  have hl := lv_entry ([.ref h0, .int i, .int v]) (n := 3) (Nat.le_of_ble_eq_true rfl)
  rw [lg_entry_eq]
  generalize (lg_sl ([.ref h0, .int i, .int v]) ++ List.replicate (3 - (lg_sl ([.ref h0, .int i, .int v])).length) Slot.unset).toArray = ls at hl ⊢
  have hl : lv_has ls 3 [(0, .ref h0), (1, .int i), (2, .int v)] := hl
  refine lv_aload_n hx hb dX11_warm_0 rfl (lv_at hl 0 rfl) ?_
  refine lv_aload_n hx hb dX11_warm_1 rfl (lv_at hl 0 rfl) ?_
  refine lv_iload_n hx hb dX11_warm_2 rfl (lv_at hl 1 rfl) ?_
  have hPc := hP.sub (ws' := [(h0, .inr (11, [.ref st, .int (nI N), .int (nI B), .ref rp, .int vrs, .int vrb, .int vhs, .int vca, .int vxs, .int vxb, .ref tp, .int (nI T), .int vfa, .int vbr, .int vba, .int vsp, .int vhe, .int vtk, .int vva, .ref cu, .ref lt, .ref od, .ref th, .ref be, .ref ln, .int (nI S), .ref ma, .int (nI M), .ref ah, .ref bh, .ref ik, .ref la, .ref lg, .ref ce, .int vto]))]) [0] rfl
  have tn2917_ : nIT N := fun _ => nI_toInt (by omega)
  have tn2918_ : nIT B := fun _ => nI_toInt (by omega)
  have tn2919_ : nIT T := fun _ => nI_toInt (by omega)
  have tn2920_ : nIT S := fun _ => nI_toInt (by omega)
  have tn2921_ : nIT M := fun _ => nI_toInt (by omega)
  refine va_calli (va_runV (As := [.int i]) (rest := [.ref h0]) ⟨hx, hb, hml, hown, hg⟩ (c_X11_isBearer l dC dI G _ h0 st N B rp tp T cu lt od th be ln S ma M ah bh ik la lg ce i vrs vrb vhs vca vxs vxb vfa vbr vba vsp vhe vtk vva vto hN hB_ hT_ hS0 hM_) (kwV hg mfX11_isBearer wt_1061 ⟨Nat.le_of_ble_eq_true rfl, Nat.le_of_ble_eq_true rfl⟩) (preVR hK hPc (ci := 11) rfl rfl) rfl rfl hl.1 rfl (lv_room (Nat.le_of_ble_eq_true rfl)) dX11_warm_3 ⟨Nat.le_of_ble_eq_true rfl, Nat.le_of_ble_eq_true rfl⟩) hS (fun q h1 h2 => absurd h2 (Nat.not_le.mpr h1)) (fun q h => hA q (Nat.le_trans hS.1 h)) (fun r1 ur1 t H1 locs ht hvm w2 hB hz1 hk1 hS => ?_)
  have hP := keepR hP hk1
  obtain ⟨w2, w2x⟩ := w2
  try simp only [l_ii, show (0 : Int32).toInt = 0 from by decide] at w2
  try rw [show (nI (B)).toInt = ((B : Nat) : Int) from tn2918_ ()] at w2
  subst w2
  refine lv_if_eq (tgt := 25) hx hb dX11_warm_6 (by decide) (fun c3 => ?_) (fun c3 => ?_)
  · skip
    have b4 := if10_n c3
    refine lv_iconst (v := 0) hx hb dX11_warm_25 (by decide) ?_
    refine lv_bipush (v := 20) hx hb dX11_warm_26 (by decide) ?_
    refine lv_iconst (v := 3) hx hb dX11_warm_28 (by decide) ?_
    refine lv_iload_n hx hb dX11_warm_29 rfl (lv_at hl 1 rfl) ?_
    refine lv_imul hx hb dX11_warm_30 ?_
    refine lv_iadd hx hb dX11_warm_31 ?_
    refine lv_iconst (v := 2) hx hb dX11_warm_32 (by decide) ?_
    refine lv_iadd hx hb dX11_warm_33 ?_
    refine lv_iload_n hx hb dX11_warm_34 rfl (lv_at hl 2 rfl) ?_
    have hPc := hP.sub (ws' := [(h0, .inr (11, [.ref st, .int (nI N), .int (nI B), .ref rp, .int vrs, .int vrb, .int vhs, .int vca, .int vxs, .int vxb, .ref tp, .int (nI T), .int vfa, .int vbr, .int vba, .int vsp, .int vhe, .int vtk, .int vva, .ref cu, .ref lt, .ref od, .ref th, .ref be, .ref ln, .int (nI S), .ref ma, .int (nI M), .ref ah, .ref bh, .ref ik, .ref la, .ref lg, .ref ce, .int vto])), (st, .inl (G 0, 196, .inl fst))]) [0, 1] rfl
    have hDc := hD.sub (ws' := [(h0, .inr (11, [.ref st, .int (nI N), .int (nI B), .ref rp, .int vrs, .int vrb, .int vhs, .int vca, .int vxs, .int vxb, .ref tp, .int (nI T), .int vfa, .int vbr, .int vba, .int vsp, .int vhe, .int vtk, .int vva, .ref cu, .ref lt, .ref od, .ref th, .ref be, .ref ln, .int (nI S), .ref ma, .int (nI M), .ref ah, .ref bh, .ref ik, .ref la, .ref lg, .ref ce, .int vto])), (st, .inl (G 0, 196, .inl fst))]) [0, 1] (by decide) rfl
    have hFc := va_free (wc := [(h0, .inr (11, [.ref st, .int (nI N), .int (nI B), .ref rp, .int vrs, .int vrb, .int vhs, .int vca, .int vxs, .int vxb, .ref tp, .int (nI T), .int vfa, .int vbr, .int vba, .int vsp, .int vhe, .int vtk, .int vva, .ref cu, .ref lt, .ref od, .ref th, .ref be, .ref ln, .int (nI S), .ref ma, .int (nI M), .ref ah, .ref bh, .ref ik, .ref la, .ref lg, .ref ce, .int vto])), (st, .inl (G 0, 196, .inl fst))]) hD hS hA [0, 1] rfl
    refine va_calli (va_runV (As := [.int 0, .int ((20 + (3 * i)) + 2), .int v]) (rest := []) ⟨hx, hb, hml, hown, hg⟩ (c_X11_sets0E l dC dI G _ h0 st N B rp tp T cu lt od th be ln S ma M ah bh ik la lg ce ((20 + (3 * i)) + 2) v vrs vrb vhs vca vxs vxb vfa vbr vba vsp vhe vtk vva vto fst hN hB_ hT_ hS0 hM_ hst) (kwV hg mfX11_sets wt_1070 ⟨Nat.le_of_ble_eq_true rfl, Nat.le_of_ble_eq_true rfl⟩) (preVW hK hPc hDc (ci := 11) rfl rfl) rfl rfl hl.1 rfl (lv_room (Nat.le_of_ble_eq_true rfl)) dX11_warm_35 ⟨Nat.le_of_ble_eq_true rfl, Nat.le_of_ble_eq_true rfl⟩) hS (fun q _ h => hFc q h) hFc (fun r5 ur5 t H1 locs ht hvm w6 hB hz1 hk1 hS => ?_)
    obtain ⟨u7, rfl⟩ : ∃ z, z = ur5 := ⟨_, rfl⟩
    obtain ⟨hP1, hD1⟩ := hB
    rw [ht] at hP1
    obtain ⟨hP, hD⟩ := va_join (wr := []) (w1 := [(h0, .inr (11, [.ref st, .int (nI N), .int (nI B), .ref rp, .int vrs, .int vrb, .int vhs, .int vca, .int vxs, .int vxb, .ref tp, .int (nI T), .int vfa, .int vbr, .int vba, .int vsp, .int vhe, .int vtk, .int vva, .ref cu, .ref lt, .ref od, .ref th, .ref be, .ref ln, .int (nI S), .ref ma, .int (nI M), .ref ah, .ref bh, .ref ik, .ref la, .ref lg, .ref ce, .int vto])), (st, .inl (G 0, 196, .inl u7))]) hP hD [0, 1] [] rfl rfl (by decide) (by decide) hk1 hFc hP1 hD1
    generalize H1 = H at hP hS ⊢
    have hP : va_P (dC, dI) vwCl [(h0, .inr (11, [.ref st, .int (nI N), .int (nI B), .ref rp, .int vrs, .int vrb, .int vhs, .int vca, .int vxs, .int vxb, .ref tp, .int (nI T), .int vfa, .int vbr, .int vba, .int vsp, .int vhe, .int vtk, .int vva, .ref cu, .ref lt, .ref od, .ref th, .ref be, .ref ln, .int (nI S), .ref ma, .int (nI M), .ref ah, .ref bh, .ref ik, .ref la, .ref lg, .ref ce, .int vto])), (st, .inl (G 0, 196, .inl u7))] H := hP
    have hD : va_D A [(h0, .inr (11, [.ref st, .int (nI N), .int (nI B), .ref rp, .int vrs, .int vrb, .int vhs, .int vca, .int vxs, .int vxb, .ref tp, .int (nI T), .int vfa, .int vbr, .int vba, .int vsp, .int vhe, .int vtk, .int vva, .ref cu, .ref lt, .ref od, .ref th, .ref be, .ref ln, .int (nI S), .ref ma, .int (nI M), .ref ah, .ref bh, .ref ik, .ref la, .ref lg, .ref ce, .int vto])), (st, .inl (G 0, 196, .inl u7))] := hD
    obtain ⟨w6, w6x⟩ := w6
    have hpost : (r5 : Int32) = if ((0 ≤ i.toInt ∧ i.toInt < ((B : Nat) : Int)) ∧ 0 ≤ v.toInt ∧ v.toInt ≤ 9) then fst (20 + 3 * i.toNatClampNeg + 2) else -1 := by
      have t_b4 := b4
      have t_n0 : (nI N).toInt = (N : Int) := tn2917_ ()
      have t_n1 : (nI B).toInt = (B : Int) := tn2918_ ()
      have t_n2 : (nI T).toInt = (T : Int) := tn2919_ ()
      have t_n3 : (nI S).toInt = (S : Int) := tn2920_ ()
      have t_n4 : (nI M).toInt = (M : Int) := tn2921_ ()
      have z0 : (0 : Int32).toInt = 0 := qI_0
      have z1 : (1 : Int32).toInt = 1 := qI_1
      have z2 : (2 : Int32).toInt = 2 := qI_2
      have z3 : (3 : Int32).toInt = 3 := qI_3
      have z5 : (5 : Int32).toInt = 5 := qI_5
      have z9 : (9 : Int32).toInt = 9 := qI_9
      have z20 : (20 : Int32).toInt = 20 := qI_20
      have z4 : (-4 : Int32).toInt = -4 := (by decide)
      have z10 : (10 : Int32).toInt = 10 := qI_10
      rw [if_neg (by omega)]
      exact w6
    have hP9 := hP.sub (ws' := [(h0, .inr (11, [.ref st, .int (nI N), .int (nI B), .ref rp, .int vrs, .int vrb, .int vhs, .int vca, .int vxs, .int vxb, .ref tp, .int (nI T), .int vfa, .int vbr, .int vba, .int vsp, .int vhe, .int vtk, .int vva, .ref cu, .ref lt, .ref od, .ref th, .ref be, .ref ln, .int (nI S), .ref ma, .int (nI M), .ref ah, .ref bh, .ref ik, .ref la, .ref lg, .ref ce, .int vto])), (st, .inl (G 0, 196, .inl u7))]) [0, 1] rfl
    have hD9 := hD.sub (ws' := [(h0, .inr (11, [.ref st, .int (nI N), .int (nI B), .ref rp, .int vrs, .int vrb, .int vhs, .int vca, .int vxs, .int vxb, .ref tp, .int (nI T), .int vfa, .int vbr, .int vba, .int vsp, .int vhe, .int vtk, .int vva, .ref cu, .ref lt, .ref od, .ref th, .ref be, .ref ln, .int (nI S), .ref ma, .int (nI M), .ref ah, .ref bh, .ref ik, .ref la, .ref lg, .ref ce, .int vto])), (st, .inl (G 0, 196, .inl u7))]) [0, 1] (by decide) rfl
    refine W.widen (k := 0) (n := 0) (Nat.le_of_ble_eq_true rfl) (Nat.le_of_ble_eq_true rfl) ?_
    exact W.iret (v := r5) hx hb hr (fun t ht hW => ⟨⟨r5, u7, rfl, ⟨hpost, ⟨w6x.1, (by have t_b4 := b4; have t_n0 : (nI N).toInt = (N : Int) := tn2917_ (); have t_n1 : (nI B).toInt = (B : Int) := tn2918_ (); have t_n2 : (nI T).toInt = (T : Int) := tn2919_ (); have t_n3 : (nI S).toInt = (S : Int) := tn2920_ (); have t_n4 : (nI M).toInt = (M : Int) := tn2921_ (); have z0 : (0 : Int32).toInt = 0 := qI_0; have z1 : (1 : Int32).toInt = 1 := qI_1; have z2 : (2 : Int32).toInt = 2 := qI_2; have z3 : (3 : Int32).toInt = 3 := qI_3; have z5 : (5 : Int32).toInt = 5 := qI_5; have z9 : (9 : Int32).toInt = 9 := qI_9; have z20 : (20 : Int32).toInt = 20 := qI_20; have z4 : (-4 : Int32).toInt = -4 := (by decide); have z10 : (10 : Int32).toInt = 10 := qI_10; rw [if_neg (by omega)]; exact w6x.2)⟩⟩, ⟨by rw [ht]; exact hP9, hD9⟩⟩, hS.F ht⟩) hS.2.2 dX11_warm_38
  · skip
    have b8 := if10_p c3
    refine lv_iload_n hx hb dX11_warm_9 rfl (lv_at hl 2 rfl) ?_
    refine lv_i2l (v := v.toInt64) hx hb dX11_warm_10 rfl ?_
    refine lv_lconst (v := 0) hx hb dX11_warm_11 (by decide) ?_
    refine lv_ldc2 (v := 9) hx hb hown (hg _ wt_1069) dX11_warm_12 ?_
    have hPc := hP.sub (ws' := []) [] rfl
    refine va_calli (va_runS (As := [.long v.toInt64, .long 0, .long 9]) (rest := [.ref h0]) ⟨hx, hb, hml, hown, hg⟩ (c_X11_in l dC dI G _ v.toInt64 0 9) (kwS hg mfX11_in wt_992 ⟨Nat.le_of_ble_eq_true rfl, Nat.le_of_ble_eq_true rfl⟩) (preSR hK hPc) rfl rfl hl.1 rfl (lv_room (Nat.le_of_ble_eq_true rfl)) dX11_warm_15 ⟨Nat.le_of_ble_eq_true rfl, Nat.le_of_ble_eq_true rfl⟩) hS (fun q h1 h2 => absurd h2 (Nat.not_le.mpr h1)) (fun q h => hA q (Nat.le_trans hS.1 h)) (fun r9 ur9 t H1 locs ht hvm w10 hB hz1 hk1 hS => ?_)
    have hP := keepR hP hk1
    obtain ⟨w10, w10x⟩ := w10
    try simp only [l_ii, show (0 : Int64).toInt = 0 from by decide, show (9 : Int64).toInt = 9 from by decide] at w10
    subst w10
    refine lv_if_eq (tgt := 25) hx hb dX11_warm_18 (by decide) (fun c11 => ?_) (fun c11 => ?_)
    · skip
      have b12 := if10_n c11
      refine lv_iconst (v := 0) hx hb dX11_warm_25 (by decide) ?_
      refine lv_bipush (v := 20) hx hb dX11_warm_26 (by decide) ?_
      refine lv_iconst (v := 3) hx hb dX11_warm_28 (by decide) ?_
      refine lv_iload_n hx hb dX11_warm_29 rfl (lv_at hl 1 rfl) ?_
      refine lv_imul hx hb dX11_warm_30 ?_
      refine lv_iadd hx hb dX11_warm_31 ?_
      refine lv_iconst (v := 2) hx hb dX11_warm_32 (by decide) ?_
      refine lv_iadd hx hb dX11_warm_33 ?_
      refine lv_iload_n hx hb dX11_warm_34 rfl (lv_at hl 2 rfl) ?_
      have hPc := hP.sub (ws' := [(h0, .inr (11, [.ref st, .int (nI N), .int (nI B), .ref rp, .int vrs, .int vrb, .int vhs, .int vca, .int vxs, .int vxb, .ref tp, .int (nI T), .int vfa, .int vbr, .int vba, .int vsp, .int vhe, .int vtk, .int vva, .ref cu, .ref lt, .ref od, .ref th, .ref be, .ref ln, .int (nI S), .ref ma, .int (nI M), .ref ah, .ref bh, .ref ik, .ref la, .ref lg, .ref ce, .int vto])), (st, .inl (G 0, 196, .inl fst))]) [0, 1] rfl
      have hDc := hD.sub (ws' := [(h0, .inr (11, [.ref st, .int (nI N), .int (nI B), .ref rp, .int vrs, .int vrb, .int vhs, .int vca, .int vxs, .int vxb, .ref tp, .int (nI T), .int vfa, .int vbr, .int vba, .int vsp, .int vhe, .int vtk, .int vva, .ref cu, .ref lt, .ref od, .ref th, .ref be, .ref ln, .int (nI S), .ref ma, .int (nI M), .ref ah, .ref bh, .ref ik, .ref la, .ref lg, .ref ce, .int vto])), (st, .inl (G 0, 196, .inl fst))]) [0, 1] (by decide) rfl
      have hFc := va_free (wc := [(h0, .inr (11, [.ref st, .int (nI N), .int (nI B), .ref rp, .int vrs, .int vrb, .int vhs, .int vca, .int vxs, .int vxb, .ref tp, .int (nI T), .int vfa, .int vbr, .int vba, .int vsp, .int vhe, .int vtk, .int vva, .ref cu, .ref lt, .ref od, .ref th, .ref be, .ref ln, .int (nI S), .ref ma, .int (nI M), .ref ah, .ref bh, .ref ik, .ref la, .ref lg, .ref ce, .int vto])), (st, .inl (G 0, 196, .inl fst))]) hD hS hA [0, 1] rfl
      refine va_calli (va_runV (As := [.int 0, .int ((20 + (3 * i)) + 2), .int v]) (rest := []) ⟨hx, hb, hml, hown, hg⟩ (c_X11_sets0E l dC dI G _ h0 st N B rp tp T cu lt od th be ln S ma M ah bh ik la lg ce ((20 + (3 * i)) + 2) v vrs vrb vhs vca vxs vxb vfa vbr vba vsp vhe vtk vva vto fst hN hB_ hT_ hS0 hM_ hst) (kwV hg mfX11_sets wt_1070 ⟨Nat.le_of_ble_eq_true rfl, Nat.le_of_ble_eq_true rfl⟩) (preVW hK hPc hDc (ci := 11) rfl rfl) rfl rfl hl.1 rfl (lv_room (Nat.le_of_ble_eq_true rfl)) dX11_warm_35 ⟨Nat.le_of_ble_eq_true rfl, Nat.le_of_ble_eq_true rfl⟩) hS (fun q _ h => hFc q h) hFc (fun r13 ur13 t H1 locs ht hvm w14 hB hz1 hk1 hS => ?_)
      obtain ⟨u15, rfl⟩ : ∃ z, z = ur13 := ⟨_, rfl⟩
      obtain ⟨hP1, hD1⟩ := hB
      rw [ht] at hP1
      obtain ⟨hP, hD⟩ := va_join (wr := []) (w1 := [(h0, .inr (11, [.ref st, .int (nI N), .int (nI B), .ref rp, .int vrs, .int vrb, .int vhs, .int vca, .int vxs, .int vxb, .ref tp, .int (nI T), .int vfa, .int vbr, .int vba, .int vsp, .int vhe, .int vtk, .int vva, .ref cu, .ref lt, .ref od, .ref th, .ref be, .ref ln, .int (nI S), .ref ma, .int (nI M), .ref ah, .ref bh, .ref ik, .ref la, .ref lg, .ref ce, .int vto])), (st, .inl (G 0, 196, .inl u15))]) hP hD [0, 1] [] rfl rfl (by decide) (by decide) hk1 hFc hP1 hD1
      generalize H1 = H at hP hS ⊢
      have hP : va_P (dC, dI) vwCl [(h0, .inr (11, [.ref st, .int (nI N), .int (nI B), .ref rp, .int vrs, .int vrb, .int vhs, .int vca, .int vxs, .int vxb, .ref tp, .int (nI T), .int vfa, .int vbr, .int vba, .int vsp, .int vhe, .int vtk, .int vva, .ref cu, .ref lt, .ref od, .ref th, .ref be, .ref ln, .int (nI S), .ref ma, .int (nI M), .ref ah, .ref bh, .ref ik, .ref la, .ref lg, .ref ce, .int vto])), (st, .inl (G 0, 196, .inl u15))] H := hP
      have hD : va_D A [(h0, .inr (11, [.ref st, .int (nI N), .int (nI B), .ref rp, .int vrs, .int vrb, .int vhs, .int vca, .int vxs, .int vxb, .ref tp, .int (nI T), .int vfa, .int vbr, .int vba, .int vsp, .int vhe, .int vtk, .int vva, .ref cu, .ref lt, .ref od, .ref th, .ref be, .ref ln, .int (nI S), .ref ma, .int (nI M), .ref ah, .ref bh, .ref ik, .ref la, .ref lg, .ref ce, .int vto])), (st, .inl (G 0, 196, .inl u15))] := hD
      obtain ⟨w14, w14x⟩ := w14
      have hpost : (r13 : Int32) = if ((0 ≤ i.toInt ∧ i.toInt < ((B : Nat) : Int)) ∧ 0 ≤ v.toInt ∧ v.toInt ≤ 9) then fst (20 + 3 * i.toNatClampNeg + 2) else -1 := by
        have t_b8 := b8
        have t_b12 := b12
        have t_n0 : (nI N).toInt = (N : Int) := tn2917_ ()
        have t_n1 : (nI B).toInt = (B : Int) := tn2918_ ()
        have t_n2 : (nI T).toInt = (T : Int) := tn2919_ ()
        have t_n3 : (nI S).toInt = (S : Int) := tn2920_ ()
        have t_n4 : (nI M).toInt = (M : Int) := tn2921_ ()
        have z0 : (0 : Int32).toInt = 0 := qI_0
        have z1 : (1 : Int32).toInt = 1 := qI_1
        have z2 : (2 : Int32).toInt = 2 := qI_2
        have z3 : (3 : Int32).toInt = 3 := qI_3
        have z5 : (5 : Int32).toInt = 5 := qI_5
        have z9 : (9 : Int32).toInt = 9 := qI_9
        have z20 : (20 : Int32).toInt = 20 := qI_20
        have z4 : (-4 : Int32).toInt = -4 := (by decide)
        have z10 : (10 : Int32).toInt = 10 := qI_10
        rw [if_neg (by omega)]
        exact w14
      have hP9 := hP.sub (ws' := [(h0, .inr (11, [.ref st, .int (nI N), .int (nI B), .ref rp, .int vrs, .int vrb, .int vhs, .int vca, .int vxs, .int vxb, .ref tp, .int (nI T), .int vfa, .int vbr, .int vba, .int vsp, .int vhe, .int vtk, .int vva, .ref cu, .ref lt, .ref od, .ref th, .ref be, .ref ln, .int (nI S), .ref ma, .int (nI M), .ref ah, .ref bh, .ref ik, .ref la, .ref lg, .ref ce, .int vto])), (st, .inl (G 0, 196, .inl u15))]) [0, 1] rfl
      have hD9 := hD.sub (ws' := [(h0, .inr (11, [.ref st, .int (nI N), .int (nI B), .ref rp, .int vrs, .int vrb, .int vhs, .int vca, .int vxs, .int vxb, .ref tp, .int (nI T), .int vfa, .int vbr, .int vba, .int vsp, .int vhe, .int vtk, .int vva, .ref cu, .ref lt, .ref od, .ref th, .ref be, .ref ln, .int (nI S), .ref ma, .int (nI M), .ref ah, .ref bh, .ref ik, .ref la, .ref lg, .ref ce, .int vto])), (st, .inl (G 0, 196, .inl u15))]) [0, 1] (by decide) rfl
      refine W.widen (k := 0) (n := 0) (Nat.le_of_ble_eq_true rfl) (Nat.le_of_ble_eq_true rfl) ?_
      exact W.iret (v := r13) hx hb hr (fun t ht hW => ⟨⟨r13, u15, rfl, ⟨hpost, ⟨w14x.1, (by have t_b8 := b8; have t_b12 := b12; have t_n0 : (nI N).toInt = (N : Int) := tn2917_ (); have t_n1 : (nI B).toInt = (B : Int) := tn2918_ (); have t_n2 : (nI T).toInt = (T : Int) := tn2919_ (); have t_n3 : (nI S).toInt = (S : Int) := tn2920_ (); have t_n4 : (nI M).toInt = (M : Int) := tn2921_ (); have z0 : (0 : Int32).toInt = 0 := qI_0; have z1 : (1 : Int32).toInt = 1 := qI_1; have z2 : (2 : Int32).toInt = 2 := qI_2; have z3 : (3 : Int32).toInt = 3 := qI_3; have z5 : (5 : Int32).toInt = 5 := qI_5; have z9 : (9 : Int32).toInt = 9 := qI_9; have z20 : (20 : Int32).toInt = 20 := qI_20; have z4 : (-4 : Int32).toInt = -4 := (by decide); have z10 : (10 : Int32).toInt = 10 := qI_10; rw [if_neg (by omega)]; exact w14x.2)⟩⟩, ⟨by rw [ht]; exact hP9, hD9⟩⟩, hS.F ht⟩) hS.2.2 dX11_warm_38
    · skip
      have b16 := if10_p c11
      obtain ⟨ii, hii, rfl⟩ : ∃ j : Nat, j < 6 ∧ i = nI j := by
        have t_b8 := b8
        have t_b16 := b16
        have t_n0 : (nI N).toInt = (N : Int) := tn2917_ ()
        have t_n1 : (nI B).toInt = (B : Int) := tn2918_ ()
        have t_n2 : (nI T).toInt = (T : Int) := tn2919_ ()
        have t_n3 : (nI S).toInt = (S : Int) := tn2920_ ()
        have t_n4 : (nI M).toInt = (M : Int) := tn2921_ ()
        exact i32_nat (by omega) (by omega)
      refine lv_iconst (v := 1) hx hb dX11_warm_21 (by decide) ?_
      refine lv_goto (tgt := 26) hx hb dX11_warm_22 (by decide) ?_
      refine lv_bipush (v := 20) hx hb dX11_warm_26 (by decide) ?_
      refine lv_iconst (v := 3) hx hb dX11_warm_28 (by decide) ?_
      refine lv_iload_n hx hb dX11_warm_29 rfl (lv_at hl 1 rfl) ?_
      refine lv_imul hx hb dX11_warm_30 ?_
      refine lv_cg (y := nI (3 * ii)) (by rw [show (3 : Int32) = nI 3 from rfl]; exact pk_mul _ _) ?_
      refine lv_iadd hx hb dX11_warm_31 ?_
      refine lv_cg (y := nI (20 + (3 * ii))) (by rw [show (20 : Int32) = nI 20 from rfl]; exact nI_add _ _) ?_
      refine lv_iconst (v := 2) hx hb dX11_warm_32 (by decide) ?_
      refine lv_iadd hx hb dX11_warm_33 ?_
      refine lv_cg (y := nI ((20 + (3 * ii)) + 2)) (by rw [show (2 : Int32) = nI 2 from rfl]; exact nI_add _ _) ?_
      refine lv_iload_n hx hb dX11_warm_34 rfl (lv_at hl 2 rfl) ?_
      have hPc := hP.sub (ws' := [(h0, .inr (11, [.ref st, .int (nI N), .int (nI B), .ref rp, .int vrs, .int vrb, .int vhs, .int vca, .int vxs, .int vxb, .ref tp, .int (nI T), .int vfa, .int vbr, .int vba, .int vsp, .int vhe, .int vtk, .int vva, .ref cu, .ref lt, .ref od, .ref th, .ref be, .ref ln, .int (nI S), .ref ma, .int (nI M), .ref ah, .ref bh, .ref ik, .ref la, .ref lg, .ref ce, .int vto])), (st, .inl (G 0, 196, .inl fst))]) [0, 1] rfl
      have hDc := hD.sub (ws' := [(h0, .inr (11, [.ref st, .int (nI N), .int (nI B), .ref rp, .int vrs, .int vrb, .int vhs, .int vca, .int vxs, .int vxb, .ref tp, .int (nI T), .int vfa, .int vbr, .int vba, .int vsp, .int vhe, .int vtk, .int vva, .ref cu, .ref lt, .ref od, .ref th, .ref be, .ref ln, .int (nI S), .ref ma, .int (nI M), .ref ah, .ref bh, .ref ik, .ref la, .ref lg, .ref ce, .int vto])), (st, .inl (G 0, 196, .inl fst))]) [0, 1] (by decide) rfl
      have hFc := va_free (wc := [(h0, .inr (11, [.ref st, .int (nI N), .int (nI B), .ref rp, .int vrs, .int vrb, .int vhs, .int vca, .int vxs, .int vxb, .ref tp, .int (nI T), .int vfa, .int vbr, .int vba, .int vsp, .int vhe, .int vtk, .int vva, .ref cu, .ref lt, .ref od, .ref th, .ref be, .ref ln, .int (nI S), .ref ma, .int (nI M), .ref ah, .ref bh, .ref ik, .ref la, .ref lg, .ref ce, .int vto])), (st, .inl (G 0, 196, .inl fst))]) hD hS hA [0, 1] rfl
      have tn2922_ : nIT ii := fun _ => nI_toInt (by first | omega | (have t_b8 := b8; have t_b16 := b16; have t_hii := hii; omega))
      refine va_calli (va_runV (As := [.int 1, .int (nI ((20 + (3 * ii)) + 2)), .int v]) (rest := []) ⟨hx, hb, hml, hown, hg⟩ (c_X11_sets1E l dC dI G _ h0 ((20 + (3 * ii)) + 2) st N B rp tp T cu lt od th be ln S ma M ah bh ik la lg ce v vrs vrb vhs vca vxs vxb vfa vbr vba vsp vhe vtk vva vto fst hN hB_ hT_ hS0 hM_ hst (by first | omega | (have t_b8 := b8; have t_b16 := b16; have t_hii := hii; have t_n0 : (nI N).toInt = (N : Int) := tn2917_ (); have t_n1 : (nI B).toInt = (B : Int) := tn2918_ (); have t_n2 : (nI T).toInt = (T : Int) := tn2919_ (); have t_n3 : (nI S).toInt = (S : Int) := tn2920_ (); have t_n4 : (nI M).toInt = (M : Int) := tn2921_ (); have t_n5 : (nI ii).toInt = (ii : Int) := tn2922_ (); omega)) (okS_lo (by have t_b8 := b8; have t_b16 := b16; have t_hii := hii; have t_n0 : (nI N).toInt = (N : Int) := tn2917_ (); have t_n1 : (nI B).toInt = (B : Int) := tn2918_ (); have t_n2 : (nI T).toInt = (T : Int) := tn2919_ (); have t_n3 : (nI S).toInt = (S : Int) := tn2920_ (); have t_n4 : (nI M).toInt = (M : Int) := tn2921_ (); have t_n5 : (nI ii).toInt = (ii : Int) := tn2922_ (); omega) (by have t_b8 := b8; have t_b16 := b16; have t_hii := hii; have t_n0 : (nI N).toInt = (N : Int) := tn2917_ (); have t_n1 : (nI B).toInt = (B : Int) := tn2918_ (); have t_n2 : (nI T).toInt = (T : Int) := tn2919_ (); have t_n3 : (nI S).toInt = (S : Int) := tn2920_ (); have t_n4 : (nI M).toInt = (M : Int) := tn2921_ (); have t_n5 : (nI ii).toInt = (ii : Int) := tn2922_ (); omega) (by have t_b8 := b8; have t_b16 := b16; have t_hii := hii; have t_n0 : (nI N).toInt = (N : Int) := tn2917_ (); have t_n1 : (nI B).toInt = (B : Int) := tn2918_ (); have t_n2 : (nI T).toInt = (T : Int) := tn2919_ (); have t_n3 : (nI S).toInt = (S : Int) := tn2920_ (); have t_n4 : (nI M).toInt = (M : Int) := tn2921_ (); have t_n5 : (nI ii).toInt = (ii : Int) := tn2922_ (); omega))) (kwV hg mfX11_sets wt_1070 ⟨Nat.le_of_ble_eq_true rfl, Nat.le_of_ble_eq_true rfl⟩) (preVW hK hPc hDc (ci := 11) rfl rfl) rfl rfl hl.1 rfl (lv_room (Nat.le_of_ble_eq_true rfl)) dX11_warm_35 ⟨Nat.le_of_ble_eq_true rfl, Nat.le_of_ble_eq_true rfl⟩) hS (fun q _ h => hFc q h) hFc (fun r17 ur17 t H1 locs ht hvm w18 hB hz1 hk1 hS => ?_)
      obtain ⟨u19, rfl⟩ : ∃ z, z = ur17 := ⟨_, rfl⟩
      obtain ⟨hP1, hD1⟩ := hB
      rw [ht] at hP1
      obtain ⟨hP, hD⟩ := va_join (wr := []) (w1 := [(h0, .inr (11, [.ref st, .int (nI N), .int (nI B), .ref rp, .int vrs, .int vrb, .int vhs, .int vca, .int vxs, .int vxb, .ref tp, .int (nI T), .int vfa, .int vbr, .int vba, .int vsp, .int vhe, .int vtk, .int vva, .ref cu, .ref lt, .ref od, .ref th, .ref be, .ref ln, .int (nI S), .ref ma, .int (nI M), .ref ah, .ref bh, .ref ik, .ref la, .ref lg, .ref ce, .int vto])), (st, .inl (G 0, 196, .inl u19))]) hP hD [0, 1] [] rfl rfl (by decide) (by decide) hk1 hFc hP1 hD1
      generalize H1 = H at hP hS ⊢
      have hP : va_P (dC, dI) vwCl [(h0, .inr (11, [.ref st, .int (nI N), .int (nI B), .ref rp, .int vrs, .int vrb, .int vhs, .int vca, .int vxs, .int vxb, .ref tp, .int (nI T), .int vfa, .int vbr, .int vba, .int vsp, .int vhe, .int vtk, .int vva, .ref cu, .ref lt, .ref od, .ref th, .ref be, .ref ln, .int (nI S), .ref ma, .int (nI M), .ref ah, .ref bh, .ref ik, .ref la, .ref lg, .ref ce, .int vto])), (st, .inl (G 0, 196, .inl u19))] H := hP
      have hD : va_D A [(h0, .inr (11, [.ref st, .int (nI N), .int (nI B), .ref rp, .int vrs, .int vrb, .int vhs, .int vca, .int vxs, .int vxb, .ref tp, .int (nI T), .int vfa, .int vbr, .int vba, .int vsp, .int vhe, .int vtk, .int vva, .ref cu, .ref lt, .ref od, .ref th, .ref be, .ref ln, .int (nI S), .ref ma, .int (nI M), .ref ah, .ref bh, .ref ik, .ref la, .ref lg, .ref ce, .int vto])), (st, .inl (G 0, 196, .inl u19))] := hD
      obtain ⟨w18, w18x⟩ := w18
      have hpost : (r17 : Int32) = if ((0 ≤ (nI ii).toInt ∧ (nI ii).toInt < ((B : Nat) : Int)) ∧ 0 ≤ v.toInt ∧ v.toInt ≤ 9) then fst (20 + 3 * (nI ii).toNatClampNeg + 2) else -1 := by
        have t_b8 := b8
        have t_b16 := b16
        have t_hii := hii
        have t_n0 : (nI N).toInt = (N : Int) := tn2917_ ()
        have t_n1 : (nI B).toInt = (B : Int) := tn2918_ ()
        have t_n2 : (nI T).toInt = (T : Int) := tn2919_ ()
        have t_n3 : (nI S).toInt = (S : Int) := tn2920_ ()
        have t_n4 : (nI M).toInt = (M : Int) := tn2921_ ()
        have t_n5 : (nI ii).toInt = (ii : Int) := tn2922_ ()
        have z0 : (0 : Int32).toInt = 0 := qI_0
        have z1 : (1 : Int32).toInt = 1 := qI_1
        have z2 : (2 : Int32).toInt = 2 := qI_2
        have z3 : (3 : Int32).toInt = 3 := qI_3
        have z5 : (5 : Int32).toInt = 5 := qI_5
        have z9 : (9 : Int32).toInt = 9 := qI_9
        have z20 : (20 : Int32).toInt = 20 := qI_20
        have z4 : (-4 : Int32).toInt = -4 := (by decide)
        have z10 : (10 : Int32).toInt = 10 := qI_10
        rw [if_pos (by omega)]
        (try rw [nI_clamp (by omega)])
        exact w18
      have hP9 := hP.sub (ws' := [(h0, .inr (11, [.ref st, .int (nI N), .int (nI B), .ref rp, .int vrs, .int vrb, .int vhs, .int vca, .int vxs, .int vxb, .ref tp, .int (nI T), .int vfa, .int vbr, .int vba, .int vsp, .int vhe, .int vtk, .int vva, .ref cu, .ref lt, .ref od, .ref th, .ref be, .ref ln, .int (nI S), .ref ma, .int (nI M), .ref ah, .ref bh, .ref ik, .ref la, .ref lg, .ref ce, .int vto])), (st, .inl (G 0, 196, .inl u19))]) [0, 1] rfl
      have hD9 := hD.sub (ws' := [(h0, .inr (11, [.ref st, .int (nI N), .int (nI B), .ref rp, .int vrs, .int vrb, .int vhs, .int vca, .int vxs, .int vxb, .ref tp, .int (nI T), .int vfa, .int vbr, .int vba, .int vsp, .int vhe, .int vtk, .int vva, .ref cu, .ref lt, .ref od, .ref th, .ref be, .ref ln, .int (nI S), .ref ma, .int (nI M), .ref ah, .ref bh, .ref ik, .ref la, .ref lg, .ref ce, .int vto])), (st, .inl (G 0, 196, .inl u19))]) [0, 1] (by decide) rfl
      refine W.widen (k := 0) (n := 0) (Nat.le_of_ble_eq_true rfl) (Nat.le_of_ble_eq_true rfl) ?_
      exact W.iret (v := r17) hx hb hr (fun t ht hW => ⟨⟨r17, u19, rfl, ⟨hpost, ⟨w18x.1, (by have t_b8 := b8; have t_b16 := b16; have t_hii := hii; have t_n0 : (nI N).toInt = (N : Int) := tn2917_ (); have t_n1 : (nI B).toInt = (B : Int) := tn2918_ (); have t_n2 : (nI T).toInt = (T : Int) := tn2919_ (); have t_n3 : (nI S).toInt = (S : Int) := tn2920_ (); have t_n4 : (nI M).toInt = (M : Int) := tn2921_ (); have t_n5 : (nI ii).toInt = (ii : Int) := tn2922_ (); have z0 : (0 : Int32).toInt = 0 := qI_0; have z1 : (1 : Int32).toInt = 1 := qI_1; have z2 : (2 : Int32).toInt = 2 := qI_2; have z3 : (3 : Int32).toInt = 3 := qI_3; have z5 : (5 : Int32).toInt = 5 := qI_5; have z9 : (9 : Int32).toInt = 9 := qI_9; have z20 : (20 : Int32).toInt = 20 := qI_20; have z4 : (-4 : Int32).toInt = -4 := (by decide); have z10 : (10 : Int32).toInt = 10 := qI_10; rw [if_pos (by omega)]; (try rw [nI_clamp (by omega)]); exact w18x.2)⟩⟩, ⟨by rw [ht]; exact hP9, hD9⟩⟩, hS.F ht⟩) hS.2.2 dX11_warm_38

set_option maxHeartbeats 1000000 in
set_option maxRecDepth 100000 in
theorem c_X11_harmE (l : Launch) (dC : Nat → ClassId) (dI : Nat → Nat → Nat) (G : Nat → ClassId) (sz : Nat) (h0 st N B rp tp T cu lt od th be ln S ma M ah bh ik la lg ce : Nat) (i g k vrs vrb vhs vca vxs vxb vfa vbr vba vsp vhe vtk vva vto : Int32) (fst : Nat → Int32) (hN : N ≤ 10) (hB : B ≤ 6) (hT : T ≤ 320) (hS0 : S ≤ 8) (hM : M ≤ 6) : Met l yX11_harm (Cond.code yX11_harm cX11_harm 4 (some .int) :: GT) ({ frames := 3, cells := 0, slots := 0, locals := 69 } : Room) (PcR [.ref h0, .int i, .int g, .int k] dC dI G [(h0, .inr (11, [.ref st, .int (nI N), .int (nI B), .ref rp, .int vrs, .int vrb, .int vhs, .int vca, .int vxs, .int vxb, .ref tp, .int (nI T), .int vfa, .int vbr, .int vba, .int vsp, .int vhe, .int vtk, .int vva, .ref cu, .ref lt, .ref od, .ref th, .ref be, .ref ln, .int (nI S), .ref ma, .int (nI M), .ref ah, .ref bh, .ref ik, .ref la, .ref lg, .ref ce, .int vto])), (st, .inl (G 0, 196, .inl fst))] sz) (va_Qi (fun (r : Int32) (u : Unit) => match u with | _ => (r = if (0 ≤ i.toInt ∧ i.toInt < ((N : Nat) : Int)) ∧ (g.toInt = -4 ∨ (0 ≤ g.toInt ∧ g.toInt < ((B : Nat) : Int))) ∧ (0 ≤ k.toInt ∧ k.toInt < ((B : Nat) : Int)) then (if g = -4 then rhN fst i.toNatClampNeg k.toNatClampNeg 0 else rhB fst i.toNatClampNeg g.toNatClampNeg k.toNatClampNeg 0) else -1) ∧ True) (fun _ _ => True) (fun q : Nat => sz ≤ q)) 0 0 (fun q : Nat => sz ≤ q) := by
  have hB_ := hB
  have hM_ := hM
  have hT_ := hT
  refine Met.ofW (cc := cX11_harm) (maxL := 4) (ret := (some .int)) (by decide) rfl ?_
  intro p e s m args below meth c s₁ Bd hml hv
  obtain ⟨rfl, hsz, hP, hK⟩ := hv
  have hx := Bd.exec
  have hb := Bd.bytes
  have hr := Bd.returns
  have hg : ∀ w ∈ GT, w.before ([.ref h0, .int i, .int g, .int k] : List Value).toArray s = true := fun w h => atoms_spec (ws := Cond.code yX11_harm cX11_harm 4 (some .int) :: GT) Bd.pre w (List.mem_cons_of_mem _ h)
  have hown : s.vm.findClass RX11 = some m.cls := findClass_of_methodNamed Bd.named
  have hlocks := Bd.notSynchronized
  subst hsz
  have hA : ∀ q : Nat, s.heap.size ≤ q → (fun q : Nat => s.heap.size ≤ q) q := fun _ h => h
  have hS : va_S (fun q : Nat => s.heap.size ≤ q) s.heap s.heap [] := va_S.rf
  have hl := lv_entry ([.ref h0, .int i, .int g, .int k]) (n := 4) (Nat.le_of_ble_eq_true rfl)
  rw [lg_entry_eq]
  generalize (lg_sl ([.ref h0, .int i, .int g, .int k]) ++ List.replicate (4 - (lg_sl ([.ref h0, .int i, .int g, .int k])).length) Slot.unset).toArray = ls at hl ⊢
  have hl : lv_has ls 4 [(0, .ref h0), (1, .int i), (2, .int g), (3, .int k)] := hl
  refine lv_aload_n hx hb dX11_harm_0 rfl (lv_at hl 0 rfl) ?_
  refine lv_iload_n hx hb dX11_harm_1 rfl (lv_at hl 1 rfl) ?_
  refine lv_iload_n hx hb dX11_harm_2 rfl (lv_at hl 2 rfl) ?_
  refine lv_iload_n hx hb dX11_harm_3 rfl (lv_at hl 3 rfl) ?_
  have hPc := hP.sub (ws' := [(h0, .inr (11, [.ref st, .int (nI N), .int (nI B), .ref rp, .int vrs, .int vrb, .int vhs, .int vca, .int vxs, .int vxb, .ref tp, .int (nI T), .int vfa, .int vbr, .int vba, .int vsp, .int vhe, .int vtk, .int vva, .ref cu, .ref lt, .ref od, .ref th, .ref be, .ref ln, .int (nI S), .ref ma, .int (nI M), .ref ah, .ref bh, .ref ik, .ref la, .ref lg, .ref ce, .int vto]))]) [0] rfl
  have tn2923_ : nIT N := fun _ => nI_toInt (by omega)
  have tn2924_ : nIT B := fun _ => nI_toInt (by omega)
  have tn2925_ : nIT T := fun _ => nI_toInt (by omega)
  have tn2926_ : nIT S := fun _ => nI_toInt (by omega)
  have tn2927_ : nIT M := fun _ => nI_toInt (by omega)
  refine va_calli (va_runV (As := [.int i, .int g, .int k]) (rest := []) ⟨hx, hb, hml, hown, hg⟩ (c_X11_canHarm l dC dI G _ h0 st N B rp tp T cu lt od th be ln S ma M ah bh ik la lg ce i g k vrs vrb vhs vca vxs vxb vfa vbr vba vsp vhe vtk vva vto hN hB_ hT_ hS0 hM_) (kwV hg mfX11_canHarm wt_1102 ⟨Nat.le_of_ble_eq_true rfl, Nat.le_of_ble_eq_true rfl⟩) (preVR hK hPc (ci := 11) rfl rfl) rfl rfl hl.1 rfl (lv_room (Nat.le_of_ble_eq_true rfl)) dX11_harm_4 ⟨Nat.le_of_ble_eq_true rfl, Nat.le_of_ble_eq_true rfl⟩) hS (fun q h1 h2 => absurd h2 (Nat.not_le.mpr h1)) (fun q h => hA q (Nat.le_trans hS.1 h)) (fun r1 ur1 t H1 locs ht hvm w2 hB hz1 hk1 hS => ?_)
  have hP := keepR hP hk1
  obtain ⟨w2, w2x⟩ := w2
  try simp only [l_ii] at w2
  subst w2
  refine lv_if_eq (tgt := 21) hx hb dX11_harm_7 (by decide) (fun c3 => ?_) (fun c3 => ?_)
  · skip
    have b4 := if10_n c3
    refine lv_iconst (v := (-1)) hx hb dX11_harm_21 (by decide) ?_
    have hpost : ((-1) : Int32) = if (0 ≤ i.toInt ∧ i.toInt < ((N : Nat) : Int)) ∧ (g.toInt = -4 ∨ (0 ≤ g.toInt ∧ g.toInt < ((B : Nat) : Int))) ∧ (0 ≤ k.toInt ∧ k.toInt < ((B : Nat) : Int)) then (if g = -4 then rhN fst i.toNatClampNeg k.toNatClampNeg 0 else rhB fst i.toNatClampNeg g.toNatClampNeg k.toNatClampNeg 0) else -1 := by
      first | (rw [if_neg (by (have t_b4 := b4; have t_n0 : (nI N).toInt = (N : Int) := tn2923_ (); have t_n1 : (nI B).toInt = (B : Int) := tn2924_ (); have t_n2 : (nI T).toInt = (T : Int) := tn2925_ (); have t_n3 : (nI S).toInt = (S : Int) := tn2926_ (); have t_n4 : (nI M).toInt = (M : Int) := tn2927_ (); have z0 : (0 : Int32).toInt = 0 := qI_0; have z1 : (1 : Int32).toInt = 1 := qI_1; have z2 : (2 : Int32).toInt = 2 := qI_2; have z3 : (3 : Int32).toInt = 3 := qI_3; have z5 : (5 : Int32).toInt = 5 := qI_5; have z9 : (9 : Int32).toInt = 9 := qI_9; have z20 : (20 : Int32).toInt = 20 := qI_20; have z4 : (-4 : Int32).toInt = -4 := (by decide); have z10 : (10 : Int32).toInt = 10 := qI_10; omega))]; done) | (rw [if_pos (by (have t_b4 := b4; have t_n0 : (nI N).toInt = (N : Int) := tn2923_ (); have t_n1 : (nI B).toInt = (B : Int) := tn2924_ (); have t_n2 : (nI T).toInt = (T : Int) := tn2925_ (); have t_n3 : (nI S).toInt = (S : Int) := tn2926_ (); have t_n4 : (nI M).toInt = (M : Int) := tn2927_ (); have z0 : (0 : Int32).toInt = 0 := qI_0; have z1 : (1 : Int32).toInt = 1 := qI_1; have z2 : (2 : Int32).toInt = 2 := qI_2; have z3 : (3 : Int32).toInt = 3 := qI_3; have z5 : (5 : Int32).toInt = 5 := qI_5; have z9 : (9 : Int32).toInt = 9 := qI_9; have z20 : (20 : Int32).toInt = 20 := qI_20; have z4 : (-4 : Int32).toInt = -4 := (by decide); have z10 : (10 : Int32).toInt = 10 := qI_10; omega)), nI_clamp (by (have t_b4 := b4; have t_n0 : (nI N).toInt = (N : Int) := tn2923_ (); have t_n1 : (nI B).toInt = (B : Int) := tn2924_ (); have t_n2 : (nI T).toInt = (T : Int) := tn2925_ (); have t_n3 : (nI S).toInt = (S : Int) := tn2926_ (); have t_n4 : (nI M).toInt = (M : Int) := tn2927_ (); have z0 : (0 : Int32).toInt = 0 := qI_0; have z1 : (1 : Int32).toInt = 1 := qI_1; have z2 : (2 : Int32).toInt = 2 := qI_2; have z3 : (3 : Int32).toInt = 3 := qI_3; have z5 : (5 : Int32).toInt = 5 := qI_5; have z9 : (9 : Int32).toInt = 9 := qI_9; have z20 : (20 : Int32).toInt = 20 := qI_20; have z4 : (-4 : Int32).toInt = -4 := (by decide); have z10 : (10 : Int32).toInt = 10 := qI_10; omega)), nI_clamp (by (have t_b4 := b4; have t_n0 : (nI N).toInt = (N : Int) := tn2923_ (); have t_n1 : (nI B).toInt = (B : Int) := tn2924_ (); have t_n2 : (nI T).toInt = (T : Int) := tn2925_ (); have t_n3 : (nI S).toInt = (S : Int) := tn2926_ (); have t_n4 : (nI M).toInt = (M : Int) := tn2927_ (); have z0 : (0 : Int32).toInt = 0 := qI_0; have z1 : (1 : Int32).toInt = 1 := qI_1; have z2 : (2 : Int32).toInt = 2 := qI_2; have z3 : (3 : Int32).toInt = 3 := qI_3; have z5 : (5 : Int32).toInt = 5 := qI_5; have z9 : (9 : Int32).toInt = 9 := qI_9; have z20 : (20 : Int32).toInt = 20 := qI_20; have z4 : (-4 : Int32).toInt = -4 := (by decide); have z10 : (10 : Int32).toInt = 10 := qI_10; omega))]; first | (rw [if_pos rfl]; done) | (rw [if_neg (by assumption), nI_clamp (by (have t_b4 := b4; have t_n0 : (nI N).toInt = (N : Int) := tn2923_ (); have t_n1 : (nI B).toInt = (B : Int) := tn2924_ (); have t_n2 : (nI T).toInt = (T : Int) := tn2925_ (); have t_n3 : (nI S).toInt = (S : Int) := tn2926_ (); have t_n4 : (nI M).toInt = (M : Int) := tn2927_ (); have z0 : (0 : Int32).toInt = 0 := qI_0; have z1 : (1 : Int32).toInt = 1 := qI_1; have z2 : (2 : Int32).toInt = 2 := qI_2; have z3 : (3 : Int32).toInt = 3 := qI_3; have z5 : (5 : Int32).toInt = 5 := qI_5; have z9 : (9 : Int32).toInt = 9 := qI_9; have z20 : (20 : Int32).toInt = 20 := qI_20; have z4 : (-4 : Int32).toInt = -4 := (by decide); have z10 : (10 : Int32).toInt = 10 := qI_10; omega))]; done))
    refine W.widen (k := 0) (n := 0) (Nat.le_of_ble_eq_true rfl) (Nat.le_of_ble_eq_true rfl) ?_
    exact W.iret (v := (-1)) hx hb hr (fun t ht hW => ⟨⟨(-1), (), rfl, ⟨hpost, trivial⟩, trivial⟩, hS.F ht⟩) hS.2.2 dX11_harm_22
  · skip
    have b5 := if10_p c3
    obtain ⟨ii, hii, rfl⟩ : ∃ j : Nat, j < 10 ∧ i = nI j := by
      have t_b5 := b5
      have t_n0 : (nI N).toInt = (N : Int) := tn2923_ ()
      have t_n1 : (nI B).toInt = (B : Int) := tn2924_ ()
      have t_n2 : (nI T).toInt = (T : Int) := tn2925_ ()
      have t_n3 : (nI S).toInt = (S : Int) := tn2926_ ()
      have t_n4 : (nI M).toInt = (M : Int) := tn2927_ ()
      exact i32_nat (by omega) (by omega)
    obtain ⟨kk, hkk, rfl⟩ : ∃ j : Nat, j < 6 ∧ k = nI j := by
      have t_b5 := b5
      have t_hii := hii
      have t_n0 : (nI N).toInt = (N : Int) := tn2923_ ()
      have t_n1 : (nI B).toInt = (B : Int) := tn2924_ ()
      have t_n2 : (nI T).toInt = (T : Int) := tn2925_ ()
      have t_n3 : (nI S).toInt = (S : Int) := tn2926_ ()
      have t_n4 : (nI M).toInt = (M : Int) := tn2927_ ()
      have tn2928_ : nIT ii := fun _ => nI_toInt (by omega)
      have t_n5 : (nI ii).toInt = (ii : Int) := tn2928_ ()
      exact i32_nat (by omega) (by omega)
    by_cases ha6 : g = -4
    · skip
      subst ha6
      refine lv_aload_n hx hb dX11_harm_10 rfl (lv_at hl 0 rfl) ?_
      refine lv_iload_n hx hb dX11_harm_11 rfl (lv_at hl 1 rfl) ?_
      refine lv_iload_n hx hb dX11_harm_12 rfl (lv_at hl 2 rfl) ?_
      refine lv_iload_n hx hb dX11_harm_13 rfl (lv_at hl 3 rfl) ?_
      refine lv_iconst (v := 0) hx hb dX11_harm_14 (by decide) ?_
      have hPc := hP.sub (ws' := [(h0, .inr (11, [.ref st, .int (nI N), .int (nI B), .ref rp, .int vrs, .int vrb, .int vhs, .int vca, .int vxs, .int vxb, .ref tp, .int (nI T), .int vfa, .int vbr, .int vba, .int vsp, .int vhe, .int vtk, .int vva, .ref cu, .ref lt, .ref od, .ref th, .ref be, .ref ln, .int (nI S), .ref ma, .int (nI M), .ref ah, .ref bh, .ref ik, .ref la, .ref lg, .ref ce, .int vto])), (st, .inl (G 0, 196, .inl fst))]) [0, 1] rfl
      have tn2929_ : nIT ii := fun _ => nI_toInt (by first | omega | (have t_b5 := b5; have t_hii := hii; have t_hkk := hkk; omega))
      have tn2930_ : nIT kk := fun _ => nI_toInt (by first | omega | (have t_b5 := b5; have t_hii := hii; have t_hkk := hkk; omega))
      refine va_calli (va_runV (As := [.int (nI ii), .int (-4), .int (nI kk), .int 0]) (rest := []) ⟨hx, hb, hml, hown, hg⟩ (c_X11_harmOfN l dC dI G _ h0 ii kk st N B rp tp T cu lt od th be ln S ma M ah bh ik la lg ce 0 vrs vrb vhs vca vxs vxb vfa vbr vba vsp vhe vtk vva vto fst hN hB_ hT_ hS0 hM_ (by first | omega | (have t_b5 := b5; have t_hii := hii; have t_hkk := hkk; have t_n0 : (nI N).toInt = (N : Int) := tn2923_ (); have t_n1 : (nI B).toInt = (B : Int) := tn2924_ (); have t_n2 : (nI T).toInt = (T : Int) := tn2925_ (); have t_n3 : (nI S).toInt = (S : Int) := tn2926_ (); have t_n4 : (nI M).toInt = (M : Int) := tn2927_ (); have t_n5 : (nI ii).toInt = (ii : Int) := tn2929_ (); have t_n6 : (nI kk).toInt = (kk : Int) := tn2930_ (); have : ((-4) : Int32).toInt = -4 := qI_m4; have : (0 : Int32).toInt = 0 := qI_0; omega)) (by first | omega | (have t_b5 := b5; have t_hii := hii; have t_hkk := hkk; have t_n0 : (nI N).toInt = (N : Int) := tn2923_ (); have t_n1 : (nI B).toInt = (B : Int) := tn2924_ (); have t_n2 : (nI T).toInt = (T : Int) := tn2925_ (); have t_n3 : (nI S).toInt = (S : Int) := tn2926_ (); have t_n4 : (nI M).toInt = (M : Int) := tn2927_ (); have t_n5 : (nI ii).toInt = (ii : Int) := tn2929_ (); have t_n6 : (nI kk).toInt = (kk : Int) := tn2930_ (); have : ((-4) : Int32).toInt = -4 := qI_m4; have : (0 : Int32).toInt = 0 := qI_0; omega))) (kwV hg mfX11_harmOf wt_1106 ⟨Nat.le_of_ble_eq_true rfl, Nat.le_of_ble_eq_true rfl⟩) (preVR hK hPc (ci := 11) rfl rfl) rfl rfl hl.1 rfl (lv_room (Nat.le_of_ble_eq_true rfl)) dX11_harm_15 ⟨Nat.le_of_ble_eq_true rfl, Nat.le_of_ble_eq_true rfl⟩) hS (fun q h1 h2 => absurd h2 (Nat.not_le.mpr h1)) (fun q h => hA q (Nat.le_trans hS.1 h)) (fun r7 ur7 t H1 locs ht hvm w8 hB hz1 hk1 hS => ?_)
      have hP := keepR hP hk1
      obtain ⟨w8, w8x⟩ := w8
      subst w8
      refine lv_goto (tgt := 22) hx hb dX11_harm_18 (by decide) ?_
      have hpost : (rhN fst ii kk 0 : Int32) = if (0 ≤ (nI ii).toInt ∧ (nI ii).toInt < ((N : Nat) : Int)) ∧ (((-4) : Int32).toInt = -4 ∨ (0 ≤ ((-4) : Int32).toInt ∧ ((-4) : Int32).toInt < ((B : Nat) : Int))) ∧ (0 ≤ (nI kk).toInt ∧ (nI kk).toInt < ((B : Nat) : Int)) then (if ((-4) : Int32) = -4 then rhN fst (nI ii).toNatClampNeg (nI kk).toNatClampNeg 0 else rhB fst (nI ii).toNatClampNeg ((-4) : Int32).toNatClampNeg (nI kk).toNatClampNeg 0) else -1 := by
        first | (rw [if_neg (by (have t_b5 := b5; have t_hii := hii; have t_hkk := hkk; have t_n0 : (nI N).toInt = (N : Int) := tn2923_ (); have t_n1 : (nI B).toInt = (B : Int) := tn2924_ (); have t_n2 : (nI T).toInt = (T : Int) := tn2925_ (); have t_n3 : (nI S).toInt = (S : Int) := tn2926_ (); have t_n4 : (nI M).toInt = (M : Int) := tn2927_ (); have t_n5 : (nI ii).toInt = (ii : Int) := tn2929_ (); have t_n6 : (nI kk).toInt = (kk : Int) := tn2930_ (); have z0 : (0 : Int32).toInt = 0 := qI_0; have z1 : (1 : Int32).toInt = 1 := qI_1; have z2 : (2 : Int32).toInt = 2 := qI_2; have z3 : (3 : Int32).toInt = 3 := qI_3; have z5 : (5 : Int32).toInt = 5 := qI_5; have z9 : (9 : Int32).toInt = 9 := qI_9; have z20 : (20 : Int32).toInt = 20 := qI_20; have z4 : (-4 : Int32).toInt = -4 := (by decide); have z10 : (10 : Int32).toInt = 10 := qI_10; omega))]; done) | (rw [if_pos (by (have t_b5 := b5; have t_hii := hii; have t_hkk := hkk; have t_n0 : (nI N).toInt = (N : Int) := tn2923_ (); have t_n1 : (nI B).toInt = (B : Int) := tn2924_ (); have t_n2 : (nI T).toInt = (T : Int) := tn2925_ (); have t_n3 : (nI S).toInt = (S : Int) := tn2926_ (); have t_n4 : (nI M).toInt = (M : Int) := tn2927_ (); have t_n5 : (nI ii).toInt = (ii : Int) := tn2929_ (); have t_n6 : (nI kk).toInt = (kk : Int) := tn2930_ (); have z0 : (0 : Int32).toInt = 0 := qI_0; have z1 : (1 : Int32).toInt = 1 := qI_1; have z2 : (2 : Int32).toInt = 2 := qI_2; have z3 : (3 : Int32).toInt = 3 := qI_3; have z5 : (5 : Int32).toInt = 5 := qI_5; have z9 : (9 : Int32).toInt = 9 := qI_9; have z20 : (20 : Int32).toInt = 20 := qI_20; have z4 : (-4 : Int32).toInt = -4 := (by decide); have z10 : (10 : Int32).toInt = 10 := qI_10; omega)), nI_clamp (by (have t_b5 := b5; have t_hii := hii; have t_hkk := hkk; have t_n0 : (nI N).toInt = (N : Int) := tn2923_ (); have t_n1 : (nI B).toInt = (B : Int) := tn2924_ (); have t_n2 : (nI T).toInt = (T : Int) := tn2925_ (); have t_n3 : (nI S).toInt = (S : Int) := tn2926_ (); have t_n4 : (nI M).toInt = (M : Int) := tn2927_ (); have t_n5 : (nI ii).toInt = (ii : Int) := tn2929_ (); have t_n6 : (nI kk).toInt = (kk : Int) := tn2930_ (); have z0 : (0 : Int32).toInt = 0 := qI_0; have z1 : (1 : Int32).toInt = 1 := qI_1; have z2 : (2 : Int32).toInt = 2 := qI_2; have z3 : (3 : Int32).toInt = 3 := qI_3; have z5 : (5 : Int32).toInt = 5 := qI_5; have z9 : (9 : Int32).toInt = 9 := qI_9; have z20 : (20 : Int32).toInt = 20 := qI_20; have z4 : (-4 : Int32).toInt = -4 := (by decide); have z10 : (10 : Int32).toInt = 10 := qI_10; omega)), nI_clamp (by (have t_b5 := b5; have t_hii := hii; have t_hkk := hkk; have t_n0 : (nI N).toInt = (N : Int) := tn2923_ (); have t_n1 : (nI B).toInt = (B : Int) := tn2924_ (); have t_n2 : (nI T).toInt = (T : Int) := tn2925_ (); have t_n3 : (nI S).toInt = (S : Int) := tn2926_ (); have t_n4 : (nI M).toInt = (M : Int) := tn2927_ (); have t_n5 : (nI ii).toInt = (ii : Int) := tn2929_ (); have t_n6 : (nI kk).toInt = (kk : Int) := tn2930_ (); have z0 : (0 : Int32).toInt = 0 := qI_0; have z1 : (1 : Int32).toInt = 1 := qI_1; have z2 : (2 : Int32).toInt = 2 := qI_2; have z3 : (3 : Int32).toInt = 3 := qI_3; have z5 : (5 : Int32).toInt = 5 := qI_5; have z9 : (9 : Int32).toInt = 9 := qI_9; have z20 : (20 : Int32).toInt = 20 := qI_20; have z4 : (-4 : Int32).toInt = -4 := (by decide); have z10 : (10 : Int32).toInt = 10 := qI_10; omega))]; first | (rw [if_pos rfl]; done) | (rw [if_neg (by assumption), nI_clamp (by (have t_b5 := b5; have t_hii := hii; have t_hkk := hkk; have t_n0 : (nI N).toInt = (N : Int) := tn2923_ (); have t_n1 : (nI B).toInt = (B : Int) := tn2924_ (); have t_n2 : (nI T).toInt = (T : Int) := tn2925_ (); have t_n3 : (nI S).toInt = (S : Int) := tn2926_ (); have t_n4 : (nI M).toInt = (M : Int) := tn2927_ (); have t_n5 : (nI ii).toInt = (ii : Int) := tn2929_ (); have t_n6 : (nI kk).toInt = (kk : Int) := tn2930_ (); have z0 : (0 : Int32).toInt = 0 := qI_0; have z1 : (1 : Int32).toInt = 1 := qI_1; have z2 : (2 : Int32).toInt = 2 := qI_2; have z3 : (3 : Int32).toInt = 3 := qI_3; have z5 : (5 : Int32).toInt = 5 := qI_5; have z9 : (9 : Int32).toInt = 9 := qI_9; have z20 : (20 : Int32).toInt = 20 := qI_20; have z4 : (-4 : Int32).toInt = -4 := (by decide); have z10 : (10 : Int32).toInt = 10 := qI_10; omega))]; done))
      refine W.widen (k := 0) (n := 0) (Nat.le_of_ble_eq_true rfl) (Nat.le_of_ble_eq_true rfl) ?_
      exact W.iret (v := rhN fst ii kk 0) hx hb hr (fun t ht hW => ⟨⟨rhN fst ii kk 0, (), rfl, ⟨hpost, trivial⟩, trivial⟩, hS.F ht⟩) hS.2.2 dX11_harm_22
    · skip
      obtain ⟨gg, hgg, rfl⟩ : ∃ j : Nat, j < 6 ∧ g = nI j := by
        have t_b5 := b5
        have t_hii := hii
        have t_hkk := hkk
        have t_ha6 := neI ha6
        have : ((-4) : Int32).toInt = -4 := qI_m4
        have t_n0 : (nI N).toInt = (N : Int) := tn2923_ ()
        have t_n1 : (nI B).toInt = (B : Int) := tn2924_ ()
        have t_n2 : (nI T).toInt = (T : Int) := tn2925_ ()
        have t_n3 : (nI S).toInt = (S : Int) := tn2926_ ()
        have t_n4 : (nI M).toInt = (M : Int) := tn2927_ ()
        have tn2931_ : nIT ii := fun _ => nI_toInt (by omega)
        have t_n5 : (nI ii).toInt = (ii : Int) := tn2931_ ()
        have tn2932_ : nIT kk := fun _ => nI_toInt (by omega)
        have t_n6 : (nI kk).toInt = (kk : Int) := tn2932_ ()
        exact i32_nat (by omega) (by omega)
      refine lv_aload_n hx hb dX11_harm_10 rfl (lv_at hl 0 rfl) ?_
      refine lv_iload_n hx hb dX11_harm_11 rfl (lv_at hl 1 rfl) ?_
      refine lv_iload_n hx hb dX11_harm_12 rfl (lv_at hl 2 rfl) ?_
      refine lv_iload_n hx hb dX11_harm_13 rfl (lv_at hl 3 rfl) ?_
      refine lv_iconst (v := 0) hx hb dX11_harm_14 (by decide) ?_
      have hPc := hP.sub (ws' := [(h0, .inr (11, [.ref st, .int (nI N), .int (nI B), .ref rp, .int vrs, .int vrb, .int vhs, .int vca, .int vxs, .int vxb, .ref tp, .int (nI T), .int vfa, .int vbr, .int vba, .int vsp, .int vhe, .int vtk, .int vva, .ref cu, .ref lt, .ref od, .ref th, .ref be, .ref ln, .int (nI S), .ref ma, .int (nI M), .ref ah, .ref bh, .ref ik, .ref la, .ref lg, .ref ce, .int vto])), (st, .inl (G 0, 196, .inl fst))]) [0, 1] rfl
      have tn2933_ : nIT ii := fun _ => nI_toInt (by first | omega | (have t_b5 := b5; have t_hii := hii; have t_hkk := hkk; have t_ha6 := neI ha6; have t_hgg := hgg; have : ((-4) : Int32).toInt = -4 := qI_m4; omega))
      have tn2934_ : nIT kk := fun _ => nI_toInt (by first | omega | (have t_b5 := b5; have t_hii := hii; have t_hkk := hkk; have t_ha6 := neI ha6; have t_hgg := hgg; have : ((-4) : Int32).toInt = -4 := qI_m4; omega))
      have tn2935_ : nIT gg := fun _ => nI_toInt (by first | omega | (have t_b5 := b5; have t_hii := hii; have t_hkk := hkk; have t_ha6 := neI ha6; have t_hgg := hgg; have : ((-4) : Int32).toInt = -4 := qI_m4; omega))
      refine va_calli (va_runV (As := [.int (nI ii), .int (nI gg), .int (nI kk), .int 0]) (rest := []) ⟨hx, hb, hml, hown, hg⟩ (c_X11_harmOfB l dC dI G _ h0 ii gg kk st N B rp tp T cu lt od th be ln S ma M ah bh ik la lg ce 0 vrs vrb vhs vca vxs vxb vfa vbr vba vsp vhe vtk vva vto fst hN hB_ hT_ hS0 hM_ (by first | omega | (have t_b5 := b5; have t_hii := hii; have t_hkk := hkk; have t_ha6 := neI ha6; have t_hgg := hgg; have : ((-4) : Int32).toInt = -4 := qI_m4; have t_n0 : (nI N).toInt = (N : Int) := tn2923_ (); have t_n1 : (nI B).toInt = (B : Int) := tn2924_ (); have t_n2 : (nI T).toInt = (T : Int) := tn2925_ (); have t_n3 : (nI S).toInt = (S : Int) := tn2926_ (); have t_n4 : (nI M).toInt = (M : Int) := tn2927_ (); have t_n5 : (nI ii).toInt = (ii : Int) := tn2933_ (); have t_n6 : (nI kk).toInt = (kk : Int) := tn2934_ (); have t_n7 : (nI gg).toInt = (gg : Int) := tn2935_ (); have : (0 : Int32).toInt = 0 := qI_0; omega)) (by first | omega | (have t_b5 := b5; have t_hii := hii; have t_hkk := hkk; have t_ha6 := neI ha6; have t_hgg := hgg; have : ((-4) : Int32).toInt = -4 := qI_m4; have t_n0 : (nI N).toInt = (N : Int) := tn2923_ (); have t_n1 : (nI B).toInt = (B : Int) := tn2924_ (); have t_n2 : (nI T).toInt = (T : Int) := tn2925_ (); have t_n3 : (nI S).toInt = (S : Int) := tn2926_ (); have t_n4 : (nI M).toInt = (M : Int) := tn2927_ (); have t_n5 : (nI ii).toInt = (ii : Int) := tn2933_ (); have t_n6 : (nI kk).toInt = (kk : Int) := tn2934_ (); have t_n7 : (nI gg).toInt = (gg : Int) := tn2935_ (); have : (0 : Int32).toInt = 0 := qI_0; omega)) (by first | omega | (have t_b5 := b5; have t_hii := hii; have t_hkk := hkk; have t_ha6 := neI ha6; have t_hgg := hgg; have : ((-4) : Int32).toInt = -4 := qI_m4; have t_n0 : (nI N).toInt = (N : Int) := tn2923_ (); have t_n1 : (nI B).toInt = (B : Int) := tn2924_ (); have t_n2 : (nI T).toInt = (T : Int) := tn2925_ (); have t_n3 : (nI S).toInt = (S : Int) := tn2926_ (); have t_n4 : (nI M).toInt = (M : Int) := tn2927_ (); have t_n5 : (nI ii).toInt = (ii : Int) := tn2933_ (); have t_n6 : (nI kk).toInt = (kk : Int) := tn2934_ (); have t_n7 : (nI gg).toInt = (gg : Int) := tn2935_ (); have : (0 : Int32).toInt = 0 := qI_0; omega))) (kwV hg mfX11_harmOf wt_1106 ⟨Nat.le_of_ble_eq_true rfl, Nat.le_of_ble_eq_true rfl⟩) (preVR hK hPc (ci := 11) rfl rfl) rfl rfl hl.1 rfl (lv_room (Nat.le_of_ble_eq_true rfl)) dX11_harm_15 ⟨Nat.le_of_ble_eq_true rfl, Nat.le_of_ble_eq_true rfl⟩) hS (fun q h1 h2 => absurd h2 (Nat.not_le.mpr h1)) (fun q h => hA q (Nat.le_trans hS.1 h)) (fun r9 ur9 t H1 locs ht hvm w10 hB hz1 hk1 hS => ?_)
      have hP := keepR hP hk1
      obtain ⟨w10, w10x⟩ := w10
      subst w10
      refine lv_goto (tgt := 22) hx hb dX11_harm_18 (by decide) ?_
      have hpost : (rhB fst ii gg kk 0 : Int32) = if (0 ≤ (nI ii).toInt ∧ (nI ii).toInt < ((N : Nat) : Int)) ∧ ((nI gg).toInt = -4 ∨ (0 ≤ (nI gg).toInt ∧ (nI gg).toInt < ((B : Nat) : Int))) ∧ (0 ≤ (nI kk).toInt ∧ (nI kk).toInt < ((B : Nat) : Int)) then (if (nI gg) = -4 then rhN fst (nI ii).toNatClampNeg (nI kk).toNatClampNeg 0 else rhB fst (nI ii).toNatClampNeg (nI gg).toNatClampNeg (nI kk).toNatClampNeg 0) else -1 := by
        first | (rw [if_neg (by (have t_b5 := b5; have t_hii := hii; have t_hkk := hkk; have t_ha6 := neI ha6; have t_hgg := hgg; have : ((-4) : Int32).toInt = -4 := qI_m4; have t_n0 : (nI N).toInt = (N : Int) := tn2923_ (); have t_n1 : (nI B).toInt = (B : Int) := tn2924_ (); have t_n2 : (nI T).toInt = (T : Int) := tn2925_ (); have t_n3 : (nI S).toInt = (S : Int) := tn2926_ (); have t_n4 : (nI M).toInt = (M : Int) := tn2927_ (); have t_n5 : (nI ii).toInt = (ii : Int) := tn2933_ (); have t_n6 : (nI kk).toInt = (kk : Int) := tn2934_ (); have t_n7 : (nI gg).toInt = (gg : Int) := tn2935_ (); have z0 : (0 : Int32).toInt = 0 := qI_0; have z1 : (1 : Int32).toInt = 1 := qI_1; have z2 : (2 : Int32).toInt = 2 := qI_2; have z3 : (3 : Int32).toInt = 3 := qI_3; have z5 : (5 : Int32).toInt = 5 := qI_5; have z9 : (9 : Int32).toInt = 9 := qI_9; have z20 : (20 : Int32).toInt = 20 := qI_20; have z4 : (-4 : Int32).toInt = -4 := (by decide); have z10 : (10 : Int32).toInt = 10 := qI_10; omega))]; done) | (rw [if_pos (by (have t_b5 := b5; have t_hii := hii; have t_hkk := hkk; have t_ha6 := neI ha6; have t_hgg := hgg; have : ((-4) : Int32).toInt = -4 := qI_m4; have t_n0 : (nI N).toInt = (N : Int) := tn2923_ (); have t_n1 : (nI B).toInt = (B : Int) := tn2924_ (); have t_n2 : (nI T).toInt = (T : Int) := tn2925_ (); have t_n3 : (nI S).toInt = (S : Int) := tn2926_ (); have t_n4 : (nI M).toInt = (M : Int) := tn2927_ (); have t_n5 : (nI ii).toInt = (ii : Int) := tn2933_ (); have t_n6 : (nI kk).toInt = (kk : Int) := tn2934_ (); have t_n7 : (nI gg).toInt = (gg : Int) := tn2935_ (); have z0 : (0 : Int32).toInt = 0 := qI_0; have z1 : (1 : Int32).toInt = 1 := qI_1; have z2 : (2 : Int32).toInt = 2 := qI_2; have z3 : (3 : Int32).toInt = 3 := qI_3; have z5 : (5 : Int32).toInt = 5 := qI_5; have z9 : (9 : Int32).toInt = 9 := qI_9; have z20 : (20 : Int32).toInt = 20 := qI_20; have z4 : (-4 : Int32).toInt = -4 := (by decide); have z10 : (10 : Int32).toInt = 10 := qI_10; omega)), nI_clamp (by (have t_b5 := b5; have t_hii := hii; have t_hkk := hkk; have t_ha6 := neI ha6; have t_hgg := hgg; have : ((-4) : Int32).toInt = -4 := qI_m4; have t_n0 : (nI N).toInt = (N : Int) := tn2923_ (); have t_n1 : (nI B).toInt = (B : Int) := tn2924_ (); have t_n2 : (nI T).toInt = (T : Int) := tn2925_ (); have t_n3 : (nI S).toInt = (S : Int) := tn2926_ (); have t_n4 : (nI M).toInt = (M : Int) := tn2927_ (); have t_n5 : (nI ii).toInt = (ii : Int) := tn2933_ (); have t_n6 : (nI kk).toInt = (kk : Int) := tn2934_ (); have t_n7 : (nI gg).toInt = (gg : Int) := tn2935_ (); have z0 : (0 : Int32).toInt = 0 := qI_0; have z1 : (1 : Int32).toInt = 1 := qI_1; have z2 : (2 : Int32).toInt = 2 := qI_2; have z3 : (3 : Int32).toInt = 3 := qI_3; have z5 : (5 : Int32).toInt = 5 := qI_5; have z9 : (9 : Int32).toInt = 9 := qI_9; have z20 : (20 : Int32).toInt = 20 := qI_20; have z4 : (-4 : Int32).toInt = -4 := (by decide); have z10 : (10 : Int32).toInt = 10 := qI_10; omega)), nI_clamp (by (have t_b5 := b5; have t_hii := hii; have t_hkk := hkk; have t_ha6 := neI ha6; have t_hgg := hgg; have : ((-4) : Int32).toInt = -4 := qI_m4; have t_n0 : (nI N).toInt = (N : Int) := tn2923_ (); have t_n1 : (nI B).toInt = (B : Int) := tn2924_ (); have t_n2 : (nI T).toInt = (T : Int) := tn2925_ (); have t_n3 : (nI S).toInt = (S : Int) := tn2926_ (); have t_n4 : (nI M).toInt = (M : Int) := tn2927_ (); have t_n5 : (nI ii).toInt = (ii : Int) := tn2933_ (); have t_n6 : (nI kk).toInt = (kk : Int) := tn2934_ (); have t_n7 : (nI gg).toInt = (gg : Int) := tn2935_ (); have z0 : (0 : Int32).toInt = 0 := qI_0; have z1 : (1 : Int32).toInt = 1 := qI_1; have z2 : (2 : Int32).toInt = 2 := qI_2; have z3 : (3 : Int32).toInt = 3 := qI_3; have z5 : (5 : Int32).toInt = 5 := qI_5; have z9 : (9 : Int32).toInt = 9 := qI_9; have z20 : (20 : Int32).toInt = 20 := qI_20; have z4 : (-4 : Int32).toInt = -4 := (by decide); have z10 : (10 : Int32).toInt = 10 := qI_10; omega))]; first | (rw [if_pos rfl]; done) | (rw [if_neg (by assumption), nI_clamp (by (have t_b5 := b5; have t_hii := hii; have t_hkk := hkk; have t_ha6 := neI ha6; have t_hgg := hgg; have : ((-4) : Int32).toInt = -4 := qI_m4; have t_n0 : (nI N).toInt = (N : Int) := tn2923_ (); have t_n1 : (nI B).toInt = (B : Int) := tn2924_ (); have t_n2 : (nI T).toInt = (T : Int) := tn2925_ (); have t_n3 : (nI S).toInt = (S : Int) := tn2926_ (); have t_n4 : (nI M).toInt = (M : Int) := tn2927_ (); have t_n5 : (nI ii).toInt = (ii : Int) := tn2933_ (); have t_n6 : (nI kk).toInt = (kk : Int) := tn2934_ (); have t_n7 : (nI gg).toInt = (gg : Int) := tn2935_ (); have z0 : (0 : Int32).toInt = 0 := qI_0; have z1 : (1 : Int32).toInt = 1 := qI_1; have z2 : (2 : Int32).toInt = 2 := qI_2; have z3 : (3 : Int32).toInt = 3 := qI_3; have z5 : (5 : Int32).toInt = 5 := qI_5; have z9 : (9 : Int32).toInt = 9 := qI_9; have z20 : (20 : Int32).toInt = 20 := qI_20; have z4 : (-4 : Int32).toInt = -4 := (by decide); have z10 : (10 : Int32).toInt = 10 := qI_10; omega))]; done))
      refine W.widen (k := 0) (n := 0) (Nat.le_of_ble_eq_true rfl) (Nat.le_of_ble_eq_true rfl) ?_
      exact W.iret (v := rhB fst ii gg kk 0) hx hb hr (fun t ht hW => ⟨⟨rhB fst ii gg kk 0, (), rfl, ⟨hpost, trivial⟩, trivial⟩, hS.F ht⟩) hS.2.2 dX11_harm_22

set_option maxHeartbeats 1000000 in
set_option maxRecDepth 100000 in
theorem c_X11_copiesW (l : Launch) (dC : Nat → ClassId) (dI : Nat → Nat → Nat) (G : Nat → ClassId) (sz : Nat) (h0 fr tt st N B rp tp T cu lt od th be ln S ma M ah bh ik la lg ce : Nat) (vrs vrb vhs vca vxs vxb vfa vbr vba vsp vhe vtk vva vto : Int32) (fst : Nat → Int32) (hN : N ≤ 10) (hB : B ≤ 6) (hT : T ≤ 320) (hS0 : S ≤ 8) (hM : M ≤ 6) (hst : OKS fst) (hfr : fr % 49 = 0 ∧ fr ≤ 147) (htt : tt % 49 = 0 ∧ tt ≤ 147) (hdj : fr + 49 ≤ tt ∨ tt + 49 ≤ fr) : Met l yX11_copies (Cond.code yX11_copies cX11_copies 4 none :: GT) ({ frames := 0, cells := 0, slots := 0, locals := 0 } : Room) (PcW [.ref h0, .int (nI fr), .int (nI tt)] dC dI G [(h0, .inr (11, [.ref st, .int (nI N), .int (nI B), .ref rp, .int vrs, .int vrb, .int vhs, .int vca, .int vxs, .int vxb, .ref tp, .int (nI T), .int vfa, .int vbr, .int vba, .int vsp, .int vhe, .int vtk, .int vva, .ref cu, .ref lt, .ref od, .ref th, .ref be, .ref ln, .int (nI S), .ref ma, .int (nI M), .ref ah, .ref bh, .ref ik, .ref la, .ref lg, .ref ce, .int vto])), (st, .inl (G 0, 196, .inl fst))] sz) (va_Qv (fun (u : (Nat → Int32)) => match u with | ost => OKS ost ∧ ost = cpj fr tt 49 fst) (fun (u : (Nat → Int32)) (t : State) => match u with | ost => va_P (dC, dI) vwCl [(h0, .inr (11, [.ref st, .int (nI N), .int (nI B), .ref rp, .int vrs, .int vrb, .int vhs, .int vca, .int vxs, .int vxb, .ref tp, .int (nI T), .int vfa, .int vbr, .int vba, .int vsp, .int vhe, .int vtk, .int vva, .ref cu, .ref lt, .ref od, .ref th, .ref be, .ref ln, .int (nI S), .ref ma, .int (nI M), .ref ah, .ref bh, .ref ik, .ref la, .ref lg, .ref ce, .int vto])), (st, .inl (G 0, 196, .inl ost))] t.heap ∧ va_D (va_A [(h0, .inr (11, [.ref st, .int (nI N), .int (nI B), .ref rp, .int vrs, .int vrb, .int vhs, .int vca, .int vxs, .int vxb, .ref tp, .int (nI T), .int vfa, .int vbr, .int vba, .int vsp, .int vhe, .int vtk, .int vva, .ref cu, .ref lt, .ref od, .ref th, .ref be, .ref ln, .int (nI S), .ref ma, .int (nI M), .ref ah, .ref bh, .ref ik, .ref la, .ref lg, .ref ce, .int vto])), (st, .inl (G 0, 196, .inl fst))] sz) [(h0, .inr (11, [.ref st, .int (nI N), .int (nI B), .ref rp, .int vrs, .int vrb, .int vhs, .int vca, .int vxs, .int vxb, .ref tp, .int (nI T), .int vfa, .int vbr, .int vba, .int vsp, .int vhe, .int vtk, .int vva, .ref cu, .ref lt, .ref od, .ref th, .ref be, .ref ln, .int (nI S), .ref ma, .int (nI M), .ref ah, .ref bh, .ref ik, .ref la, .ref lg, .ref ce, .int vto])), (st, .inl (G 0, 196, .inl ost))]) (va_A [(h0, .inr (11, [.ref st, .int (nI N), .int (nI B), .ref rp, .int vrs, .int vrb, .int vhs, .int vca, .int vxs, .int vxb, .ref tp, .int (nI T), .int vfa, .int vbr, .int vba, .int vsp, .int vhe, .int vtk, .int vva, .ref cu, .ref lt, .ref od, .ref th, .ref be, .ref ln, .int (nI S), .ref ma, .int (nI M), .ref ah, .ref bh, .ref ik, .ref la, .ref lg, .ref ce, .int vto])), (st, .inl (G 0, 196, .inl fst))] sz)) 0 0 (va_A [(h0, .inr (11, [.ref st, .int (nI N), .int (nI B), .ref rp, .int vrs, .int vrb, .int vhs, .int vca, .int vxs, .int vxb, .ref tp, .int (nI T), .int vfa, .int vbr, .int vba, .int vsp, .int vhe, .int vtk, .int vva, .ref cu, .ref lt, .ref od, .ref th, .ref be, .ref ln, .int (nI S), .ref ma, .int (nI M), .ref ah, .ref bh, .ref ik, .ref la, .ref lg, .ref ce, .int vto])), (st, .inl (G 0, 196, .inl fst))] sz) := by
  refine Met.ofW (cc := cX11_copies) (maxL := 4) (ret := none) (by decide) rfl ?_
  intro p e s m args below meth c s₁ Bd hml hv
  obtain ⟨rfl, hsz, hP, hK, hD0⟩ := hv
  have hx := Bd.exec
  have hb := Bd.bytes
  have hr := Bd.returns
  have hg : ∀ w ∈ GT, w.before ([.ref h0, .int (nI fr), .int (nI tt)] : List Value).toArray s = true := fun w h => atoms_spec (ws := Cond.code yX11_copies cX11_copies 4 none :: GT) Bd.pre w (List.mem_cons_of_mem _ h)
  have hown : s.vm.findClass RX11 = some m.cls := findClass_of_methodNamed Bd.named
  have hlocks := Bd.notSynchronized
  subst hsz
  have hD := hD0.self (sz := s.heap.size)
  generalize hAe : va_A [(h0, .inr (11, [.ref st, .int (nI N), .int (nI B), .ref rp, .int vrs, .int vrb, .int vhs, .int vca, .int vxs, .int vxb, .ref tp, .int (nI T), .int vfa, .int vbr, .int vba, .int vsp, .int vhe, .int vtk, .int vva, .ref cu, .ref lt, .ref od, .ref th, .ref be, .ref ln, .int (nI S), .ref ma, .int (nI M), .ref ah, .ref bh, .ref ik, .ref la, .ref lg, .ref ce, .int vto])), (st, .inl (G 0, 196, .inl fst))] s.heap.size = A at hD ⊢
  have hA : ∀ q : Nat, s.heap.size ≤ q → A q := fun q h => by rw [← hAe]; exact Or.inr h
  have hS : va_S A s.heap s.heap [] := va_S.rf
  have hl := lv_entry ([.ref h0, .int (nI fr), .int (nI tt)]) (n := 4) (Nat.le_of_ble_eq_true rfl)
  rw [lg_entry_eq]
  generalize (lg_sl ([.ref h0, .int (nI fr), .int (nI tt)]) ++ List.replicate (4 - (lg_sl ([.ref h0, .int (nI fr), .int (nI tt)])).length) Slot.unset).toArray = ls at hl ⊢
  have hl : lv_has ls 4 [(0, .ref h0), (1, .int (nI fr)), (2, .int (nI tt))] := hl
  refine lv_iconst (v := 0) hx hb dX11_copies_0 (by decide) ?_
  refine lv_istore_n (lv' := [(3, .int 0), (0, .ref h0), (1, .int (nI fr)), (2, .int (nI tt))]) hx hb dX11_copies_1 rfl hl (by decide) rfl (fun ls hl => ?_)
  have loop2_3 : ∀ (nf j1 : Nat), 49 + 1 ≤ j1 + nf → j1 ≤ 49 → ∀ (g2 : Nat → Int32) (H : Heap) (locs : List Loc), (OKS g2 ∧ g2 = cpj fr tt j1 fst) → va_P (dC, dI) vwCl [(h0, .inr (11, [.ref st, .int (nI N), .int (nI B), .ref rp, .int vrs, .int vrb, .int vhs, .int vca, .int vxs, .int vxb, .ref tp, .int (nI T), .int vfa, .int vbr, .int vba, .int vsp, .int vhe, .int vtk, .int vva, .ref cu, .ref lt, .ref od, .ref th, .ref be, .ref ln, .int (nI S), .ref ma, .int (nI M), .ref ah, .ref bh, .ref ik, .ref la, .ref lg, .ref ce, .int vto])), (st, .inl (G 0, 196, .inl g2))] H → va_D A [(h0, .inr (11, [.ref st, .int (nI N), .int (nI B), .ref rp, .int vrs, .int vrb, .int vhs, .int vca, .int vxs, .int vxb, .ref tp, .int (nI T), .int vfa, .int vbr, .int vba, .int vsp, .int vhe, .int vtk, .int vva, .ref cu, .ref lt, .ref od, .ref th, .ref be, .ref ln, .int (nI S), .ref ma, .int (nI M), .ref ah, .ref bh, .ref ik, .ref la, .ref lg, .ref ce, .int vto])), (st, .inl (G 0, 196, .inl g2))] → va_S A s.heap H locs → ∀ (ls : Array Slot), lv_has ls 4 [(3, .int (nI j1)), (0, .ref h0), (1, .int (nI fr)), (2, .int (nI tt))] → W p l e (headSpec (Cond.code yX11_copies cX11_copies 4 none :: GT) ({ frames := 0, cells := 0, slots := 0, locals := 0 } : Room)).room s m ([.ref h0, .int (nI fr), .int (nI tt)] : List Value).toArray below meth c H locs 0 0 (MQ below (va_Qv (fun (u : (Nat → Int32)) => match u with | ost => OKS ost ∧ ost = cpj fr tt 49 fst) (fun (u : (Nat → Int32)) (t : State) => match u with | ost => va_P (dC, dI) vwCl [(h0, .inr (11, [.ref st, .int (nI N), .int (nI B), .ref rp, .int vrs, .int vrb, .int vhs, .int vca, .int vxs, .int vxb, .ref tp, .int (nI T), .int vfa, .int vbr, .int vba, .int vsp, .int vhe, .int vtk, .int vva, .ref cu, .ref lt, .ref od, .ref th, .ref be, .ref ln, .int (nI S), .ref ma, .int (nI M), .ref ah, .ref bh, .ref ik, .ref la, .ref lg, .ref ce, .int vto])), (st, .inl (G 0, 196, .inl ost))] t.heap ∧ va_D A [(h0, .inr (11, [.ref st, .int (nI N), .int (nI B), .ref rp, .int vrs, .int vrb, .int vhs, .int vca, .int vxs, .int vxb, .ref tp, .int (nI T), .int vfa, .int vbr, .int vba, .int vsp, .int vhe, .int vtk, .int vva, .ref cu, .ref lt, .ref od, .ref th, .ref be, .ref ln, .int (nI S), .ref ma, .int (nI M), .ref ah, .ref bh, .ref ik, .ref la, .ref lg, .ref ce, .int vto])), (st, .inl (G 0, 196, .inl ost))]) A) ([.ref h0, .int (nI fr), .int (nI tt)] : List Value).toArray s 0 0 A) (F0 m 2 ls []) := by
    intro nf
    induction nf with
    | zero => intro j1 h1 h2; exact absurd h1 (by omega)
    | succ nf ih2_3 =>
      intro j1 hn4 hj5 g2 H locs hinv hP hD hS ls hl
      refine lv_iload_n hx hb dX11_copies_2 rfl (lv_at hl 0 rfl) ?_
      refine lv_bipush (v := 49) hx hb dX11_copies_3 (by decide) ?_
      refine lv_icmp_ge (tgt := 30) hx hb dX11_copies_5 (by decide) (fun c6 => ?_) (fun c6 => ?_)
      · skip
        have tn2936_ : nIT j1 := fun _ => nI_toInt (by first | omega | (have t := leI c6; omega))
        have n7 : 49 ≤ j1 := by have t := leI c6; rw [show (nI (j1)).toInt = ((j1 : Nat) : Int) from tn2936_ ()] at t; have : (49 : Int32).toInt = 49 := qI_49; omega
        have hP9 := hP.sub (ws' := [(h0, .inr (11, [.ref st, .int (nI N), .int (nI B), .ref rp, .int vrs, .int vrb, .int vhs, .int vca, .int vxs, .int vxb, .ref tp, .int (nI T), .int vfa, .int vbr, .int vba, .int vsp, .int vhe, .int vtk, .int vva, .ref cu, .ref lt, .ref od, .ref th, .ref be, .ref ln, .int (nI S), .ref ma, .int (nI M), .ref ah, .ref bh, .ref ik, .ref la, .ref lg, .ref ce, .int vto])), (st, .inl (G 0, 196, .inl g2))]) [0, 1] rfl
        have hD9 := hD.sub (ws' := [(h0, .inr (11, [.ref st, .int (nI N), .int (nI B), .ref rp, .int vrs, .int vrb, .int vhs, .int vca, .int vxs, .int vxb, .ref tp, .int (nI T), .int vfa, .int vbr, .int vba, .int vsp, .int vhe, .int vtk, .int vva, .ref cu, .ref lt, .ref od, .ref th, .ref be, .ref ln, .int (nI S), .ref ma, .int (nI M), .ref ah, .ref bh, .ref ik, .ref la, .ref lg, .ref ce, .int vto])), (st, .inl (G 0, 196, .inl g2))]) [0, 1] (by decide) rfl
        refine W.widen (k := 0) (n := 0) (Nat.le_of_ble_eq_true rfl) (Nat.le_of_ble_eq_true rfl) ?_
        have tn2937_ : nIT fr := fun _ => nI_toInt (by first | omega | (have t_hj5 := hj5; have t_n7 := n7; omega))
        have tn2938_ : nIT tt := fun _ => nI_toInt (by first | omega | (have t_hj5 := hj5; have t_n7 := n7; omega))
        have tn2939_ : nIT N := fun _ => nI_toInt (by first | omega | (have t_hj5 := hj5; have t_n7 := n7; omega))
        have tn2940_ : nIT B := fun _ => nI_toInt (by first | omega | (have t_hj5 := hj5; have t_n7 := n7; omega))
        have tn2941_ : nIT T := fun _ => nI_toInt (by first | omega | (have t_hj5 := hj5; have t_n7 := n7; omega))
        have tn2942_ : nIT S := fun _ => nI_toInt (by first | omega | (have t_hj5 := hj5; have t_n7 := n7; omega))
        have tn2943_ : nIT M := fun _ => nI_toInt (by first | omega | (have t_hj5 := hj5; have t_n7 := n7; omega))
        exact W.vret hx hb hr (fun t ht hW => ⟨⟨g2, rfl, ⟨hinv.1, (by have t_hj5 := hj5; have t_n7 := n7; have t_n0 : (nI fr).toInt = (fr : Int) := tn2937_ (); have t_n1 : (nI tt).toInt = (tt : Int) := tn2938_ (); have t_n2 : (nI N).toInt = (N : Int) := tn2939_ (); have t_n3 : (nI B).toInt = (B : Int) := tn2940_ (); have t_n4 : (nI T).toInt = (T : Int) := tn2941_ (); have t_n5 : (nI S).toInt = (S : Int) := tn2942_ (); have t_n6 : (nI M).toInt = (M : Int) := tn2943_ (); have t_n7 : (nI j1).toInt = (j1 : Int) := tn2936_ (); rw [hinv.2, show j1 = 49 by omega])⟩, ⟨by rw [ht]; exact hP9, hD9⟩⟩, hS.F ht⟩) hS.2.2 dX11_copies_30
      · skip
        have tn2944_ : nIT j1 := fun _ => nI_toInt (by first | omega | (have t := nleI c6; omega))
        have n8 : j1 < 49 := by have t := nleI c6; rw [show (nI (j1)).toInt = ((j1 : Nat) : Int) from tn2944_ ()] at t; have : (49 : Int32).toInt = 49 := qI_49; omega
        refine lv_aload_n hx hb dX11_copies_8 rfl (lv_at hl 1 rfl) ?_
        refine va_get (D := (dC, dI)) (ci := 11) (v := .ref st) (C := RX11) (T := TX11) (N := 35) hx hb hg inG11 hown hK.1 hP 0 rfl rfl 0 (by decide) (hg _ wt_878) (fun _ h9 => h9) rfl dX11_copies_9 ?_
        refine lv_iload_n hx hb dX11_copies_12 rfl (lv_at hl 3 rfl) ?_
        refine lv_iload_n hx hb dX11_copies_13 rfl (lv_at hl 0 rfl) ?_
        refine lv_iadd hx hb dX11_copies_14 ?_
        refine lv_cg (y := nI (tt + j1)) (by exact nI_add _ _) ?_
        refine lv_aload_n hx hb dX11_copies_15 rfl (lv_at hl 1 rfl) ?_
        refine va_get (D := (dC, dI)) (ci := 11) (v := .ref st) (C := RX11) (T := TX11) (N := 35) hx hb hg inG11 hown hK.1 hP 0 rfl rfl 0 (by decide) (hg _ wt_878) (fun _ h9 => h9) rfl dX11_copies_16 ?_
        refine lv_iload_n hx hb dX11_copies_19 rfl (lv_at hl 2 rfl) ?_
        refine lv_iload_n hx hb dX11_copies_20 rfl (lv_at hl 0 rfl) ?_
        refine lv_iadd hx hb dX11_copies_21 ?_
        refine lv_cg (y := nI (fr + j1)) (by exact nI_add _ _) ?_
        have tn2945_ : nIT fr := fun _ => nI_toInt (by first | omega | (have t_hj5 := hj5; have t_n8 := n8; omega))
        have tn2946_ : nIT tt := fun _ => nI_toInt (by first | omega | (have t_hj5 := hj5; have t_n8 := n8; omega))
        have tn2947_ : nIT N := fun _ => nI_toInt (by first | omega | (have t_hj5 := hj5; have t_n8 := n8; omega))
        have tn2948_ : nIT B := fun _ => nI_toInt (by first | omega | (have t_hj5 := hj5; have t_n8 := n8; omega))
        have tn2949_ : nIT T := fun _ => nI_toInt (by first | omega | (have t_hj5 := hj5; have t_n8 := n8; omega))
        have tn2950_ : nIT S := fun _ => nI_toInt (by first | omega | (have t_hj5 := hj5; have t_n8 := n8; omega))
        have tn2951_ : nIT M := fun _ => nI_toInt (by first | omega | (have t_hj5 := hj5; have t_n8 := n8; omega))
        refine va_iald hx hb hK.1 hP 1 0 rfl rfl (vp_in_nI (by first | omega | (have t_hj5 := hj5; have t_n8 := n8; have t_n0 : (nI fr).toInt = (fr : Int) := tn2945_ (); have t_n1 : (nI tt).toInt = (tt : Int) := tn2946_ (); have t_n2 : (nI N).toInt = (N : Int) := tn2947_ (); have t_n3 : (nI B).toInt = (B : Int) := tn2948_ (); have t_n4 : (nI T).toInt = (T : Int) := tn2949_ (); have t_n5 : (nI S).toInt = (S : Int) := tn2950_ (); have t_n6 : (nI M).toInt = (M : Int) := tn2951_ (); have t_n7 : (nI j1).toInt = (j1 : Int) := tn2944_ (); omega)) (by decide)) dX11_copies_22 ?_
        refine lv_cg (y := g2 (fr + j1)) (by rw [nI_clamp (by omega)]) ?_
        refine va_iast hx hb hK.1 hP hD hS 1 0 rfl rfl (vp_in_nI (by first | omega | (have t_hj5 := hj5; have t_n8 := n8; have t_n0 : (nI fr).toInt = (fr : Int) := tn2945_ (); have t_n1 : (nI tt).toInt = (tt : Int) := tn2946_ (); have t_n2 : (nI N).toInt = (N : Int) := tn2947_ (); have t_n3 : (nI B).toInt = (B : Int) := tn2948_ (); have t_n4 : (nI T).toInt = (T : Int) := tn2949_ (); have t_n5 : (nI S).toInt = (S : Int) := tn2950_ (); have t_n6 : (nI M).toInt = (M : Int) := tn2951_ (); have t_n7 : (nI j1).toInt = (j1 : Int) := tn2944_ (); omega)) (by decide)) dX11_copies_23 (fun H locs hP hD hS => ?_)
        rw [nI_clamp (by omega)] at hP hD
        have hP : va_P (dC, dI) vwCl [(h0, .inr (11, [.ref st, .int (nI N), .int (nI B), .ref rp, .int vrs, .int vrb, .int vhs, .int vca, .int vxs, .int vxb, .ref tp, .int (nI T), .int vfa, .int vbr, .int vba, .int vsp, .int vhe, .int vtk, .int vva, .ref cu, .ref lt, .ref od, .ref th, .ref be, .ref ln, .int (nI S), .ref ma, .int (nI M), .ref ah, .ref bh, .ref ik, .ref la, .ref lg, .ref ce, .int vto])), (st, .inl (G 0, 196, .inl (upd g2 (tt + j1) (g2 (fr + j1)))))] H := hP
        have hD : va_D A [(h0, .inr (11, [.ref st, .int (nI N), .int (nI B), .ref rp, .int vrs, .int vrb, .int vhs, .int vca, .int vxs, .int vxb, .ref tp, .int (nI T), .int vfa, .int vbr, .int vba, .int vsp, .int vhe, .int vtk, .int vva, .ref cu, .ref lt, .ref od, .ref th, .ref be, .ref ln, .int (nI S), .ref ma, .int (nI M), .ref ah, .ref bh, .ref ik, .ref la, .ref lg, .ref ce, .int vto])), (st, .inl (G 0, 196, .inl (upd g2 (tt + j1) (g2 (fr + j1)))))] := hD
        refine lv_iinc (v := nI (j1 + 1)) (lv' := [(3, .int (nI (j1 + 1))), (0, .ref h0), (1, .int (nI fr)), (2, .int (nI tt))]) hx hb dX11_copies_24 hl (k := 0) rfl (by rw [show Int32.ofInt 1 = nI 1 from by decide]; exact nI_add _ _) (by decide) rfl (fun ls hl => ?_)
        refine lv_goto (tgt := 2) hx hb dX11_copies_27 (by decide) ?_
        exact ih2_3 (j1 + 1) (by omega) (by omega) (upd g2 (tt + j1) (g2 (fr + j1))) _ _ ⟨OKS.upd hinv.1 (okS_cp hfr.1 htt.1 (hinv.1 _ (by omega))), (by rw [hinv.2]; exact cpj_s hdj (by omega))⟩ hP hD hS ls (lv_sub hl [0, 1, 2, 3] rfl)
  exact loop2_3 (49 + 1) 0 (by omega) (by omega) fst _ _ ⟨hst, cpj_0⟩ hP hD hS ls (lv_sub hl [0, 1, 2, 3] rfl)

set_option maxHeartbeats 1000000 in
set_option maxRecDepth 100000 in
theorem c_X11_keepW (l : Launch) (dC : Nat → ClassId) (dI : Nat → Nat → Nat) (G : Nat → ClassId) (sz : Nat) (h0 st N B rp tp T cu lt od th be ln S ma M ah bh ik la lg ce : Nat) (k vrs vrb vhs vca vxs vxb vfa vbr vba vsp vhe vtk vva vto : Int32) (fst : Nat → Int32) (fik : Nat → Int32) (hN : N ≤ 10) (hB : B ≤ 6) (hT : T ≤ 320) (hS0 : S ≤ 8) (hM : M ≤ 6) (hst : OKS fst) : Met l yX11_keep (Cond.code yX11_keep cX11_keep 3 (some .int) :: GT) ({ frames := 1, cells := 0, slots := 0, locals := 25 } : Room) (PcW [.ref h0, .int k] dC dI G [(h0, .inr (11, [.ref st, .int (nI N), .int (nI B), .ref rp, .int vrs, .int vrb, .int vhs, .int vca, .int vxs, .int vxb, .ref tp, .int (nI T), .int vfa, .int vbr, .int vba, .int vsp, .int vhe, .int vtk, .int vva, .ref cu, .ref lt, .ref od, .ref th, .ref be, .ref ln, .int (nI S), .ref ma, .int (nI M), .ref ah, .ref bh, .ref ik, .ref la, .ref lg, .ref ce, .int vto])), (st, .inl (G 0, 196, .inl fst)), (ik, .inl (G 2, 2, .inl fik))] sz) (va_Qi (fun (r : Int32) (u : (Nat → Int32) × (Nat → Int32)) => match u with | (ost, oik) => (r = if (0 ≤ k.toInt ∧ k.toInt < 2) then (if fik k.toNatClampNeg = 0 then 0 else 1) else -1) ∧ OKS ost ∧ oik = (if (0 ≤ k.toInt ∧ k.toInt < 2) then upd fik k.toNatClampNeg 1 else fik) ∧ ost = (if (0 ≤ k.toInt ∧ k.toInt < 2) then cpj 0 (49 * (k.toNatClampNeg + 1)) 49 fst else fst)) (fun (u : (Nat → Int32) × (Nat → Int32)) (t : State) => match u with | (ost, oik) => va_P (dC, dI) vwCl [(h0, .inr (11, [.ref st, .int (nI N), .int (nI B), .ref rp, .int vrs, .int vrb, .int vhs, .int vca, .int vxs, .int vxb, .ref tp, .int (nI T), .int vfa, .int vbr, .int vba, .int vsp, .int vhe, .int vtk, .int vva, .ref cu, .ref lt, .ref od, .ref th, .ref be, .ref ln, .int (nI S), .ref ma, .int (nI M), .ref ah, .ref bh, .ref ik, .ref la, .ref lg, .ref ce, .int vto])), (st, .inl (G 0, 196, .inl ost)), (ik, .inl (G 2, 2, .inl oik))] t.heap ∧ va_D (va_A [(h0, .inr (11, [.ref st, .int (nI N), .int (nI B), .ref rp, .int vrs, .int vrb, .int vhs, .int vca, .int vxs, .int vxb, .ref tp, .int (nI T), .int vfa, .int vbr, .int vba, .int vsp, .int vhe, .int vtk, .int vva, .ref cu, .ref lt, .ref od, .ref th, .ref be, .ref ln, .int (nI S), .ref ma, .int (nI M), .ref ah, .ref bh, .ref ik, .ref la, .ref lg, .ref ce, .int vto])), (st, .inl (G 0, 196, .inl fst)), (ik, .inl (G 2, 2, .inl fik))] sz) [(h0, .inr (11, [.ref st, .int (nI N), .int (nI B), .ref rp, .int vrs, .int vrb, .int vhs, .int vca, .int vxs, .int vxb, .ref tp, .int (nI T), .int vfa, .int vbr, .int vba, .int vsp, .int vhe, .int vtk, .int vva, .ref cu, .ref lt, .ref od, .ref th, .ref be, .ref ln, .int (nI S), .ref ma, .int (nI M), .ref ah, .ref bh, .ref ik, .ref la, .ref lg, .ref ce, .int vto])), (st, .inl (G 0, 196, .inl ost)), (ik, .inl (G 2, 2, .inl oik))]) (va_A [(h0, .inr (11, [.ref st, .int (nI N), .int (nI B), .ref rp, .int vrs, .int vrb, .int vhs, .int vca, .int vxs, .int vxb, .ref tp, .int (nI T), .int vfa, .int vbr, .int vba, .int vsp, .int vhe, .int vtk, .int vva, .ref cu, .ref lt, .ref od, .ref th, .ref be, .ref ln, .int (nI S), .ref ma, .int (nI M), .ref ah, .ref bh, .ref ik, .ref la, .ref lg, .ref ce, .int vto])), (st, .inl (G 0, 196, .inl fst)), (ik, .inl (G 2, 2, .inl fik))] sz)) 0 0 (va_A [(h0, .inr (11, [.ref st, .int (nI N), .int (nI B), .ref rp, .int vrs, .int vrb, .int vhs, .int vca, .int vxs, .int vxb, .ref tp, .int (nI T), .int vfa, .int vbr, .int vba, .int vsp, .int vhe, .int vtk, .int vva, .ref cu, .ref lt, .ref od, .ref th, .ref be, .ref ln, .int (nI S), .ref ma, .int (nI M), .ref ah, .ref bh, .ref ik, .ref la, .ref lg, .ref ce, .int vto])), (st, .inl (G 0, 196, .inl fst)), (ik, .inl (G 2, 2, .inl fik))] sz) := by
  have hB_ := hB
  have hM_ := hM
  have hT_ := hT
  refine Met.ofW (cc := cX11_keep) (maxL := 3) (ret := (some .int)) (by decide) rfl ?_
  intro p e s m args below meth c s₁ Bd hml hv
  obtain ⟨rfl, hsz, hP, hK, hD0⟩ := hv
  have hx := Bd.exec
  have hb := Bd.bytes
  have hr := Bd.returns
  have hg : ∀ w ∈ GT, w.before ([.ref h0, .int k] : List Value).toArray s = true := fun w h => atoms_spec (ws := Cond.code yX11_keep cX11_keep 3 (some .int) :: GT) Bd.pre w (List.mem_cons_of_mem _ h)
  have hown : s.vm.findClass RX11 = some m.cls := findClass_of_methodNamed Bd.named
  have hlocks := Bd.notSynchronized
  subst hsz
  have hD := hD0.self (sz := s.heap.size)
  generalize hAe : va_A [(h0, .inr (11, [.ref st, .int (nI N), .int (nI B), .ref rp, .int vrs, .int vrb, .int vhs, .int vca, .int vxs, .int vxb, .ref tp, .int (nI T), .int vfa, .int vbr, .int vba, .int vsp, .int vhe, .int vtk, .int vva, .ref cu, .ref lt, .ref od, .ref th, .ref be, .ref ln, .int (nI S), .ref ma, .int (nI M), .ref ah, .ref bh, .ref ik, .ref la, .ref lg, .ref ce, .int vto])), (st, .inl (G 0, 196, .inl fst)), (ik, .inl (G 2, 2, .inl fik))] s.heap.size = A at hD ⊢
  have hA : ∀ q : Nat, s.heap.size ≤ q → A q := fun q h => by rw [← hAe]; exact Or.inr h
  have hS : va_S A s.heap s.heap [] := va_S.rf
  have hl := lv_entry ([.ref h0, .int k]) (n := 3) (Nat.le_of_ble_eq_true rfl)
  rw [lg_entry_eq]
  generalize (lg_sl ([.ref h0, .int k]) ++ List.replicate (3 - (lg_sl ([.ref h0, .int k])).length) Slot.unset).toArray = ls at hl ⊢
  have hl : lv_has ls 3 [(0, .ref h0), (1, .int k)] := hl
  refine lv_iload_n hx hb dX11_keep_0 rfl (lv_at hl 1 rfl) ?_
  refine lv_i2l (v := k.toInt64) hx hb dX11_keep_1 rfl ?_
  refine lv_lconst (v := 0) hx hb dX11_keep_2 (by decide) ?_
  refine lv_lconst (v := 1) hx hb dX11_keep_3 (by decide) ?_
  have hPc := hP.sub (ws' := []) [] rfl
  refine va_calli (va_runS (As := [.long k.toInt64, .long 0, .long 1]) (rest := []) ⟨hx, hb, hml, hown, hg⟩ (c_X11_in l dC dI G _ k.toInt64 0 1) (kwS hg mfX11_in wt_992 ⟨Nat.le_of_ble_eq_true rfl, Nat.le_of_ble_eq_true rfl⟩) (preSR hK hPc) rfl rfl hl.1 rfl (lv_room (Nat.le_of_ble_eq_true rfl)) dX11_keep_4 ⟨Nat.le_of_ble_eq_true rfl, Nat.le_of_ble_eq_true rfl⟩) hS (fun q h1 h2 => absurd h2 (Nat.not_le.mpr h1)) (fun q h => hA q (Nat.le_trans hS.1 h)) (fun r1 ur1 t H1 locs ht hvm w2 hB hz1 hk1 hS => ?_)
  have hP := keepR hP hk1
  obtain ⟨w2, w2x⟩ := w2
  try simp only [l_ii, show (0 : Int64).toInt = 0 from by decide, show (1 : Int64).toInt = 1 from by decide] at w2
  subst w2
  refine lv_if_ne (tgt := 12) hx hb dX11_keep_7 (by decide) (fun c3 => ?_) (fun c3 => ?_)
  · skip
    have b4 := if10_p c3
    obtain ⟨kk, hkk, rfl⟩ : ∃ j : Nat, j < 2 ∧ k = nI j := by
      have t_b4 := b4
      have tn2952_ : nIT N := fun _ => nI_toInt (by omega)
      have t_n0 : (nI N).toInt = (N : Int) := tn2952_ ()
      have tn2953_ : nIT B := fun _ => nI_toInt (by omega)
      have t_n1 : (nI B).toInt = (B : Int) := tn2953_ ()
      have tn2954_ : nIT T := fun _ => nI_toInt (by omega)
      have t_n2 : (nI T).toInt = (T : Int) := tn2954_ ()
      have tn2955_ : nIT S := fun _ => nI_toInt (by omega)
      have t_n3 : (nI S).toInt = (S : Int) := tn2955_ ()
      have tn2956_ : nIT M := fun _ => nI_toInt (by omega)
      have t_n4 : (nI M).toInt = (M : Int) := tn2956_ ()
      exact i32_nat (by omega) (by omega)
    refine lv_aload_n hx hb dX11_keep_12 rfl (lv_at hl 0 rfl) ?_
    refine lv_iconst (v := 0) hx hb dX11_keep_13 (by decide) ?_
    refine lv_bipush (v := 49) hx hb dX11_keep_14 (by decide) ?_
    refine lv_iload_n hx hb dX11_keep_16 rfl (lv_at hl 1 rfl) ?_
    refine lv_iconst (v := 1) hx hb dX11_keep_17 (by decide) ?_
    refine lv_iadd hx hb dX11_keep_18 ?_
    refine lv_cg (y := nI (kk + 1)) (by rw [show (1 : Int32) = nI 1 from rfl]; exact nI_add _ _) ?_
    refine lv_imul hx hb dX11_keep_19 ?_
    refine lv_cg (y := nI (49 * (kk + 1))) (by rw [show (49 : Int32) = nI 49 from rfl]; exact pk_mul _ _) ?_
    have hPc := hP.sub (ws' := [(h0, .inr (11, [.ref st, .int (nI N), .int (nI B), .ref rp, .int vrs, .int vrb, .int vhs, .int vca, .int vxs, .int vxb, .ref tp, .int (nI T), .int vfa, .int vbr, .int vba, .int vsp, .int vhe, .int vtk, .int vva, .ref cu, .ref lt, .ref od, .ref th, .ref be, .ref ln, .int (nI S), .ref ma, .int (nI M), .ref ah, .ref bh, .ref ik, .ref la, .ref lg, .ref ce, .int vto])), (st, .inl (G 0, 196, .inl fst))]) [0, 1] rfl
    have hDc := hD.sub (ws' := [(h0, .inr (11, [.ref st, .int (nI N), .int (nI B), .ref rp, .int vrs, .int vrb, .int vhs, .int vca, .int vxs, .int vxb, .ref tp, .int (nI T), .int vfa, .int vbr, .int vba, .int vsp, .int vhe, .int vtk, .int vva, .ref cu, .ref lt, .ref od, .ref th, .ref be, .ref ln, .int (nI S), .ref ma, .int (nI M), .ref ah, .ref bh, .ref ik, .ref la, .ref lg, .ref ce, .int vto])), (st, .inl (G 0, 196, .inl fst))]) [0, 1] (by decide) rfl
    have hFc := va_free (wc := [(h0, .inr (11, [.ref st, .int (nI N), .int (nI B), .ref rp, .int vrs, .int vrb, .int vhs, .int vca, .int vxs, .int vxb, .ref tp, .int (nI T), .int vfa, .int vbr, .int vba, .int vsp, .int vhe, .int vtk, .int vva, .ref cu, .ref lt, .ref od, .ref th, .ref be, .ref ln, .int (nI S), .ref ma, .int (nI M), .ref ah, .ref bh, .ref ik, .ref la, .ref lg, .ref ce, .int vto])), (st, .inl (G 0, 196, .inl fst))]) hD hS hA [0, 1] rfl
    have tn2957_ : nIT N := fun _ => nI_toInt (by first | omega | (have t_b4 := b4; have t_hkk := hkk; omega))
    have tn2958_ : nIT B := fun _ => nI_toInt (by first | omega | (have t_b4 := b4; have t_hkk := hkk; omega))
    have tn2959_ : nIT T := fun _ => nI_toInt (by first | omega | (have t_b4 := b4; have t_hkk := hkk; omega))
    have tn2960_ : nIT S := fun _ => nI_toInt (by first | omega | (have t_b4 := b4; have t_hkk := hkk; omega))
    have tn2961_ : nIT M := fun _ => nI_toInt (by first | omega | (have t_b4 := b4; have t_hkk := hkk; omega))
    have tn2962_ : nIT kk := fun _ => nI_toInt (by first | omega | (have t_b4 := b4; have t_hkk := hkk; omega))
    refine va_callv (va_runV (As := [.int 0, .int (nI (49 * (kk + 1)))]) (rest := []) ⟨hx, hb, hml, hown, hg⟩ (c_X11_copiesW l dC dI G _ h0 0 (49 * (kk + 1)) st N B rp tp T cu lt od th be ln S ma M ah bh ik la lg ce vrs vrb vhs vca vxs vxb vfa vbr vba vsp vhe vtk vva vto fst hN hB_ hT_ hS0 hM_ hst (by first | omega | (have t_b4 := b4; have t_hkk := hkk; have t_n0 : (nI N).toInt = (N : Int) := tn2957_ (); have t_n1 : (nI B).toInt = (B : Int) := tn2958_ (); have t_n2 : (nI T).toInt = (T : Int) := tn2959_ (); have t_n3 : (nI S).toInt = (S : Int) := tn2960_ (); have t_n4 : (nI M).toInt = (M : Int) := tn2961_ (); have t_n5 : (nI kk).toInt = (kk : Int) := tn2962_ (); omega)) (by first | omega | (have t_b4 := b4; have t_hkk := hkk; have t_n0 : (nI N).toInt = (N : Int) := tn2957_ (); have t_n1 : (nI B).toInt = (B : Int) := tn2958_ (); have t_n2 : (nI T).toInt = (T : Int) := tn2959_ (); have t_n3 : (nI S).toInt = (S : Int) := tn2960_ (); have t_n4 : (nI M).toInt = (M : Int) := tn2961_ (); have t_n5 : (nI kk).toInt = (kk : Int) := tn2962_ (); omega)) (by first | omega | (have t_b4 := b4; have t_hkk := hkk; have t_n0 : (nI N).toInt = (N : Int) := tn2957_ (); have t_n1 : (nI B).toInt = (B : Int) := tn2958_ (); have t_n2 : (nI T).toInt = (T : Int) := tn2959_ (); have t_n3 : (nI S).toInt = (S : Int) := tn2960_ (); have t_n4 : (nI M).toInt = (M : Int) := tn2961_ (); have t_n5 : (nI kk).toInt = (kk : Int) := tn2962_ (); omega))) (kwV hg mfX11_copies wt_1248 ⟨Nat.le_of_ble_eq_true rfl, Nat.le_of_ble_eq_true rfl⟩) (preVW hK hPc hDc (ci := 11) rfl rfl) rfl rfl hl.1 rfl (lv_room (Nat.le_of_ble_eq_true rfl)) dX11_keep_20 ⟨Nat.le_of_ble_eq_true rfl, Nat.le_of_ble_eq_true rfl⟩) hS (fun q _ h => hFc q h) hFc (fun ur5 t H1 locs ht hvm w6 hB hz1 hk1 hS => ?_)
    obtain ⟨u7, rfl⟩ : ∃ z, z = ur5 := ⟨_, rfl⟩
    obtain ⟨hP1, hD1⟩ := hB
    rw [ht] at hP1
    obtain ⟨hP, hD⟩ := va_join (wr := [(ik, .inl (G 2, 2, .inl fik))]) (w1 := [(h0, .inr (11, [.ref st, .int (nI N), .int (nI B), .ref rp, .int vrs, .int vrb, .int vhs, .int vca, .int vxs, .int vxb, .ref tp, .int (nI T), .int vfa, .int vbr, .int vba, .int vsp, .int vhe, .int vtk, .int vva, .ref cu, .ref lt, .ref od, .ref th, .ref be, .ref ln, .int (nI S), .ref ma, .int (nI M), .ref ah, .ref bh, .ref ik, .ref la, .ref lg, .ref ce, .int vto])), (st, .inl (G 0, 196, .inl u7))]) hP hD [0, 1] [2] rfl rfl (by decide) (by decide) hk1 hFc hP1 hD1
    have w6 : OKS u7 ∧ u7 = cpj 0 (49 * (kk + 1)) 49 fst := w6
    generalize H1 = H at hP hS ⊢
    have hP : va_P (dC, dI) vwCl [(ik, .inl (G 2, 2, .inl fik)), (h0, .inr (11, [.ref st, .int (nI N), .int (nI B), .ref rp, .int vrs, .int vrb, .int vhs, .int vca, .int vxs, .int vxb, .ref tp, .int (nI T), .int vfa, .int vbr, .int vba, .int vsp, .int vhe, .int vtk, .int vva, .ref cu, .ref lt, .ref od, .ref th, .ref be, .ref ln, .int (nI S), .ref ma, .int (nI M), .ref ah, .ref bh, .ref ik, .ref la, .ref lg, .ref ce, .int vto])), (st, .inl (G 0, 196, .inl u7))] H := hP
    have hD : va_D A [(ik, .inl (G 2, 2, .inl fik)), (h0, .inr (11, [.ref st, .int (nI N), .int (nI B), .ref rp, .int vrs, .int vrb, .int vhs, .int vca, .int vxs, .int vxb, .ref tp, .int (nI T), .int vfa, .int vbr, .int vba, .int vsp, .int vhe, .int vtk, .int vva, .ref cu, .ref lt, .ref od, .ref th, .ref be, .ref ln, .int (nI S), .ref ma, .int (nI M), .ref ah, .ref bh, .ref ik, .ref la, .ref lg, .ref ce, .int vto])), (st, .inl (G 0, 196, .inl u7))] := hD
    refine lv_aload_n hx hb dX11_keep_23 rfl (lv_at hl 0 rfl) ?_
    refine va_get (D := (dC, dI)) (ci := 11) (v := .ref ik) (C := RX11) (T := TX11) (N := 35) hx hb hg inG11 hown hK.1 hP 1 rfl rfl 30 (by decide) (hg _ wt_908) (fun _ h9 => h9) rfl dX11_keep_24 ?_
    refine lv_iload_n hx hb dX11_keep_27 rfl (lv_at hl 1 rfl) ?_
    refine va_zald hx hb hK.1 hP 0 2 rfl rfl (vp_in_nI (by first | omega | (have t_b4 := b4; have t_hkk := hkk; have t_n0 : (nI N).toInt = (N : Int) := tn2957_ (); have t_n1 : (nI B).toInt = (B : Int) := tn2958_ (); have t_n2 : (nI T).toInt = (T : Int) := tn2959_ (); have t_n3 : (nI S).toInt = (S : Int) := tn2960_ (); have t_n4 : (nI M).toInt = (M : Int) := tn2961_ (); have t_n5 : (nI kk).toInt = (kk : Int) := tn2962_ (); omega)) (by decide)) dX11_keep_28 ?_
    refine lv_cg (y := fik kk) (by rw [nI_clamp (by omega)]) ?_
    refine lv_if_eq (tgt := 36) hx hb dX11_keep_29 (by decide) (fun c8 => ?_) (fun c8 => ?_)
    · skip
      refine lv_iconst (v := 0) hx hb dX11_keep_36 (by decide) ?_
      refine lv_istore_n (lv' := [(2, .int 0), (0, .ref h0), (1, .int (nI kk))]) hx hb dX11_keep_37 rfl hl (by decide) rfl (fun ls hl => ?_)
      refine lv_aload_n hx hb dX11_keep_38 rfl (lv_at hl 1 rfl) ?_
      refine va_get (D := (dC, dI)) (ci := 11) (v := .ref ik) (C := RX11) (T := TX11) (N := 35) hx hb hg inG11 hown hK.1 hP 1 rfl rfl 30 (by decide) (hg _ wt_908) (fun _ h9 => h9) rfl dX11_keep_39 ?_
      refine lv_iload_n hx hb dX11_keep_42 rfl (lv_at hl 2 rfl) ?_
      refine lv_iconst (v := 1) hx hb dX11_keep_43 (by decide) ?_
      refine va_zast hx hb hK.1 hP hD hS 0 2 rfl rfl (vp_in_nI (by first | omega | (have t_b4 := b4; have t_hkk := hkk; have t_c8 := eqI c8; have : (0 : Int32).toInt = 0 := qI_0; have t_n0 : (nI N).toInt = (N : Int) := tn2957_ (); have t_n1 : (nI B).toInt = (B : Int) := tn2958_ (); have t_n2 : (nI T).toInt = (T : Int) := tn2959_ (); have t_n3 : (nI S).toInt = (S : Int) := tn2960_ (); have t_n4 : (nI M).toInt = (M : Int) := tn2961_ (); have t_n5 : (nI kk).toInt = (kk : Int) := tn2962_ (); omega)) (by decide)) dX11_keep_44 (fun H locs hP hD hS => ?_)
      rw [nI_clamp (by omega)] at hP hD
      have hP : va_P (dC, dI) vwCl [(ik, .inl (G 2, 2, .inl (upd fik kk (vp_nar .boolean 1)))), (h0, .inr (11, [.ref st, .int (nI N), .int (nI B), .ref rp, .int vrs, .int vrb, .int vhs, .int vca, .int vxs, .int vxb, .ref tp, .int (nI T), .int vfa, .int vbr, .int vba, .int vsp, .int vhe, .int vtk, .int vva, .ref cu, .ref lt, .ref od, .ref th, .ref be, .ref ln, .int (nI S), .ref ma, .int (nI M), .ref ah, .ref bh, .ref ik, .ref la, .ref lg, .ref ce, .int vto])), (st, .inl (G 0, 196, .inl u7))] H := hP
      have hD : va_D A [(ik, .inl (G 2, 2, .inl (upd fik kk (vp_nar .boolean 1)))), (h0, .inr (11, [.ref st, .int (nI N), .int (nI B), .ref rp, .int vrs, .int vrb, .int vhs, .int vca, .int vxs, .int vxb, .ref tp, .int (nI T), .int vfa, .int vbr, .int vba, .int vsp, .int vhe, .int vtk, .int vva, .ref cu, .ref lt, .ref od, .ref th, .ref be, .ref ln, .int (nI S), .ref ma, .int (nI M), .ref ah, .ref bh, .ref ik, .ref la, .ref lg, .ref ce, .int vto])), (st, .inl (G 0, 196, .inl u7))] := hD
      refine lv_iload_n hx hb dX11_keep_45 rfl (lv_at hl 0 rfl) ?_
      have hpost : (0 : Int32) = if (0 ≤ (nI kk).toInt ∧ (nI kk).toInt < 2) then (if fik (nI kk).toNatClampNeg = 0 then 0 else 1) else -1 := by
        first | (rw [if_neg (by (have t_b4 := b4; have t_hkk := hkk; have t_c8 := eqI c8; have : (0 : Int32).toInt = 0 := qI_0; have t_n0 : (nI N).toInt = (N : Int) := tn2957_ (); have t_n1 : (nI B).toInt = (B : Int) := tn2958_ (); have t_n2 : (nI T).toInt = (T : Int) := tn2959_ (); have t_n3 : (nI S).toInt = (S : Int) := tn2960_ (); have t_n4 : (nI M).toInt = (M : Int) := tn2961_ (); have t_n5 : (nI kk).toInt = (kk : Int) := tn2962_ (); have z0 : (0 : Int32).toInt = 0 := qI_0; have z1 : (1 : Int32).toInt = 1 := qI_1; have z2 : (2 : Int32).toInt = 2 := qI_2; have z3 : (3 : Int32).toInt = 3 := qI_3; have z5 : (5 : Int32).toInt = 5 := qI_5; have z9 : (9 : Int32).toInt = 9 := qI_9; have z20 : (20 : Int32).toInt = 20 := qI_20; have z4 : (-4 : Int32).toInt = -4 := (by decide); have z10 : (10 : Int32).toInt = 10 := qI_10; omega))]; done) | (rw [if_pos (by (have t_b4 := b4; have t_hkk := hkk; have t_c8 := eqI c8; have : (0 : Int32).toInt = 0 := qI_0; have t_n0 : (nI N).toInt = (N : Int) := tn2957_ (); have t_n1 : (nI B).toInt = (B : Int) := tn2958_ (); have t_n2 : (nI T).toInt = (T : Int) := tn2959_ (); have t_n3 : (nI S).toInt = (S : Int) := tn2960_ (); have t_n4 : (nI M).toInt = (M : Int) := tn2961_ (); have t_n5 : (nI kk).toInt = (kk : Int) := tn2962_ (); have z0 : (0 : Int32).toInt = 0 := qI_0; have z1 : (1 : Int32).toInt = 1 := qI_1; have z2 : (2 : Int32).toInt = 2 := qI_2; have z3 : (3 : Int32).toInt = 3 := qI_3; have z5 : (5 : Int32).toInt = 5 := qI_5; have z9 : (9 : Int32).toInt = 9 := qI_9; have z20 : (20 : Int32).toInt = 20 := qI_20; have z4 : (-4 : Int32).toInt = -4 := (by decide); have z10 : (10 : Int32).toInt = 10 := qI_10; omega)), nI_clamp (by (have t_b4 := b4; have t_hkk := hkk; have t_c8 := eqI c8; have : (0 : Int32).toInt = 0 := qI_0; have t_n0 : (nI N).toInt = (N : Int) := tn2957_ (); have t_n1 : (nI B).toInt = (B : Int) := tn2958_ (); have t_n2 : (nI T).toInt = (T : Int) := tn2959_ (); have t_n3 : (nI S).toInt = (S : Int) := tn2960_ (); have t_n4 : (nI M).toInt = (M : Int) := tn2961_ (); have t_n5 : (nI kk).toInt = (kk : Int) := tn2962_ (); have z0 : (0 : Int32).toInt = 0 := qI_0; have z1 : (1 : Int32).toInt = 1 := qI_1; have z2 : (2 : Int32).toInt = 2 := qI_2; have z3 : (3 : Int32).toInt = 3 := qI_3; have z5 : (5 : Int32).toInt = 5 := qI_5; have z9 : (9 : Int32).toInt = 9 := qI_9; have z20 : (20 : Int32).toInt = 20 := qI_20; have z4 : (-4 : Int32).toInt = -4 := (by decide); have z10 : (10 : Int32).toInt = 10 := qI_10; omega))]; first | (rw [if_pos (by assumption)]; done) | (rw [if_neg (by assumption)]; done))
      have hP9 := hP.sub (ws' := [(h0, .inr (11, [.ref st, .int (nI N), .int (nI B), .ref rp, .int vrs, .int vrb, .int vhs, .int vca, .int vxs, .int vxb, .ref tp, .int (nI T), .int vfa, .int vbr, .int vba, .int vsp, .int vhe, .int vtk, .int vva, .ref cu, .ref lt, .ref od, .ref th, .ref be, .ref ln, .int (nI S), .ref ma, .int (nI M), .ref ah, .ref bh, .ref ik, .ref la, .ref lg, .ref ce, .int vto])), (st, .inl (G 0, 196, .inl u7)), (ik, .inl (G 2, 2, .inl (upd fik kk (vp_nar .boolean 1))))]) [1, 2, 0] rfl
      have hD9 := hD.sub (ws' := [(h0, .inr (11, [.ref st, .int (nI N), .int (nI B), .ref rp, .int vrs, .int vrb, .int vhs, .int vca, .int vxs, .int vxb, .ref tp, .int (nI T), .int vfa, .int vbr, .int vba, .int vsp, .int vhe, .int vtk, .int vva, .ref cu, .ref lt, .ref od, .ref th, .ref be, .ref ln, .int (nI S), .ref ma, .int (nI M), .ref ah, .ref bh, .ref ik, .ref la, .ref lg, .ref ce, .int vto])), (st, .inl (G 0, 196, .inl u7)), (ik, .inl (G 2, 2, .inl (upd fik kk (vp_nar .boolean 1))))]) [1, 2, 0] (by decide) rfl
      refine W.widen (k := 0) (n := 0) (Nat.le_of_ble_eq_true rfl) (Nat.le_of_ble_eq_true rfl) ?_
      exact W.iret (v := 0) hx hb hr (fun t ht hW => ⟨⟨0, (u7, (upd fik kk (vp_nar .boolean 1))), rfl, ⟨hpost, ⟨w6.1, (by have t_b4 := b4; have t_hkk := hkk; have t_c8 := eqI c8; have : (0 : Int32).toInt = 0 := qI_0; have t_n0 : (nI N).toInt = (N : Int) := tn2957_ (); have t_n1 : (nI B).toInt = (B : Int) := tn2958_ (); have t_n2 : (nI T).toInt = (T : Int) := tn2959_ (); have t_n3 : (nI S).toInt = (S : Int) := tn2960_ (); have t_n4 : (nI M).toInt = (M : Int) := tn2961_ (); have t_n5 : (nI kk).toInt = (kk : Int) := tn2962_ (); have z0 : (0 : Int32).toInt = 0 := qI_0; have z1 : (1 : Int32).toInt = 1 := qI_1; have z2 : (2 : Int32).toInt = 2 := qI_2; have z3 : (3 : Int32).toInt = 3 := qI_3; have z5 : (5 : Int32).toInt = 5 := qI_5; have z9 : (9 : Int32).toInt = 9 := qI_9; have z20 : (20 : Int32).toInt = 20 := qI_20; have z4 : (-4 : Int32).toInt = -4 := (by decide); have z10 : (10 : Int32).toInt = 10 := qI_10; rw [if_pos (by omega), nI_clamp (by omega)]; first | done | rfl), (by have t_b4 := b4; have t_hkk := hkk; have t_c8 := eqI c8; have : (0 : Int32).toInt = 0 := qI_0; have t_n0 : (nI N).toInt = (N : Int) := tn2957_ (); have t_n1 : (nI B).toInt = (B : Int) := tn2958_ (); have t_n2 : (nI T).toInt = (T : Int) := tn2959_ (); have t_n3 : (nI S).toInt = (S : Int) := tn2960_ (); have t_n4 : (nI M).toInt = (M : Int) := tn2961_ (); have t_n5 : (nI kk).toInt = (kk : Int) := tn2962_ (); have z0 : (0 : Int32).toInt = 0 := qI_0; have z1 : (1 : Int32).toInt = 1 := qI_1; have z2 : (2 : Int32).toInt = 2 := qI_2; have z3 : (3 : Int32).toInt = 3 := qI_3; have z5 : (5 : Int32).toInt = 5 := qI_5; have z9 : (9 : Int32).toInt = 9 := qI_9; have z20 : (20 : Int32).toInt = 20 := qI_20; have z4 : (-4 : Int32).toInt = -4 := (by decide); have z10 : (10 : Int32).toInt = 10 := qI_10; rw [if_pos (by omega), nI_clamp (by omega)]; exact w6.2)⟩⟩, ⟨by rw [ht]; exact hP9, hD9⟩⟩, hS.F ht⟩) hS.2.2 dX11_keep_46
    · skip
      refine lv_iconst (v := 1) hx hb dX11_keep_32 (by decide) ?_
      refine lv_goto (tgt := 37) hx hb dX11_keep_33 (by decide) ?_
      refine lv_istore_n (lv' := [(2, .int 1), (0, .ref h0), (1, .int (nI kk))]) hx hb dX11_keep_37 rfl hl (by decide) rfl (fun ls hl => ?_)
      refine lv_aload_n hx hb dX11_keep_38 rfl (lv_at hl 1 rfl) ?_
      refine va_get (D := (dC, dI)) (ci := 11) (v := .ref ik) (C := RX11) (T := TX11) (N := 35) hx hb hg inG11 hown hK.1 hP 1 rfl rfl 30 (by decide) (hg _ wt_908) (fun _ h9 => h9) rfl dX11_keep_39 ?_
      refine lv_iload_n hx hb dX11_keep_42 rfl (lv_at hl 2 rfl) ?_
      refine lv_iconst (v := 1) hx hb dX11_keep_43 (by decide) ?_
      refine va_zast hx hb hK.1 hP hD hS 0 2 rfl rfl (vp_in_nI (by first | omega | (have t_b4 := b4; have t_hkk := hkk; have t_c8 := neI c8; have : (0 : Int32).toInt = 0 := qI_0; have t_n0 : (nI N).toInt = (N : Int) := tn2957_ (); have t_n1 : (nI B).toInt = (B : Int) := tn2958_ (); have t_n2 : (nI T).toInt = (T : Int) := tn2959_ (); have t_n3 : (nI S).toInt = (S : Int) := tn2960_ (); have t_n4 : (nI M).toInt = (M : Int) := tn2961_ (); have t_n5 : (nI kk).toInt = (kk : Int) := tn2962_ (); omega)) (by decide)) dX11_keep_44 (fun H locs hP hD hS => ?_)
      rw [nI_clamp (by omega)] at hP hD
      have hP : va_P (dC, dI) vwCl [(ik, .inl (G 2, 2, .inl (upd fik kk (vp_nar .boolean 1)))), (h0, .inr (11, [.ref st, .int (nI N), .int (nI B), .ref rp, .int vrs, .int vrb, .int vhs, .int vca, .int vxs, .int vxb, .ref tp, .int (nI T), .int vfa, .int vbr, .int vba, .int vsp, .int vhe, .int vtk, .int vva, .ref cu, .ref lt, .ref od, .ref th, .ref be, .ref ln, .int (nI S), .ref ma, .int (nI M), .ref ah, .ref bh, .ref ik, .ref la, .ref lg, .ref ce, .int vto])), (st, .inl (G 0, 196, .inl u7))] H := hP
      have hD : va_D A [(ik, .inl (G 2, 2, .inl (upd fik kk (vp_nar .boolean 1)))), (h0, .inr (11, [.ref st, .int (nI N), .int (nI B), .ref rp, .int vrs, .int vrb, .int vhs, .int vca, .int vxs, .int vxb, .ref tp, .int (nI T), .int vfa, .int vbr, .int vba, .int vsp, .int vhe, .int vtk, .int vva, .ref cu, .ref lt, .ref od, .ref th, .ref be, .ref ln, .int (nI S), .ref ma, .int (nI M), .ref ah, .ref bh, .ref ik, .ref la, .ref lg, .ref ce, .int vto])), (st, .inl (G 0, 196, .inl u7))] := hD
      refine lv_iload_n hx hb dX11_keep_45 rfl (lv_at hl 0 rfl) ?_
      have hpost : (1 : Int32) = if (0 ≤ (nI kk).toInt ∧ (nI kk).toInt < 2) then (if fik (nI kk).toNatClampNeg = 0 then 0 else 1) else -1 := by
        first | (rw [if_neg (by (have t_b4 := b4; have t_hkk := hkk; have t_c8 := neI c8; have : (0 : Int32).toInt = 0 := qI_0; have t_n0 : (nI N).toInt = (N : Int) := tn2957_ (); have t_n1 : (nI B).toInt = (B : Int) := tn2958_ (); have t_n2 : (nI T).toInt = (T : Int) := tn2959_ (); have t_n3 : (nI S).toInt = (S : Int) := tn2960_ (); have t_n4 : (nI M).toInt = (M : Int) := tn2961_ (); have t_n5 : (nI kk).toInt = (kk : Int) := tn2962_ (); have z0 : (0 : Int32).toInt = 0 := qI_0; have z1 : (1 : Int32).toInt = 1 := qI_1; have z2 : (2 : Int32).toInt = 2 := qI_2; have z3 : (3 : Int32).toInt = 3 := qI_3; have z5 : (5 : Int32).toInt = 5 := qI_5; have z9 : (9 : Int32).toInt = 9 := qI_9; have z20 : (20 : Int32).toInt = 20 := qI_20; have z4 : (-4 : Int32).toInt = -4 := (by decide); have z10 : (10 : Int32).toInt = 10 := qI_10; omega))]; done) | (rw [if_pos (by (have t_b4 := b4; have t_hkk := hkk; have t_c8 := neI c8; have : (0 : Int32).toInt = 0 := qI_0; have t_n0 : (nI N).toInt = (N : Int) := tn2957_ (); have t_n1 : (nI B).toInt = (B : Int) := tn2958_ (); have t_n2 : (nI T).toInt = (T : Int) := tn2959_ (); have t_n3 : (nI S).toInt = (S : Int) := tn2960_ (); have t_n4 : (nI M).toInt = (M : Int) := tn2961_ (); have t_n5 : (nI kk).toInt = (kk : Int) := tn2962_ (); have z0 : (0 : Int32).toInt = 0 := qI_0; have z1 : (1 : Int32).toInt = 1 := qI_1; have z2 : (2 : Int32).toInt = 2 := qI_2; have z3 : (3 : Int32).toInt = 3 := qI_3; have z5 : (5 : Int32).toInt = 5 := qI_5; have z9 : (9 : Int32).toInt = 9 := qI_9; have z20 : (20 : Int32).toInt = 20 := qI_20; have z4 : (-4 : Int32).toInt = -4 := (by decide); have z10 : (10 : Int32).toInt = 10 := qI_10; omega)), nI_clamp (by (have t_b4 := b4; have t_hkk := hkk; have t_c8 := neI c8; have : (0 : Int32).toInt = 0 := qI_0; have t_n0 : (nI N).toInt = (N : Int) := tn2957_ (); have t_n1 : (nI B).toInt = (B : Int) := tn2958_ (); have t_n2 : (nI T).toInt = (T : Int) := tn2959_ (); have t_n3 : (nI S).toInt = (S : Int) := tn2960_ (); have t_n4 : (nI M).toInt = (M : Int) := tn2961_ (); have t_n5 : (nI kk).toInt = (kk : Int) := tn2962_ (); have z0 : (0 : Int32).toInt = 0 := qI_0; have z1 : (1 : Int32).toInt = 1 := qI_1; have z2 : (2 : Int32).toInt = 2 := qI_2; have z3 : (3 : Int32).toInt = 3 := qI_3; have z5 : (5 : Int32).toInt = 5 := qI_5; have z9 : (9 : Int32).toInt = 9 := qI_9; have z20 : (20 : Int32).toInt = 20 := qI_20; have z4 : (-4 : Int32).toInt = -4 := (by decide); have z10 : (10 : Int32).toInt = 10 := qI_10; omega))]; first | (rw [if_pos (by assumption)]; done) | (rw [if_neg (by assumption)]; done))
      have hP9 := hP.sub (ws' := [(h0, .inr (11, [.ref st, .int (nI N), .int (nI B), .ref rp, .int vrs, .int vrb, .int vhs, .int vca, .int vxs, .int vxb, .ref tp, .int (nI T), .int vfa, .int vbr, .int vba, .int vsp, .int vhe, .int vtk, .int vva, .ref cu, .ref lt, .ref od, .ref th, .ref be, .ref ln, .int (nI S), .ref ma, .int (nI M), .ref ah, .ref bh, .ref ik, .ref la, .ref lg, .ref ce, .int vto])), (st, .inl (G 0, 196, .inl u7)), (ik, .inl (G 2, 2, .inl (upd fik kk (vp_nar .boolean 1))))]) [1, 2, 0] rfl
      have hD9 := hD.sub (ws' := [(h0, .inr (11, [.ref st, .int (nI N), .int (nI B), .ref rp, .int vrs, .int vrb, .int vhs, .int vca, .int vxs, .int vxb, .ref tp, .int (nI T), .int vfa, .int vbr, .int vba, .int vsp, .int vhe, .int vtk, .int vva, .ref cu, .ref lt, .ref od, .ref th, .ref be, .ref ln, .int (nI S), .ref ma, .int (nI M), .ref ah, .ref bh, .ref ik, .ref la, .ref lg, .ref ce, .int vto])), (st, .inl (G 0, 196, .inl u7)), (ik, .inl (G 2, 2, .inl (upd fik kk (vp_nar .boolean 1))))]) [1, 2, 0] (by decide) rfl
      refine W.widen (k := 0) (n := 0) (Nat.le_of_ble_eq_true rfl) (Nat.le_of_ble_eq_true rfl) ?_
      exact W.iret (v := 1) hx hb hr (fun t ht hW => ⟨⟨1, (u7, (upd fik kk (vp_nar .boolean 1))), rfl, ⟨hpost, ⟨w6.1, (by have t_b4 := b4; have t_hkk := hkk; have t_c8 := neI c8; have : (0 : Int32).toInt = 0 := qI_0; have t_n0 : (nI N).toInt = (N : Int) := tn2957_ (); have t_n1 : (nI B).toInt = (B : Int) := tn2958_ (); have t_n2 : (nI T).toInt = (T : Int) := tn2959_ (); have t_n3 : (nI S).toInt = (S : Int) := tn2960_ (); have t_n4 : (nI M).toInt = (M : Int) := tn2961_ (); have t_n5 : (nI kk).toInt = (kk : Int) := tn2962_ (); have z0 : (0 : Int32).toInt = 0 := qI_0; have z1 : (1 : Int32).toInt = 1 := qI_1; have z2 : (2 : Int32).toInt = 2 := qI_2; have z3 : (3 : Int32).toInt = 3 := qI_3; have z5 : (5 : Int32).toInt = 5 := qI_5; have z9 : (9 : Int32).toInt = 9 := qI_9; have z20 : (20 : Int32).toInt = 20 := qI_20; have z4 : (-4 : Int32).toInt = -4 := (by decide); have z10 : (10 : Int32).toInt = 10 := qI_10; rw [if_pos (by omega), nI_clamp (by omega)]; first | done | rfl), (by have t_b4 := b4; have t_hkk := hkk; have t_c8 := neI c8; have : (0 : Int32).toInt = 0 := qI_0; have t_n0 : (nI N).toInt = (N : Int) := tn2957_ (); have t_n1 : (nI B).toInt = (B : Int) := tn2958_ (); have t_n2 : (nI T).toInt = (T : Int) := tn2959_ (); have t_n3 : (nI S).toInt = (S : Int) := tn2960_ (); have t_n4 : (nI M).toInt = (M : Int) := tn2961_ (); have t_n5 : (nI kk).toInt = (kk : Int) := tn2962_ (); have z0 : (0 : Int32).toInt = 0 := qI_0; have z1 : (1 : Int32).toInt = 1 := qI_1; have z2 : (2 : Int32).toInt = 2 := qI_2; have z3 : (3 : Int32).toInt = 3 := qI_3; have z5 : (5 : Int32).toInt = 5 := qI_5; have z9 : (9 : Int32).toInt = 9 := qI_9; have z20 : (20 : Int32).toInt = 20 := qI_20; have z4 : (-4 : Int32).toInt = -4 := (by decide); have z10 : (10 : Int32).toInt = 10 := qI_10; rw [if_pos (by omega), nI_clamp (by omega)]; exact w6.2)⟩⟩, ⟨by rw [ht]; exact hP9, hD9⟩⟩, hS.F ht⟩) hS.2.2 dX11_keep_46
  · skip
    have b9 := if10_n c3
    refine lv_iconst (v := (-1)) hx hb dX11_keep_10 (by decide) ?_
    have hpost : ((-1) : Int32) = if (0 ≤ k.toInt ∧ k.toInt < 2) then (if fik k.toNatClampNeg = 0 then 0 else 1) else -1 := by
      have tn2963_ : nIT N := fun _ => nI_toInt (by omega)
      have tn2964_ : nIT B := fun _ => nI_toInt (by omega)
      have tn2965_ : nIT T := fun _ => nI_toInt (by omega)
      have tn2966_ : nIT S := fun _ => nI_toInt (by omega)
      have tn2967_ : nIT M := fun _ => nI_toInt (by omega)
      first | (rw [if_neg (by (have t_b9 := b9; have t_n0 : (nI N).toInt = (N : Int) := tn2963_ (); have t_n1 : (nI B).toInt = (B : Int) := tn2964_ (); have t_n2 : (nI T).toInt = (T : Int) := tn2965_ (); have t_n3 : (nI S).toInt = (S : Int) := tn2966_ (); have t_n4 : (nI M).toInt = (M : Int) := tn2967_ (); have z0 : (0 : Int32).toInt = 0 := qI_0; have z1 : (1 : Int32).toInt = 1 := qI_1; have z2 : (2 : Int32).toInt = 2 := qI_2; have z3 : (3 : Int32).toInt = 3 := qI_3; have z5 : (5 : Int32).toInt = 5 := qI_5; have z9 : (9 : Int32).toInt = 9 := qI_9; have z20 : (20 : Int32).toInt = 20 := qI_20; have z4 : (-4 : Int32).toInt = -4 := (by decide); have z10 : (10 : Int32).toInt = 10 := qI_10; omega))]; done) | (rw [if_pos (by (have t_b9 := b9; have t_n0 : (nI N).toInt = (N : Int) := tn2963_ (); have t_n1 : (nI B).toInt = (B : Int) := tn2964_ (); have t_n2 : (nI T).toInt = (T : Int) := tn2965_ (); have t_n3 : (nI S).toInt = (S : Int) := tn2966_ (); have t_n4 : (nI M).toInt = (M : Int) := tn2967_ (); have z0 : (0 : Int32).toInt = 0 := qI_0; have z1 : (1 : Int32).toInt = 1 := qI_1; have z2 : (2 : Int32).toInt = 2 := qI_2; have z3 : (3 : Int32).toInt = 3 := qI_3; have z5 : (5 : Int32).toInt = 5 := qI_5; have z9 : (9 : Int32).toInt = 9 := qI_9; have z20 : (20 : Int32).toInt = 20 := qI_20; have z4 : (-4 : Int32).toInt = -4 := (by decide); have z10 : (10 : Int32).toInt = 10 := qI_10; omega)), nI_clamp (by (have t_b9 := b9; have t_n0 : (nI N).toInt = (N : Int) := tn2963_ (); have t_n1 : (nI B).toInt = (B : Int) := tn2964_ (); have t_n2 : (nI T).toInt = (T : Int) := tn2965_ (); have t_n3 : (nI S).toInt = (S : Int) := tn2966_ (); have t_n4 : (nI M).toInt = (M : Int) := tn2967_ (); have z0 : (0 : Int32).toInt = 0 := qI_0; have z1 : (1 : Int32).toInt = 1 := qI_1; have z2 : (2 : Int32).toInt = 2 := qI_2; have z3 : (3 : Int32).toInt = 3 := qI_3; have z5 : (5 : Int32).toInt = 5 := qI_5; have z9 : (9 : Int32).toInt = 9 := qI_9; have z20 : (20 : Int32).toInt = 20 := qI_20; have z4 : (-4 : Int32).toInt = -4 := (by decide); have z10 : (10 : Int32).toInt = 10 := qI_10; omega))]; first | (rw [if_pos (by assumption)]; done) | (rw [if_neg (by assumption)]; done))
    have hP9 := hP.sub (ws' := [(h0, .inr (11, [.ref st, .int (nI N), .int (nI B), .ref rp, .int vrs, .int vrb, .int vhs, .int vca, .int vxs, .int vxb, .ref tp, .int (nI T), .int vfa, .int vbr, .int vba, .int vsp, .int vhe, .int vtk, .int vva, .ref cu, .ref lt, .ref od, .ref th, .ref be, .ref ln, .int (nI S), .ref ma, .int (nI M), .ref ah, .ref bh, .ref ik, .ref la, .ref lg, .ref ce, .int vto])), (st, .inl (G 0, 196, .inl fst)), (ik, .inl (G 2, 2, .inl fik))]) [0, 1, 2] rfl
    have hD9 := hD.sub (ws' := [(h0, .inr (11, [.ref st, .int (nI N), .int (nI B), .ref rp, .int vrs, .int vrb, .int vhs, .int vca, .int vxs, .int vxb, .ref tp, .int (nI T), .int vfa, .int vbr, .int vba, .int vsp, .int vhe, .int vtk, .int vva, .ref cu, .ref lt, .ref od, .ref th, .ref be, .ref ln, .int (nI S), .ref ma, .int (nI M), .ref ah, .ref bh, .ref ik, .ref la, .ref lg, .ref ce, .int vto])), (st, .inl (G 0, 196, .inl fst)), (ik, .inl (G 2, 2, .inl fik))]) [0, 1, 2] (by decide) rfl
    refine W.widen (k := 0) (n := 0) (Nat.le_of_ble_eq_true rfl) (Nat.le_of_ble_eq_true rfl) ?_
    have tn2968_ : nIT N := fun _ => nI_toInt (by first | omega | (have t_b9 := b9; omega))
    have tn2969_ : nIT B := fun _ => nI_toInt (by first | omega | (have t_b9 := b9; omega))
    have tn2970_ : nIT T := fun _ => nI_toInt (by first | omega | (have t_b9 := b9; omega))
    have tn2971_ : nIT S := fun _ => nI_toInt (by first | omega | (have t_b9 := b9; omega))
    have tn2972_ : nIT M := fun _ => nI_toInt (by first | omega | (have t_b9 := b9; omega))
    exact W.iret (v := (-1)) hx hb hr (fun t ht hW => ⟨⟨(-1), (fst, fik), rfl, ⟨hpost, ⟨hst, (by have t_b9 := b9; have t_n0 : (nI N).toInt = (N : Int) := tn2968_ (); have t_n1 : (nI B).toInt = (B : Int) := tn2969_ (); have t_n2 : (nI T).toInt = (T : Int) := tn2970_ (); have t_n3 : (nI S).toInt = (S : Int) := tn2971_ (); have t_n4 : (nI M).toInt = (M : Int) := tn2972_ (); have z0 : (0 : Int32).toInt = 0 := qI_0; have z1 : (1 : Int32).toInt = 1 := qI_1; have z2 : (2 : Int32).toInt = 2 := qI_2; have z3 : (3 : Int32).toInt = 3 := qI_3; have z5 : (5 : Int32).toInt = 5 := qI_5; have z9 : (9 : Int32).toInt = 9 := qI_9; have z20 : (20 : Int32).toInt = 20 := qI_20; have z4 : (-4 : Int32).toInt = -4 := (by decide); have z10 : (10 : Int32).toInt = 10 := qI_10; rw [if_neg (by omega)]), (by have t_b9 := b9; have t_n0 : (nI N).toInt = (N : Int) := tn2968_ (); have t_n1 : (nI B).toInt = (B : Int) := tn2969_ (); have t_n2 : (nI T).toInt = (T : Int) := tn2970_ (); have t_n3 : (nI S).toInt = (S : Int) := tn2971_ (); have t_n4 : (nI M).toInt = (M : Int) := tn2972_ (); have z0 : (0 : Int32).toInt = 0 := qI_0; have z1 : (1 : Int32).toInt = 1 := qI_1; have z2 : (2 : Int32).toInt = 2 := qI_2; have z3 : (3 : Int32).toInt = 3 := qI_3; have z5 : (5 : Int32).toInt = 5 := qI_5; have z9 : (9 : Int32).toInt = 9 := qI_9; have z20 : (20 : Int32).toInt = 20 := qI_20; have z4 : (-4 : Int32).toInt = -4 := (by decide); have z10 : (10 : Int32).toInt = 10 := qI_10; rw [if_neg (by omega)])⟩⟩, ⟨by rw [ht]; exact hP9, hD9⟩⟩, hS.F ht⟩) hS.2.2 dX11_keep_11

set_option maxHeartbeats 1000000 in
set_option maxRecDepth 100000 in
theorem c_X11_backW (l : Launch) (dC : Nat → ClassId) (dI : Nat → Nat → Nat) (G : Nat → ClassId) (sz : Nat) (h0 st N B rp tp T cu lt od th be ln S ma M ah bh ik la lg ce : Nat) (k vrs vrb vhs vca vxs vxb vfa vbr vba vsp vhe vtk vva vto : Int32) (fst : Nat → Int32) (fik : Nat → Int32) (hN : N ≤ 10) (hB : B ≤ 6) (hT : T ≤ 320) (hS0 : S ≤ 8) (hM : M ≤ 6) (hst : OKS fst) : Met l yX11_back (Cond.code yX11_back cX11_back 2 (some .int) :: GT) ({ frames := 1, cells := 0, slots := 0, locals := 25 } : Room) (PcW [.ref h0, .int k] dC dI G [(h0, .inr (11, [.ref st, .int (nI N), .int (nI B), .ref rp, .int vrs, .int vrb, .int vhs, .int vca, .int vxs, .int vxb, .ref tp, .int (nI T), .int vfa, .int vbr, .int vba, .int vsp, .int vhe, .int vtk, .int vva, .ref cu, .ref lt, .ref od, .ref th, .ref be, .ref ln, .int (nI S), .ref ma, .int (nI M), .ref ah, .ref bh, .ref ik, .ref la, .ref lg, .ref ce, .int vto])), (st, .inl (G 0, 196, .inl fst)), (ik, .inl (G 2, 2, .inl fik))] sz) (va_Qi (fun (r : Int32) (u : (Nat → Int32)) => match u with | ost => (r = if (0 ≤ k.toInt ∧ k.toInt < 2) then (if fik k.toNatClampNeg = 0 then -2 else nI N) else -1) ∧ OKS ost ∧ ost = (if (0 ≤ k.toInt ∧ k.toInt < 2) ∧ ¬ fik k.toNatClampNeg = 0 then cpj (49 * (k.toNatClampNeg + 1)) 0 49 fst else fst)) (fun (u : (Nat → Int32)) (t : State) => match u with | ost => va_P (dC, dI) vwCl [(h0, .inr (11, [.ref st, .int (nI N), .int (nI B), .ref rp, .int vrs, .int vrb, .int vhs, .int vca, .int vxs, .int vxb, .ref tp, .int (nI T), .int vfa, .int vbr, .int vba, .int vsp, .int vhe, .int vtk, .int vva, .ref cu, .ref lt, .ref od, .ref th, .ref be, .ref ln, .int (nI S), .ref ma, .int (nI M), .ref ah, .ref bh, .ref ik, .ref la, .ref lg, .ref ce, .int vto])), (st, .inl (G 0, 196, .inl ost)), (ik, .inl (G 2, 2, .inl fik))] t.heap ∧ va_D (va_A [(h0, .inr (11, [.ref st, .int (nI N), .int (nI B), .ref rp, .int vrs, .int vrb, .int vhs, .int vca, .int vxs, .int vxb, .ref tp, .int (nI T), .int vfa, .int vbr, .int vba, .int vsp, .int vhe, .int vtk, .int vva, .ref cu, .ref lt, .ref od, .ref th, .ref be, .ref ln, .int (nI S), .ref ma, .int (nI M), .ref ah, .ref bh, .ref ik, .ref la, .ref lg, .ref ce, .int vto])), (st, .inl (G 0, 196, .inl fst)), (ik, .inl (G 2, 2, .inl fik))] sz) [(h0, .inr (11, [.ref st, .int (nI N), .int (nI B), .ref rp, .int vrs, .int vrb, .int vhs, .int vca, .int vxs, .int vxb, .ref tp, .int (nI T), .int vfa, .int vbr, .int vba, .int vsp, .int vhe, .int vtk, .int vva, .ref cu, .ref lt, .ref od, .ref th, .ref be, .ref ln, .int (nI S), .ref ma, .int (nI M), .ref ah, .ref bh, .ref ik, .ref la, .ref lg, .ref ce, .int vto])), (st, .inl (G 0, 196, .inl ost)), (ik, .inl (G 2, 2, .inl fik))]) (va_A [(h0, .inr (11, [.ref st, .int (nI N), .int (nI B), .ref rp, .int vrs, .int vrb, .int vhs, .int vca, .int vxs, .int vxb, .ref tp, .int (nI T), .int vfa, .int vbr, .int vba, .int vsp, .int vhe, .int vtk, .int vva, .ref cu, .ref lt, .ref od, .ref th, .ref be, .ref ln, .int (nI S), .ref ma, .int (nI M), .ref ah, .ref bh, .ref ik, .ref la, .ref lg, .ref ce, .int vto])), (st, .inl (G 0, 196, .inl fst)), (ik, .inl (G 2, 2, .inl fik))] sz)) 0 0 (va_A [(h0, .inr (11, [.ref st, .int (nI N), .int (nI B), .ref rp, .int vrs, .int vrb, .int vhs, .int vca, .int vxs, .int vxb, .ref tp, .int (nI T), .int vfa, .int vbr, .int vba, .int vsp, .int vhe, .int vtk, .int vva, .ref cu, .ref lt, .ref od, .ref th, .ref be, .ref ln, .int (nI S), .ref ma, .int (nI M), .ref ah, .ref bh, .ref ik, .ref la, .ref lg, .ref ce, .int vto])), (st, .inl (G 0, 196, .inl fst)), (ik, .inl (G 2, 2, .inl fik))] sz) := by
  have hB_ := hB
  have hM_ := hM
  have hT_ := hT
  refine Met.ofW (cc := cX11_back) (maxL := 2) (ret := (some .int)) (by decide) rfl ?_
  intro p e s m args below meth c s₁ Bd hml hv
  obtain ⟨rfl, hsz, hP, hK, hD0⟩ := hv
  have hx := Bd.exec
  have hb := Bd.bytes
  have hr := Bd.returns
  have hg : ∀ w ∈ GT, w.before ([.ref h0, .int k] : List Value).toArray s = true := fun w h => atoms_spec (ws := Cond.code yX11_back cX11_back 2 (some .int) :: GT) Bd.pre w (List.mem_cons_of_mem _ h)
  have hown : s.vm.findClass RX11 = some m.cls := findClass_of_methodNamed Bd.named
  have hlocks := Bd.notSynchronized
  subst hsz
  have hD := hD0.self (sz := s.heap.size)
  generalize hAe : va_A [(h0, .inr (11, [.ref st, .int (nI N), .int (nI B), .ref rp, .int vrs, .int vrb, .int vhs, .int vca, .int vxs, .int vxb, .ref tp, .int (nI T), .int vfa, .int vbr, .int vba, .int vsp, .int vhe, .int vtk, .int vva, .ref cu, .ref lt, .ref od, .ref th, .ref be, .ref ln, .int (nI S), .ref ma, .int (nI M), .ref ah, .ref bh, .ref ik, .ref la, .ref lg, .ref ce, .int vto])), (st, .inl (G 0, 196, .inl fst)), (ik, .inl (G 2, 2, .inl fik))] s.heap.size = A at hD ⊢
  have hA : ∀ q : Nat, s.heap.size ≤ q → A q := fun q h => by rw [← hAe]; exact Or.inr h
  have hS : va_S A s.heap s.heap [] := va_S.rf
  have hl := lv_entry ([.ref h0, .int k]) (n := 2) (Nat.le_of_ble_eq_true rfl)
  rw [lg_entry_eq]
  generalize (lg_sl ([.ref h0, .int k]) ++ List.replicate (2 - (lg_sl ([.ref h0, .int k])).length) Slot.unset).toArray = ls at hl ⊢
  have hl : lv_has ls 2 [(0, .ref h0), (1, .int k)] := hl
  refine lv_iload_n hx hb dX11_back_0 rfl (lv_at hl 1 rfl) ?_
  refine lv_i2l (v := k.toInt64) hx hb dX11_back_1 rfl ?_
  refine lv_lconst (v := 0) hx hb dX11_back_2 (by decide) ?_
  refine lv_lconst (v := 1) hx hb dX11_back_3 (by decide) ?_
  have hPc := hP.sub (ws' := []) [] rfl
  refine va_calli (va_runS (As := [.long k.toInt64, .long 0, .long 1]) (rest := []) ⟨hx, hb, hml, hown, hg⟩ (c_X11_in l dC dI G _ k.toInt64 0 1) (kwS hg mfX11_in wt_992 ⟨Nat.le_of_ble_eq_true rfl, Nat.le_of_ble_eq_true rfl⟩) (preSR hK hPc) rfl rfl hl.1 rfl (lv_room (Nat.le_of_ble_eq_true rfl)) dX11_back_4 ⟨Nat.le_of_ble_eq_true rfl, Nat.le_of_ble_eq_true rfl⟩) hS (fun q h1 h2 => absurd h2 (Nat.not_le.mpr h1)) (fun q h => hA q (Nat.le_trans hS.1 h)) (fun r1 ur1 t H1 locs ht hvm w2 hB hz1 hk1 hS => ?_)
  have hP := keepR hP hk1
  obtain ⟨w2, w2x⟩ := w2
  try simp only [l_ii, show (0 : Int64).toInt = 0 from by decide, show (1 : Int64).toInt = 1 from by decide] at w2
  subst w2
  refine lv_if_ne (tgt := 12) hx hb dX11_back_7 (by decide) (fun c3 => ?_) (fun c3 => ?_)
  · skip
    have b4 := if10_p c3
    obtain ⟨kk, hkk, rfl⟩ : ∃ j : Nat, j < 2 ∧ k = nI j := by
      have t_b4 := b4
      have tn2973_ : nIT N := fun _ => nI_toInt (by omega)
      have t_n0 : (nI N).toInt = (N : Int) := tn2973_ ()
      have tn2974_ : nIT B := fun _ => nI_toInt (by omega)
      have t_n1 : (nI B).toInt = (B : Int) := tn2974_ ()
      have tn2975_ : nIT T := fun _ => nI_toInt (by omega)
      have t_n2 : (nI T).toInt = (T : Int) := tn2975_ ()
      have tn2976_ : nIT S := fun _ => nI_toInt (by omega)
      have t_n3 : (nI S).toInt = (S : Int) := tn2976_ ()
      have tn2977_ : nIT M := fun _ => nI_toInt (by omega)
      have t_n4 : (nI M).toInt = (M : Int) := tn2977_ ()
      exact i32_nat (by omega) (by omega)
    refine lv_aload_n hx hb dX11_back_12 rfl (lv_at hl 0 rfl) ?_
    refine va_get (D := (dC, dI)) (ci := 11) (v := .ref ik) (C := RX11) (T := TX11) (N := 35) hx hb hg inG11 hown hK.1 hP 0 rfl rfl 30 (by decide) (hg _ wt_908) (fun _ h9 => h9) rfl dX11_back_13 ?_
    refine lv_iload_n hx hb dX11_back_16 rfl (lv_at hl 1 rfl) ?_
    have tn2978_ : nIT N := fun _ => nI_toInt (by first | omega | (have t_b4 := b4; have t_hkk := hkk; omega))
    have tn2979_ : nIT B := fun _ => nI_toInt (by first | omega | (have t_b4 := b4; have t_hkk := hkk; omega))
    have tn2980_ : nIT T := fun _ => nI_toInt (by first | omega | (have t_b4 := b4; have t_hkk := hkk; omega))
    have tn2981_ : nIT S := fun _ => nI_toInt (by first | omega | (have t_b4 := b4; have t_hkk := hkk; omega))
    have tn2982_ : nIT M := fun _ => nI_toInt (by first | omega | (have t_b4 := b4; have t_hkk := hkk; omega))
    have tn2983_ : nIT kk := fun _ => nI_toInt (by first | omega | (have t_b4 := b4; have t_hkk := hkk; omega))
    refine va_zald hx hb hK.1 hP 2 2 rfl rfl (vp_in_nI (by first | omega | (have t_b4 := b4; have t_hkk := hkk; have t_n0 : (nI N).toInt = (N : Int) := tn2978_ (); have t_n1 : (nI B).toInt = (B : Int) := tn2979_ (); have t_n2 : (nI T).toInt = (T : Int) := tn2980_ (); have t_n3 : (nI S).toInt = (S : Int) := tn2981_ (); have t_n4 : (nI M).toInt = (M : Int) := tn2982_ (); have t_n5 : (nI kk).toInt = (kk : Int) := tn2983_ (); omega)) (by decide)) dX11_back_17 ?_
    refine lv_cg (y := fik kk) (by rw [nI_clamp (by omega)]) ?_
    refine lv_if_ne (tgt := 24) hx hb dX11_back_18 (by decide) (fun c5 => ?_) (fun c5 => ?_)
    · skip
      refine lv_aload_n hx hb dX11_back_24 rfl (lv_at hl 0 rfl) ?_
      refine lv_bipush (v := 49) hx hb dX11_back_25 (by decide) ?_
      refine lv_iload_n hx hb dX11_back_27 rfl (lv_at hl 1 rfl) ?_
      refine lv_iconst (v := 1) hx hb dX11_back_28 (by decide) ?_
      refine lv_iadd hx hb dX11_back_29 ?_
      refine lv_cg (y := nI (kk + 1)) (by rw [show (1 : Int32) = nI 1 from rfl]; exact nI_add _ _) ?_
      refine lv_imul hx hb dX11_back_30 ?_
      refine lv_cg (y := nI (49 * (kk + 1))) (by rw [show (49 : Int32) = nI 49 from rfl]; exact pk_mul _ _) ?_
      refine lv_iconst (v := 0) hx hb dX11_back_31 (by decide) ?_
      have hPc := hP.sub (ws' := [(h0, .inr (11, [.ref st, .int (nI N), .int (nI B), .ref rp, .int vrs, .int vrb, .int vhs, .int vca, .int vxs, .int vxb, .ref tp, .int (nI T), .int vfa, .int vbr, .int vba, .int vsp, .int vhe, .int vtk, .int vva, .ref cu, .ref lt, .ref od, .ref th, .ref be, .ref ln, .int (nI S), .ref ma, .int (nI M), .ref ah, .ref bh, .ref ik, .ref la, .ref lg, .ref ce, .int vto])), (st, .inl (G 0, 196, .inl fst))]) [0, 1] rfl
      have hDc := hD.sub (ws' := [(h0, .inr (11, [.ref st, .int (nI N), .int (nI B), .ref rp, .int vrs, .int vrb, .int vhs, .int vca, .int vxs, .int vxb, .ref tp, .int (nI T), .int vfa, .int vbr, .int vba, .int vsp, .int vhe, .int vtk, .int vva, .ref cu, .ref lt, .ref od, .ref th, .ref be, .ref ln, .int (nI S), .ref ma, .int (nI M), .ref ah, .ref bh, .ref ik, .ref la, .ref lg, .ref ce, .int vto])), (st, .inl (G 0, 196, .inl fst))]) [0, 1] (by decide) rfl
      have hFc := va_free (wc := [(h0, .inr (11, [.ref st, .int (nI N), .int (nI B), .ref rp, .int vrs, .int vrb, .int vhs, .int vca, .int vxs, .int vxb, .ref tp, .int (nI T), .int vfa, .int vbr, .int vba, .int vsp, .int vhe, .int vtk, .int vva, .ref cu, .ref lt, .ref od, .ref th, .ref be, .ref ln, .int (nI S), .ref ma, .int (nI M), .ref ah, .ref bh, .ref ik, .ref la, .ref lg, .ref ce, .int vto])), (st, .inl (G 0, 196, .inl fst))]) hD hS hA [0, 1] rfl
      refine va_callv (va_runV (As := [.int (nI (49 * (kk + 1))), .int 0]) (rest := []) ⟨hx, hb, hml, hown, hg⟩ (c_X11_copiesW l dC dI G _ h0 (49 * (kk + 1)) 0 st N B rp tp T cu lt od th be ln S ma M ah bh ik la lg ce vrs vrb vhs vca vxs vxb vfa vbr vba vsp vhe vtk vva vto fst hN hB_ hT_ hS0 hM_ hst (by first | omega | (have t_b4 := b4; have t_hkk := hkk; have t_c5 := neI c5; have : (0 : Int32).toInt = 0 := qI_0; have t_n0 : (nI N).toInt = (N : Int) := tn2978_ (); have t_n1 : (nI B).toInt = (B : Int) := tn2979_ (); have t_n2 : (nI T).toInt = (T : Int) := tn2980_ (); have t_n3 : (nI S).toInt = (S : Int) := tn2981_ (); have t_n4 : (nI M).toInt = (M : Int) := tn2982_ (); have t_n5 : (nI kk).toInt = (kk : Int) := tn2983_ (); omega)) (by first | omega | (have t_b4 := b4; have t_hkk := hkk; have t_c5 := neI c5; have : (0 : Int32).toInt = 0 := qI_0; have t_n0 : (nI N).toInt = (N : Int) := tn2978_ (); have t_n1 : (nI B).toInt = (B : Int) := tn2979_ (); have t_n2 : (nI T).toInt = (T : Int) := tn2980_ (); have t_n3 : (nI S).toInt = (S : Int) := tn2981_ (); have t_n4 : (nI M).toInt = (M : Int) := tn2982_ (); have t_n5 : (nI kk).toInt = (kk : Int) := tn2983_ (); omega)) (by first | omega | (have t_b4 := b4; have t_hkk := hkk; have t_c5 := neI c5; have : (0 : Int32).toInt = 0 := qI_0; have t_n0 : (nI N).toInt = (N : Int) := tn2978_ (); have t_n1 : (nI B).toInt = (B : Int) := tn2979_ (); have t_n2 : (nI T).toInt = (T : Int) := tn2980_ (); have t_n3 : (nI S).toInt = (S : Int) := tn2981_ (); have t_n4 : (nI M).toInt = (M : Int) := tn2982_ (); have t_n5 : (nI kk).toInt = (kk : Int) := tn2983_ (); omega))) (kwV hg mfX11_copies wt_1248 ⟨Nat.le_of_ble_eq_true rfl, Nat.le_of_ble_eq_true rfl⟩) (preVW hK hPc hDc (ci := 11) rfl rfl) rfl rfl hl.1 rfl (lv_room (Nat.le_of_ble_eq_true rfl)) dX11_back_32 ⟨Nat.le_of_ble_eq_true rfl, Nat.le_of_ble_eq_true rfl⟩) hS (fun q _ h => hFc q h) hFc (fun ur6 t H1 locs ht hvm w7 hB hz1 hk1 hS => ?_)
      obtain ⟨u8, rfl⟩ : ∃ z, z = ur6 := ⟨_, rfl⟩
      obtain ⟨hP1, hD1⟩ := hB
      rw [ht] at hP1
      obtain ⟨hP, hD⟩ := va_join (wr := [(ik, .inl (G 2, 2, .inl fik))]) (w1 := [(h0, .inr (11, [.ref st, .int (nI N), .int (nI B), .ref rp, .int vrs, .int vrb, .int vhs, .int vca, .int vxs, .int vxb, .ref tp, .int (nI T), .int vfa, .int vbr, .int vba, .int vsp, .int vhe, .int vtk, .int vva, .ref cu, .ref lt, .ref od, .ref th, .ref be, .ref ln, .int (nI S), .ref ma, .int (nI M), .ref ah, .ref bh, .ref ik, .ref la, .ref lg, .ref ce, .int vto])), (st, .inl (G 0, 196, .inl u8))]) hP hD [0, 1] [2] rfl rfl (by decide) (by decide) hk1 hFc hP1 hD1
      have w7 : OKS u8 ∧ u8 = cpj (49 * (kk + 1)) 0 49 fst := w7
      generalize H1 = H at hP hS ⊢
      have hP : va_P (dC, dI) vwCl [(ik, .inl (G 2, 2, .inl fik)), (h0, .inr (11, [.ref st, .int (nI N), .int (nI B), .ref rp, .int vrs, .int vrb, .int vhs, .int vca, .int vxs, .int vxb, .ref tp, .int (nI T), .int vfa, .int vbr, .int vba, .int vsp, .int vhe, .int vtk, .int vva, .ref cu, .ref lt, .ref od, .ref th, .ref be, .ref ln, .int (nI S), .ref ma, .int (nI M), .ref ah, .ref bh, .ref ik, .ref la, .ref lg, .ref ce, .int vto])), (st, .inl (G 0, 196, .inl u8))] H := hP
      have hD : va_D A [(ik, .inl (G 2, 2, .inl fik)), (h0, .inr (11, [.ref st, .int (nI N), .int (nI B), .ref rp, .int vrs, .int vrb, .int vhs, .int vca, .int vxs, .int vxb, .ref tp, .int (nI T), .int vfa, .int vbr, .int vba, .int vsp, .int vhe, .int vtk, .int vva, .ref cu, .ref lt, .ref od, .ref th, .ref be, .ref ln, .int (nI S), .ref ma, .int (nI M), .ref ah, .ref bh, .ref ik, .ref la, .ref lg, .ref ce, .int vto])), (st, .inl (G 0, 196, .inl u8))] := hD
      refine lv_aload_n hx hb dX11_back_35 rfl (lv_at hl 0 rfl) ?_
      refine va_get (D := (dC, dI)) (ci := 11) (v := .int (nI N)) (C := RX11) (T := TX11) (N := 35) hx hb hg inG11 hown hK.1 hP 1 rfl rfl 1 (by decide) (hg _ wt_879) (fun _ h9 => h9) rfl dX11_back_36 ?_
      have hpost : (nI N : Int32) = if (0 ≤ (nI kk).toInt ∧ (nI kk).toInt < 2) then (if fik (nI kk).toNatClampNeg = 0 then -2 else nI N) else -1 := by
        first | (rw [if_neg (by (have t_b4 := b4; have t_hkk := hkk; have t_c5 := neI c5; have : (0 : Int32).toInt = 0 := qI_0; have t_n0 : (nI N).toInt = (N : Int) := tn2978_ (); have t_n1 : (nI B).toInt = (B : Int) := tn2979_ (); have t_n2 : (nI T).toInt = (T : Int) := tn2980_ (); have t_n3 : (nI S).toInt = (S : Int) := tn2981_ (); have t_n4 : (nI M).toInt = (M : Int) := tn2982_ (); have t_n5 : (nI kk).toInt = (kk : Int) := tn2983_ (); have z0 : (0 : Int32).toInt = 0 := qI_0; have z1 : (1 : Int32).toInt = 1 := qI_1; have z2 : (2 : Int32).toInt = 2 := qI_2; have z3 : (3 : Int32).toInt = 3 := qI_3; have z5 : (5 : Int32).toInt = 5 := qI_5; have z9 : (9 : Int32).toInt = 9 := qI_9; have z20 : (20 : Int32).toInt = 20 := qI_20; have z4 : (-4 : Int32).toInt = -4 := (by decide); have z10 : (10 : Int32).toInt = 10 := qI_10; omega))]; done) | (rw [if_pos (by (have t_b4 := b4; have t_hkk := hkk; have t_c5 := neI c5; have : (0 : Int32).toInt = 0 := qI_0; have t_n0 : (nI N).toInt = (N : Int) := tn2978_ (); have t_n1 : (nI B).toInt = (B : Int) := tn2979_ (); have t_n2 : (nI T).toInt = (T : Int) := tn2980_ (); have t_n3 : (nI S).toInt = (S : Int) := tn2981_ (); have t_n4 : (nI M).toInt = (M : Int) := tn2982_ (); have t_n5 : (nI kk).toInt = (kk : Int) := tn2983_ (); have z0 : (0 : Int32).toInt = 0 := qI_0; have z1 : (1 : Int32).toInt = 1 := qI_1; have z2 : (2 : Int32).toInt = 2 := qI_2; have z3 : (3 : Int32).toInt = 3 := qI_3; have z5 : (5 : Int32).toInt = 5 := qI_5; have z9 : (9 : Int32).toInt = 9 := qI_9; have z20 : (20 : Int32).toInt = 20 := qI_20; have z4 : (-4 : Int32).toInt = -4 := (by decide); have z10 : (10 : Int32).toInt = 10 := qI_10; omega)), nI_clamp (by (have t_b4 := b4; have t_hkk := hkk; have t_c5 := neI c5; have : (0 : Int32).toInt = 0 := qI_0; have t_n0 : (nI N).toInt = (N : Int) := tn2978_ (); have t_n1 : (nI B).toInt = (B : Int) := tn2979_ (); have t_n2 : (nI T).toInt = (T : Int) := tn2980_ (); have t_n3 : (nI S).toInt = (S : Int) := tn2981_ (); have t_n4 : (nI M).toInt = (M : Int) := tn2982_ (); have t_n5 : (nI kk).toInt = (kk : Int) := tn2983_ (); have z0 : (0 : Int32).toInt = 0 := qI_0; have z1 : (1 : Int32).toInt = 1 := qI_1; have z2 : (2 : Int32).toInt = 2 := qI_2; have z3 : (3 : Int32).toInt = 3 := qI_3; have z5 : (5 : Int32).toInt = 5 := qI_5; have z9 : (9 : Int32).toInt = 9 := qI_9; have z20 : (20 : Int32).toInt = 20 := qI_20; have z4 : (-4 : Int32).toInt = -4 := (by decide); have z10 : (10 : Int32).toInt = 10 := qI_10; omega))]; first | (rw [if_pos (by assumption)]; done) | (rw [if_neg (by assumption)]; done))
      have hP9 := hP.sub (ws' := [(h0, .inr (11, [.ref st, .int (nI N), .int (nI B), .ref rp, .int vrs, .int vrb, .int vhs, .int vca, .int vxs, .int vxb, .ref tp, .int (nI T), .int vfa, .int vbr, .int vba, .int vsp, .int vhe, .int vtk, .int vva, .ref cu, .ref lt, .ref od, .ref th, .ref be, .ref ln, .int (nI S), .ref ma, .int (nI M), .ref ah, .ref bh, .ref ik, .ref la, .ref lg, .ref ce, .int vto])), (st, .inl (G 0, 196, .inl u8)), (ik, .inl (G 2, 2, .inl fik))]) [1, 2, 0] rfl
      have hD9 := hD.sub (ws' := [(h0, .inr (11, [.ref st, .int (nI N), .int (nI B), .ref rp, .int vrs, .int vrb, .int vhs, .int vca, .int vxs, .int vxb, .ref tp, .int (nI T), .int vfa, .int vbr, .int vba, .int vsp, .int vhe, .int vtk, .int vva, .ref cu, .ref lt, .ref od, .ref th, .ref be, .ref ln, .int (nI S), .ref ma, .int (nI M), .ref ah, .ref bh, .ref ik, .ref la, .ref lg, .ref ce, .int vto])), (st, .inl (G 0, 196, .inl u8)), (ik, .inl (G 2, 2, .inl fik))]) [1, 2, 0] (by decide) rfl
      refine W.widen (k := 0) (n := 0) (Nat.le_of_ble_eq_true rfl) (Nat.le_of_ble_eq_true rfl) ?_
      exact W.iret (v := nI N) hx hb hr (fun t ht hW => ⟨⟨nI N, u8, rfl, ⟨hpost, ⟨w7.1, (by rw [nI_clamp (by (have t_b4 := b4; have t_hkk := hkk; have t_c5 := neI c5; have : (0 : Int32).toInt = 0 := qI_0; have t_n0 : (nI N).toInt = (N : Int) := tn2978_ (); have t_n1 : (nI B).toInt = (B : Int) := tn2979_ (); have t_n2 : (nI T).toInt = (T : Int) := tn2980_ (); have t_n3 : (nI S).toInt = (S : Int) := tn2981_ (); have t_n4 : (nI M).toInt = (M : Int) := tn2982_ (); have t_n5 : (nI kk).toInt = (kk : Int) := tn2983_ (); have z0 : (0 : Int32).toInt = 0 := qI_0; have z1 : (1 : Int32).toInt = 1 := qI_1; have z2 : (2 : Int32).toInt = 2 := qI_2; have z3 : (3 : Int32).toInt = 3 := qI_3; have z5 : (5 : Int32).toInt = 5 := qI_5; have z9 : (9 : Int32).toInt = 9 := qI_9; have z20 : (20 : Int32).toInt = 20 := qI_20; have z4 : (-4 : Int32).toInt = -4 := (by decide); have z10 : (10 : Int32).toInt = 10 := qI_10; omega)), if_pos ⟨by (have t_b4 := b4; have t_hkk := hkk; have t_c5 := neI c5; have : (0 : Int32).toInt = 0 := qI_0; have t_n0 : (nI N).toInt = (N : Int) := tn2978_ (); have t_n1 : (nI B).toInt = (B : Int) := tn2979_ (); have t_n2 : (nI T).toInt = (T : Int) := tn2980_ (); have t_n3 : (nI S).toInt = (S : Int) := tn2981_ (); have t_n4 : (nI M).toInt = (M : Int) := tn2982_ (); have t_n5 : (nI kk).toInt = (kk : Int) := tn2983_ (); have z0 : (0 : Int32).toInt = 0 := qI_0; have z1 : (1 : Int32).toInt = 1 := qI_1; have z2 : (2 : Int32).toInt = 2 := qI_2; have z3 : (3 : Int32).toInt = 3 := qI_3; have z5 : (5 : Int32).toInt = 5 := qI_5; have z9 : (9 : Int32).toInt = 9 := qI_9; have z20 : (20 : Int32).toInt = 20 := qI_20; have z4 : (-4 : Int32).toInt = -4 := (by decide); have z10 : (10 : Int32).toInt = 10 := qI_10; omega), by assumption⟩]; exact w7.2)⟩⟩, ⟨by rw [ht]; exact hP9, hD9⟩⟩, hS.F ht⟩) hS.2.2 dX11_back_39
    · skip
      refine lv_bipush (v := (-2)) hx hb dX11_back_21 (by decide) ?_
      have hpost : ((-2) : Int32) = if (0 ≤ (nI kk).toInt ∧ (nI kk).toInt < 2) then (if fik (nI kk).toNatClampNeg = 0 then -2 else nI N) else -1 := by
        first | (rw [if_neg (by (have t_b4 := b4; have t_hkk := hkk; have t_c5 := eqI c5; have : (0 : Int32).toInt = 0 := qI_0; have t_n0 : (nI N).toInt = (N : Int) := tn2978_ (); have t_n1 : (nI B).toInt = (B : Int) := tn2979_ (); have t_n2 : (nI T).toInt = (T : Int) := tn2980_ (); have t_n3 : (nI S).toInt = (S : Int) := tn2981_ (); have t_n4 : (nI M).toInt = (M : Int) := tn2982_ (); have t_n5 : (nI kk).toInt = (kk : Int) := tn2983_ (); have z0 : (0 : Int32).toInt = 0 := qI_0; have z1 : (1 : Int32).toInt = 1 := qI_1; have z2 : (2 : Int32).toInt = 2 := qI_2; have z3 : (3 : Int32).toInt = 3 := qI_3; have z5 : (5 : Int32).toInt = 5 := qI_5; have z9 : (9 : Int32).toInt = 9 := qI_9; have z20 : (20 : Int32).toInt = 20 := qI_20; have z4 : (-4 : Int32).toInt = -4 := (by decide); have z10 : (10 : Int32).toInt = 10 := qI_10; omega))]; done) | (rw [if_pos (by (have t_b4 := b4; have t_hkk := hkk; have t_c5 := eqI c5; have : (0 : Int32).toInt = 0 := qI_0; have t_n0 : (nI N).toInt = (N : Int) := tn2978_ (); have t_n1 : (nI B).toInt = (B : Int) := tn2979_ (); have t_n2 : (nI T).toInt = (T : Int) := tn2980_ (); have t_n3 : (nI S).toInt = (S : Int) := tn2981_ (); have t_n4 : (nI M).toInt = (M : Int) := tn2982_ (); have t_n5 : (nI kk).toInt = (kk : Int) := tn2983_ (); have z0 : (0 : Int32).toInt = 0 := qI_0; have z1 : (1 : Int32).toInt = 1 := qI_1; have z2 : (2 : Int32).toInt = 2 := qI_2; have z3 : (3 : Int32).toInt = 3 := qI_3; have z5 : (5 : Int32).toInt = 5 := qI_5; have z9 : (9 : Int32).toInt = 9 := qI_9; have z20 : (20 : Int32).toInt = 20 := qI_20; have z4 : (-4 : Int32).toInt = -4 := (by decide); have z10 : (10 : Int32).toInt = 10 := qI_10; omega)), nI_clamp (by (have t_b4 := b4; have t_hkk := hkk; have t_c5 := eqI c5; have : (0 : Int32).toInt = 0 := qI_0; have t_n0 : (nI N).toInt = (N : Int) := tn2978_ (); have t_n1 : (nI B).toInt = (B : Int) := tn2979_ (); have t_n2 : (nI T).toInt = (T : Int) := tn2980_ (); have t_n3 : (nI S).toInt = (S : Int) := tn2981_ (); have t_n4 : (nI M).toInt = (M : Int) := tn2982_ (); have t_n5 : (nI kk).toInt = (kk : Int) := tn2983_ (); have z0 : (0 : Int32).toInt = 0 := qI_0; have z1 : (1 : Int32).toInt = 1 := qI_1; have z2 : (2 : Int32).toInt = 2 := qI_2; have z3 : (3 : Int32).toInt = 3 := qI_3; have z5 : (5 : Int32).toInt = 5 := qI_5; have z9 : (9 : Int32).toInt = 9 := qI_9; have z20 : (20 : Int32).toInt = 20 := qI_20; have z4 : (-4 : Int32).toInt = -4 := (by decide); have z10 : (10 : Int32).toInt = 10 := qI_10; omega))]; first | (rw [if_pos (by assumption)]; done) | (rw [if_neg (by assumption)]; done))
      have hP9 := hP.sub (ws' := [(h0, .inr (11, [.ref st, .int (nI N), .int (nI B), .ref rp, .int vrs, .int vrb, .int vhs, .int vca, .int vxs, .int vxb, .ref tp, .int (nI T), .int vfa, .int vbr, .int vba, .int vsp, .int vhe, .int vtk, .int vva, .ref cu, .ref lt, .ref od, .ref th, .ref be, .ref ln, .int (nI S), .ref ma, .int (nI M), .ref ah, .ref bh, .ref ik, .ref la, .ref lg, .ref ce, .int vto])), (st, .inl (G 0, 196, .inl fst)), (ik, .inl (G 2, 2, .inl fik))]) [0, 1, 2] rfl
      have hD9 := hD.sub (ws' := [(h0, .inr (11, [.ref st, .int (nI N), .int (nI B), .ref rp, .int vrs, .int vrb, .int vhs, .int vca, .int vxs, .int vxb, .ref tp, .int (nI T), .int vfa, .int vbr, .int vba, .int vsp, .int vhe, .int vtk, .int vva, .ref cu, .ref lt, .ref od, .ref th, .ref be, .ref ln, .int (nI S), .ref ma, .int (nI M), .ref ah, .ref bh, .ref ik, .ref la, .ref lg, .ref ce, .int vto])), (st, .inl (G 0, 196, .inl fst)), (ik, .inl (G 2, 2, .inl fik))]) [0, 1, 2] (by decide) rfl
      refine W.widen (k := 0) (n := 0) (Nat.le_of_ble_eq_true rfl) (Nat.le_of_ble_eq_true rfl) ?_
      exact W.iret (v := (-2)) hx hb hr (fun t ht hW => ⟨⟨(-2), fst, rfl, ⟨hpost, ⟨hst, (by first | (rw [if_neg (fun h9 => by have h8 := h9.1; (have t_b4 := b4; have t_hkk := hkk; have t_c5 := eqI c5; have : (0 : Int32).toInt = 0 := qI_0; have t_n0 : (nI N).toInt = (N : Int) := tn2978_ (); have t_n1 : (nI B).toInt = (B : Int) := tn2979_ (); have t_n2 : (nI T).toInt = (T : Int) := tn2980_ (); have t_n3 : (nI S).toInt = (S : Int) := tn2981_ (); have t_n4 : (nI M).toInt = (M : Int) := tn2982_ (); have t_n5 : (nI kk).toInt = (kk : Int) := tn2983_ (); have z0 : (0 : Int32).toInt = 0 := qI_0; have z1 : (1 : Int32).toInt = 1 := qI_1; have z2 : (2 : Int32).toInt = 2 := qI_2; have z3 : (3 : Int32).toInt = 3 := qI_3; have z5 : (5 : Int32).toInt = 5 := qI_5; have z9 : (9 : Int32).toInt = 9 := qI_9; have z20 : (20 : Int32).toInt = 20 := qI_20; have z4 : (-4 : Int32).toInt = -4 := (by decide); have z10 : (10 : Int32).toInt = 10 := qI_10; omega))]; done) | (rw [nI_clamp (by (have t_b4 := b4; have t_hkk := hkk; have t_c5 := eqI c5; have : (0 : Int32).toInt = 0 := qI_0; have t_n0 : (nI N).toInt = (N : Int) := tn2978_ (); have t_n1 : (nI B).toInt = (B : Int) := tn2979_ (); have t_n2 : (nI T).toInt = (T : Int) := tn2980_ (); have t_n3 : (nI S).toInt = (S : Int) := tn2981_ (); have t_n4 : (nI M).toInt = (M : Int) := tn2982_ (); have t_n5 : (nI kk).toInt = (kk : Int) := tn2983_ (); have z0 : (0 : Int32).toInt = 0 := qI_0; have z1 : (1 : Int32).toInt = 1 := qI_1; have z2 : (2 : Int32).toInt = 2 := qI_2; have z3 : (3 : Int32).toInt = 3 := qI_3; have z5 : (5 : Int32).toInt = 5 := qI_5; have z9 : (9 : Int32).toInt = 9 := qI_9; have z20 : (20 : Int32).toInt = 20 := qI_20; have z4 : (-4 : Int32).toInt = -4 := (by decide); have z10 : (10 : Int32).toInt = 10 := qI_10; omega)), if_neg (fun h9 => h9.2 (by assumption))]; done))⟩⟩, ⟨by rw [ht]; exact hP9, hD9⟩⟩, hS.F ht⟩) hS.2.2 dX11_back_23
  · skip
    have b9 := if10_n c3
    refine lv_iconst (v := (-1)) hx hb dX11_back_10 (by decide) ?_
    have hpost : ((-1) : Int32) = if (0 ≤ k.toInt ∧ k.toInt < 2) then (if fik k.toNatClampNeg = 0 then -2 else nI N) else -1 := by
      have tn2984_ : nIT N := fun _ => nI_toInt (by omega)
      have tn2985_ : nIT B := fun _ => nI_toInt (by omega)
      have tn2986_ : nIT T := fun _ => nI_toInt (by omega)
      have tn2987_ : nIT S := fun _ => nI_toInt (by omega)
      have tn2988_ : nIT M := fun _ => nI_toInt (by omega)
      first | (rw [if_neg (by (have t_b9 := b9; have t_n0 : (nI N).toInt = (N : Int) := tn2984_ (); have t_n1 : (nI B).toInt = (B : Int) := tn2985_ (); have t_n2 : (nI T).toInt = (T : Int) := tn2986_ (); have t_n3 : (nI S).toInt = (S : Int) := tn2987_ (); have t_n4 : (nI M).toInt = (M : Int) := tn2988_ (); have z0 : (0 : Int32).toInt = 0 := qI_0; have z1 : (1 : Int32).toInt = 1 := qI_1; have z2 : (2 : Int32).toInt = 2 := qI_2; have z3 : (3 : Int32).toInt = 3 := qI_3; have z5 : (5 : Int32).toInt = 5 := qI_5; have z9 : (9 : Int32).toInt = 9 := qI_9; have z20 : (20 : Int32).toInt = 20 := qI_20; have z4 : (-4 : Int32).toInt = -4 := (by decide); have z10 : (10 : Int32).toInt = 10 := qI_10; omega))]; done) | (rw [if_pos (by (have t_b9 := b9; have t_n0 : (nI N).toInt = (N : Int) := tn2984_ (); have t_n1 : (nI B).toInt = (B : Int) := tn2985_ (); have t_n2 : (nI T).toInt = (T : Int) := tn2986_ (); have t_n3 : (nI S).toInt = (S : Int) := tn2987_ (); have t_n4 : (nI M).toInt = (M : Int) := tn2988_ (); have z0 : (0 : Int32).toInt = 0 := qI_0; have z1 : (1 : Int32).toInt = 1 := qI_1; have z2 : (2 : Int32).toInt = 2 := qI_2; have z3 : (3 : Int32).toInt = 3 := qI_3; have z5 : (5 : Int32).toInt = 5 := qI_5; have z9 : (9 : Int32).toInt = 9 := qI_9; have z20 : (20 : Int32).toInt = 20 := qI_20; have z4 : (-4 : Int32).toInt = -4 := (by decide); have z10 : (10 : Int32).toInt = 10 := qI_10; omega)), nI_clamp (by (have t_b9 := b9; have t_n0 : (nI N).toInt = (N : Int) := tn2984_ (); have t_n1 : (nI B).toInt = (B : Int) := tn2985_ (); have t_n2 : (nI T).toInt = (T : Int) := tn2986_ (); have t_n3 : (nI S).toInt = (S : Int) := tn2987_ (); have t_n4 : (nI M).toInt = (M : Int) := tn2988_ (); have z0 : (0 : Int32).toInt = 0 := qI_0; have z1 : (1 : Int32).toInt = 1 := qI_1; have z2 : (2 : Int32).toInt = 2 := qI_2; have z3 : (3 : Int32).toInt = 3 := qI_3; have z5 : (5 : Int32).toInt = 5 := qI_5; have z9 : (9 : Int32).toInt = 9 := qI_9; have z20 : (20 : Int32).toInt = 20 := qI_20; have z4 : (-4 : Int32).toInt = -4 := (by decide); have z10 : (10 : Int32).toInt = 10 := qI_10; omega))]; first | (rw [if_pos (by assumption)]; done) | (rw [if_neg (by assumption)]; done))
    have hP9 := hP.sub (ws' := [(h0, .inr (11, [.ref st, .int (nI N), .int (nI B), .ref rp, .int vrs, .int vrb, .int vhs, .int vca, .int vxs, .int vxb, .ref tp, .int (nI T), .int vfa, .int vbr, .int vba, .int vsp, .int vhe, .int vtk, .int vva, .ref cu, .ref lt, .ref od, .ref th, .ref be, .ref ln, .int (nI S), .ref ma, .int (nI M), .ref ah, .ref bh, .ref ik, .ref la, .ref lg, .ref ce, .int vto])), (st, .inl (G 0, 196, .inl fst)), (ik, .inl (G 2, 2, .inl fik))]) [0, 1, 2] rfl
    have hD9 := hD.sub (ws' := [(h0, .inr (11, [.ref st, .int (nI N), .int (nI B), .ref rp, .int vrs, .int vrb, .int vhs, .int vca, .int vxs, .int vxb, .ref tp, .int (nI T), .int vfa, .int vbr, .int vba, .int vsp, .int vhe, .int vtk, .int vva, .ref cu, .ref lt, .ref od, .ref th, .ref be, .ref ln, .int (nI S), .ref ma, .int (nI M), .ref ah, .ref bh, .ref ik, .ref la, .ref lg, .ref ce, .int vto])), (st, .inl (G 0, 196, .inl fst)), (ik, .inl (G 2, 2, .inl fik))]) [0, 1, 2] (by decide) rfl
    refine W.widen (k := 0) (n := 0) (Nat.le_of_ble_eq_true rfl) (Nat.le_of_ble_eq_true rfl) ?_
    have tn2989_ : nIT N := fun _ => nI_toInt (by first | omega | (have t_b9 := b9; omega))
    have tn2990_ : nIT B := fun _ => nI_toInt (by first | omega | (have t_b9 := b9; omega))
    have tn2991_ : nIT T := fun _ => nI_toInt (by first | omega | (have t_b9 := b9; omega))
    have tn2992_ : nIT S := fun _ => nI_toInt (by first | omega | (have t_b9 := b9; omega))
    have tn2993_ : nIT M := fun _ => nI_toInt (by first | omega | (have t_b9 := b9; omega))
    exact W.iret (v := (-1)) hx hb hr (fun t ht hW => ⟨⟨(-1), fst, rfl, ⟨hpost, ⟨hst, (by first | (rw [if_neg (fun h9 => by have h8 := h9.1; (have t_b9 := b9; have t_n0 : (nI N).toInt = (N : Int) := tn2989_ (); have t_n1 : (nI B).toInt = (B : Int) := tn2990_ (); have t_n2 : (nI T).toInt = (T : Int) := tn2991_ (); have t_n3 : (nI S).toInt = (S : Int) := tn2992_ (); have t_n4 : (nI M).toInt = (M : Int) := tn2993_ (); have z0 : (0 : Int32).toInt = 0 := qI_0; have z1 : (1 : Int32).toInt = 1 := qI_1; have z2 : (2 : Int32).toInt = 2 := qI_2; have z3 : (3 : Int32).toInt = 3 := qI_3; have z5 : (5 : Int32).toInt = 5 := qI_5; have z9 : (9 : Int32).toInt = 9 := qI_9; have z20 : (20 : Int32).toInt = 20 := qI_20; have z4 : (-4 : Int32).toInt = -4 := (by decide); have z10 : (10 : Int32).toInt = 10 := qI_10; omega))]; done) | (rw [nI_clamp (by (have t_b9 := b9; have t_n0 : (nI N).toInt = (N : Int) := tn2989_ (); have t_n1 : (nI B).toInt = (B : Int) := tn2990_ (); have t_n2 : (nI T).toInt = (T : Int) := tn2991_ (); have t_n3 : (nI S).toInt = (S : Int) := tn2992_ (); have t_n4 : (nI M).toInt = (M : Int) := tn2993_ (); have z0 : (0 : Int32).toInt = 0 := qI_0; have z1 : (1 : Int32).toInt = 1 := qI_1; have z2 : (2 : Int32).toInt = 2 := qI_2; have z3 : (3 : Int32).toInt = 3 := qI_3; have z5 : (5 : Int32).toInt = 5 := qI_5; have z9 : (9 : Int32).toInt = 9 := qI_9; have z20 : (20 : Int32).toInt = 20 := qI_20; have z4 : (-4 : Int32).toInt = -4 := (by decide); have z10 : (10 : Int32).toInt = 10 := qI_10; omega)), if_neg (fun h9 => h9.2 (by assumption))]; done))⟩⟩, ⟨by rw [ht]; exact hP9, hD9⟩⟩, hS.F ht⟩) hS.2.2 dX11_back_11

set_option maxHeartbeats 1000000 in
set_option maxRecDepth 100000 in
theorem c_X11_putsW (l : Launch) (dC : Nat → ClassId) (dI : Nat → Nat → Nat) (G : Nat → ClassId) (sz : Nat) (h0 st N B rp tp T cu lt od th be ln S ma M ah bh ik la lg ce : Nat) (i v vrs vrb vhs vca vxs vxb vfa vbr vba vsp vhe vtk vva vto : Int32) (fst : Nat → Int32) (hN : N ≤ 10) (hB : B ≤ 6) (hT : T ≤ 320) (hS0 : S ≤ 8) (hM : M ≤ 6) (hst : OKS fst) : Met l yX11_puts (Cond.code yX11_puts cX11_puts 3 (some .int) :: GT) ({ frames := 2, cells := 0, slots := 0, locals := 46 } : Room) (PcW [.ref h0, .int i, .int v] dC dI G [(h0, .inr (11, [.ref st, .int (nI N), .int (nI B), .ref rp, .int vrs, .int vrb, .int vhs, .int vca, .int vxs, .int vxb, .ref tp, .int (nI T), .int vfa, .int vbr, .int vba, .int vsp, .int vhe, .int vtk, .int vva, .ref cu, .ref lt, .ref od, .ref th, .ref be, .ref ln, .int (nI S), .ref ma, .int (nI M), .ref ah, .ref bh, .ref ik, .ref la, .ref lg, .ref ce, .int vto])), (st, .inl (G 0, 196, .inl fst))] sz) (va_Qi (fun (r : Int32) (u : (Nat → Int32)) => match u with | ost => (True) ∧ OKS ost ∧ NO fst ost) (fun (u : (Nat → Int32)) (t : State) => match u with | ost => va_P (dC, dI) vwCl [(h0, .inr (11, [.ref st, .int (nI N), .int (nI B), .ref rp, .int vrs, .int vrb, .int vhs, .int vca, .int vxs, .int vxb, .ref tp, .int (nI T), .int vfa, .int vbr, .int vba, .int vsp, .int vhe, .int vtk, .int vva, .ref cu, .ref lt, .ref od, .ref th, .ref be, .ref ln, .int (nI S), .ref ma, .int (nI M), .ref ah, .ref bh, .ref ik, .ref la, .ref lg, .ref ce, .int vto])), (st, .inl (G 0, 196, .inl ost))] t.heap ∧ va_D (va_A [(h0, .inr (11, [.ref st, .int (nI N), .int (nI B), .ref rp, .int vrs, .int vrb, .int vhs, .int vca, .int vxs, .int vxb, .ref tp, .int (nI T), .int vfa, .int vbr, .int vba, .int vsp, .int vhe, .int vtk, .int vva, .ref cu, .ref lt, .ref od, .ref th, .ref be, .ref ln, .int (nI S), .ref ma, .int (nI M), .ref ah, .ref bh, .ref ik, .ref la, .ref lg, .ref ce, .int vto])), (st, .inl (G 0, 196, .inl fst))] sz) [(h0, .inr (11, [.ref st, .int (nI N), .int (nI B), .ref rp, .int vrs, .int vrb, .int vhs, .int vca, .int vxs, .int vxb, .ref tp, .int (nI T), .int vfa, .int vbr, .int vba, .int vsp, .int vhe, .int vtk, .int vva, .ref cu, .ref lt, .ref od, .ref th, .ref be, .ref ln, .int (nI S), .ref ma, .int (nI M), .ref ah, .ref bh, .ref ik, .ref la, .ref lg, .ref ce, .int vto])), (st, .inl (G 0, 196, .inl ost))]) (va_A [(h0, .inr (11, [.ref st, .int (nI N), .int (nI B), .ref rp, .int vrs, .int vrb, .int vhs, .int vca, .int vxs, .int vxb, .ref tp, .int (nI T), .int vfa, .int vbr, .int vba, .int vsp, .int vhe, .int vtk, .int vva, .ref cu, .ref lt, .ref od, .ref th, .ref be, .ref ln, .int (nI S), .ref ma, .int (nI M), .ref ah, .ref bh, .ref ik, .ref la, .ref lg, .ref ce, .int vto])), (st, .inl (G 0, 196, .inl fst))] sz)) 0 0 (va_A [(h0, .inr (11, [.ref st, .int (nI N), .int (nI B), .ref rp, .int vrs, .int vrb, .int vhs, .int vca, .int vxs, .int vxb, .ref tp, .int (nI T), .int vfa, .int vbr, .int vba, .int vsp, .int vhe, .int vtk, .int vva, .ref cu, .ref lt, .ref od, .ref th, .ref be, .ref ln, .int (nI S), .ref ma, .int (nI M), .ref ah, .ref bh, .ref ik, .ref la, .ref lg, .ref ce, .int vto])), (st, .inl (G 0, 196, .inl fst))] sz) := by
  have hB_ := hB
  have hM_ := hM
  have hT_ := hT
  refine Met.ofW (cc := cX11_puts) (maxL := 3) (ret := (some .int)) (by decide) rfl ?_
  intro p e s m args below meth c s₁ Bd hml hv
  obtain ⟨rfl, hsz, hP, hK, hD0⟩ := hv
  have hx := Bd.exec
  have hb := Bd.bytes
  have hr := Bd.returns
  have hg : ∀ w ∈ GT, w.before ([.ref h0, .int i, .int v] : List Value).toArray s = true := fun w h => atoms_spec (ws := Cond.code yX11_puts cX11_puts 3 (some .int) :: GT) Bd.pre w (List.mem_cons_of_mem _ h)
  have hown : s.vm.findClass RX11 = some m.cls := findClass_of_methodNamed Bd.named
  have hlocks := Bd.notSynchronized
  subst hsz
  have hD := hD0.self (sz := s.heap.size)
  generalize hAe : va_A [(h0, .inr (11, [.ref st, .int (nI N), .int (nI B), .ref rp, .int vrs, .int vrb, .int vhs, .int vca, .int vxs, .int vxb, .ref tp, .int (nI T), .int vfa, .int vbr, .int vba, .int vsp, .int vhe, .int vtk, .int vva, .ref cu, .ref lt, .ref od, .ref th, .ref be, .ref ln, .int (nI S), .ref ma, .int (nI M), .ref ah, .ref bh, .ref ik, .ref la, .ref lg, .ref ce, .int vto])), (st, .inl (G 0, 196, .inl fst))] s.heap.size = A at hD ⊢
  have hA : ∀ q : Nat, s.heap.size ≤ q → A q := fun q h => by rw [← hAe]; exact Or.inr h
  have hS : va_S A s.heap s.heap [] := va_S.rf
  have hl := lv_entry ([.ref h0, .int i, .int v]) (n := 3) (Nat.le_of_ble_eq_true rfl)
  rw [lg_entry_eq]
  generalize (lg_sl ([.ref h0, .int i, .int v]) ++ List.replicate (3 - (lg_sl ([.ref h0, .int i, .int v])).length) Slot.unset).toArray = ls at hl ⊢
  have hl : lv_has ls 3 [(0, .ref h0), (1, .int i), (2, .int v)] := hl
  refine lv_aload_n hx hb dX11_puts_0 rfl (lv_at hl 0 rfl) ?_
  refine lv_aload_n hx hb dX11_puts_1 rfl (lv_at hl 0 rfl) ?_
  refine lv_iload_n hx hb dX11_puts_2 rfl (lv_at hl 1 rfl) ?_
  have hPc := hP.sub (ws' := [(h0, .inr (11, [.ref st, .int (nI N), .int (nI B), .ref rp, .int vrs, .int vrb, .int vhs, .int vca, .int vxs, .int vxb, .ref tp, .int (nI T), .int vfa, .int vbr, .int vba, .int vsp, .int vhe, .int vtk, .int vva, .ref cu, .ref lt, .ref od, .ref th, .ref be, .ref ln, .int (nI S), .ref ma, .int (nI M), .ref ah, .ref bh, .ref ik, .ref la, .ref lg, .ref ce, .int vto]))]) [0] rfl
  have tn2994_ : nIT N := fun _ => nI_toInt (by omega)
  have tn2995_ : nIT B := fun _ => nI_toInt (by omega)
  have tn2996_ : nIT T := fun _ => nI_toInt (by omega)
  have tn2997_ : nIT S := fun _ => nI_toInt (by omega)
  have tn2998_ : nIT M := fun _ => nI_toInt (by omega)
  refine va_calli (va_runV (As := [.int i]) (rest := [.ref h0]) ⟨hx, hb, hml, hown, hg⟩ (c_X11_isStretch l dC dI G _ h0 st N B rp tp T cu lt od th be ln S ma M ah bh ik la lg ce i vrs vrb vhs vca vxs vxb vfa vbr vba vsp vhe vtk vva vto hN hB_ hT_ hS0 hM_) (kwV hg mfX11_isStretch wt_1052 ⟨Nat.le_of_ble_eq_true rfl, Nat.le_of_ble_eq_true rfl⟩) (preVR hK hPc (ci := 11) rfl rfl) rfl rfl hl.1 rfl (lv_room (Nat.le_of_ble_eq_true rfl)) dX11_puts_3 ⟨Nat.le_of_ble_eq_true rfl, Nat.le_of_ble_eq_true rfl⟩) hS (fun q h1 h2 => absurd h2 (Nat.not_le.mpr h1)) (fun q h => hA q (Nat.le_trans hS.1 h)) (fun r1 ur1 t H1 locs ht hvm w2 hB hz1 hk1 hS => ?_)
  have hP := keepR hP hk1
  obtain ⟨w2, w2x⟩ := w2
  try simp only [l_ii, show (0 : Int32).toInt = 0 from by decide] at w2
  try rw [show (nI (N)).toInt = ((N : Nat) : Int) from tn2994_ ()] at w2
  subst w2
  refine lv_if_eq (tgt := 21) hx hb dX11_puts_6 (by decide) (fun c3 => ?_) (fun c3 => ?_)
  · skip
    have b4 := if10_n c3
    refine lv_iconst (v := 0) hx hb dX11_puts_21 (by decide) ?_
    refine lv_bipush (v := 38) hx hb dX11_puts_22 (by decide) ?_
    refine lv_iload_n hx hb dX11_puts_24 rfl (lv_at hl 1 rfl) ?_
    refine lv_iadd hx hb dX11_puts_25 ?_
    refine lv_iload_n hx hb dX11_puts_26 rfl (lv_at hl 2 rfl) ?_
    have hPc := hP.sub (ws' := [(h0, .inr (11, [.ref st, .int (nI N), .int (nI B), .ref rp, .int vrs, .int vrb, .int vhs, .int vca, .int vxs, .int vxb, .ref tp, .int (nI T), .int vfa, .int vbr, .int vba, .int vsp, .int vhe, .int vtk, .int vva, .ref cu, .ref lt, .ref od, .ref th, .ref be, .ref ln, .int (nI S), .ref ma, .int (nI M), .ref ah, .ref bh, .ref ik, .ref la, .ref lg, .ref ce, .int vto])), (st, .inl (G 0, 196, .inl fst))]) [0, 1] rfl
    have hDc := hD.sub (ws' := [(h0, .inr (11, [.ref st, .int (nI N), .int (nI B), .ref rp, .int vrs, .int vrb, .int vhs, .int vca, .int vxs, .int vxb, .ref tp, .int (nI T), .int vfa, .int vbr, .int vba, .int vsp, .int vhe, .int vtk, .int vva, .ref cu, .ref lt, .ref od, .ref th, .ref be, .ref ln, .int (nI S), .ref ma, .int (nI M), .ref ah, .ref bh, .ref ik, .ref la, .ref lg, .ref ce, .int vto])), (st, .inl (G 0, 196, .inl fst))]) [0, 1] (by decide) rfl
    have hFc := va_free (wc := [(h0, .inr (11, [.ref st, .int (nI N), .int (nI B), .ref rp, .int vrs, .int vrb, .int vhs, .int vca, .int vxs, .int vxb, .ref tp, .int (nI T), .int vfa, .int vbr, .int vba, .int vsp, .int vhe, .int vtk, .int vva, .ref cu, .ref lt, .ref od, .ref th, .ref be, .ref ln, .int (nI S), .ref ma, .int (nI M), .ref ah, .ref bh, .ref ik, .ref la, .ref lg, .ref ce, .int vto])), (st, .inl (G 0, 196, .inl fst))]) hD hS hA [0, 1] rfl
    refine va_calli (va_runV (As := [.int 0, .int (38 + i), .int v]) (rest := []) ⟨hx, hb, hml, hown, hg⟩ (c_X11_sets0E l dC dI G _ h0 st N B rp tp T cu lt od th be ln S ma M ah bh ik la lg ce (38 + i) v vrs vrb vhs vca vxs vxb vfa vbr vba vsp vhe vtk vva vto fst hN hB_ hT_ hS0 hM_ hst) (kwV hg mfX11_sets wt_1070 ⟨Nat.le_of_ble_eq_true rfl, Nat.le_of_ble_eq_true rfl⟩) (preVW hK hPc hDc (ci := 11) rfl rfl) rfl rfl hl.1 rfl (lv_room (Nat.le_of_ble_eq_true rfl)) dX11_puts_27 ⟨Nat.le_of_ble_eq_true rfl, Nat.le_of_ble_eq_true rfl⟩) hS (fun q _ h => hFc q h) hFc (fun r5 ur5 t H1 locs ht hvm w6 hB hz1 hk1 hS => ?_)
    obtain ⟨u7, rfl⟩ : ∃ z, z = ur5 := ⟨_, rfl⟩
    obtain ⟨hP1, hD1⟩ := hB
    rw [ht] at hP1
    obtain ⟨hP, hD⟩ := va_join (wr := []) (w1 := [(h0, .inr (11, [.ref st, .int (nI N), .int (nI B), .ref rp, .int vrs, .int vrb, .int vhs, .int vca, .int vxs, .int vxb, .ref tp, .int (nI T), .int vfa, .int vbr, .int vba, .int vsp, .int vhe, .int vtk, .int vva, .ref cu, .ref lt, .ref od, .ref th, .ref be, .ref ln, .int (nI S), .ref ma, .int (nI M), .ref ah, .ref bh, .ref ik, .ref la, .ref lg, .ref ce, .int vto])), (st, .inl (G 0, 196, .inl u7))]) hP hD [0, 1] [] rfl rfl (by decide) (by decide) hk1 hFc hP1 hD1
    generalize H1 = H at hP hS ⊢
    have hP : va_P (dC, dI) vwCl [(h0, .inr (11, [.ref st, .int (nI N), .int (nI B), .ref rp, .int vrs, .int vrb, .int vhs, .int vca, .int vxs, .int vxb, .ref tp, .int (nI T), .int vfa, .int vbr, .int vba, .int vsp, .int vhe, .int vtk, .int vva, .ref cu, .ref lt, .ref od, .ref th, .ref be, .ref ln, .int (nI S), .ref ma, .int (nI M), .ref ah, .ref bh, .ref ik, .ref la, .ref lg, .ref ce, .int vto])), (st, .inl (G 0, 196, .inl u7))] H := hP
    have hD : va_D A [(h0, .inr (11, [.ref st, .int (nI N), .int (nI B), .ref rp, .int vrs, .int vrb, .int vhs, .int vca, .int vxs, .int vxb, .ref tp, .int (nI T), .int vfa, .int vbr, .int vba, .int vsp, .int vhe, .int vtk, .int vva, .ref cu, .ref lt, .ref od, .ref th, .ref be, .ref ln, .int (nI S), .ref ma, .int (nI M), .ref ah, .ref bh, .ref ik, .ref la, .ref lg, .ref ce, .int vto])), (st, .inl (G 0, 196, .inl u7))] := hD
    obtain ⟨w6, w6x⟩ := w6
    have hpost : True := by
      trivial
    have hP9 := hP.sub (ws' := [(h0, .inr (11, [.ref st, .int (nI N), .int (nI B), .ref rp, .int vrs, .int vrb, .int vhs, .int vca, .int vxs, .int vxb, .ref tp, .int (nI T), .int vfa, .int vbr, .int vba, .int vsp, .int vhe, .int vtk, .int vva, .ref cu, .ref lt, .ref od, .ref th, .ref be, .ref ln, .int (nI S), .ref ma, .int (nI M), .ref ah, .ref bh, .ref ik, .ref la, .ref lg, .ref ce, .int vto])), (st, .inl (G 0, 196, .inl u7))]) [0, 1] rfl
    have hD9 := hD.sub (ws' := [(h0, .inr (11, [.ref st, .int (nI N), .int (nI B), .ref rp, .int vrs, .int vrb, .int vhs, .int vca, .int vxs, .int vxb, .ref tp, .int (nI T), .int vfa, .int vbr, .int vba, .int vsp, .int vhe, .int vtk, .int vva, .ref cu, .ref lt, .ref od, .ref th, .ref be, .ref ln, .int (nI S), .ref ma, .int (nI M), .ref ah, .ref bh, .ref ik, .ref la, .ref lg, .ref ce, .int vto])), (st, .inl (G 0, 196, .inl u7))]) [0, 1] (by decide) rfl
    refine W.widen (k := 0) (n := 0) (Nat.le_of_ble_eq_true rfl) (Nat.le_of_ble_eq_true rfl) ?_
    exact W.iret (v := r5) hx hb hr (fun t ht hW => ⟨⟨r5, u7, rfl, ⟨hpost, ⟨w6x.1, (by rw [w6x.2]; exact NO.rf)⟩⟩, ⟨by rw [ht]; exact hP9, hD9⟩⟩, hS.F ht⟩) hS.2.2 dX11_puts_30
  · skip
    have b8 := if10_p c3
    refine lv_aload_n hx hb dX11_puts_9 rfl (lv_at hl 0 rfl) ?_
    refine lv_iload_n hx hb dX11_puts_10 rfl (lv_at hl 2 rfl) ?_
    have hPc := hP.sub (ws' := [(h0, .inr (11, [.ref st, .int (nI N), .int (nI B), .ref rp, .int vrs, .int vrb, .int vhs, .int vca, .int vxs, .int vxb, .ref tp, .int (nI T), .int vfa, .int vbr, .int vba, .int vsp, .int vhe, .int vtk, .int vva, .ref cu, .ref lt, .ref od, .ref th, .ref be, .ref ln, .int (nI S), .ref ma, .int (nI M), .ref ah, .ref bh, .ref ik, .ref la, .ref lg, .ref ce, .int vto]))]) [0] rfl
    refine va_calli (va_runV (As := [.int v]) (rest := [.ref h0]) ⟨hx, hb, hml, hown, hg⟩ (c_X11_isBearer l dC dI G _ h0 st N B rp tp T cu lt od th be ln S ma M ah bh ik la lg ce v vrs vrb vhs vca vxs vxb vfa vbr vba vsp vhe vtk vva vto hN hB_ hT_ hS0 hM_) (kwV hg mfX11_isBearer wt_1061 ⟨Nat.le_of_ble_eq_true rfl, Nat.le_of_ble_eq_true rfl⟩) (preVR hK hPc (ci := 11) rfl rfl) rfl rfl hl.1 rfl (lv_room (Nat.le_of_ble_eq_true rfl)) dX11_puts_11 ⟨Nat.le_of_ble_eq_true rfl, Nat.le_of_ble_eq_true rfl⟩) hS (fun q h1 h2 => absurd h2 (Nat.not_le.mpr h1)) (fun q h => hA q (Nat.le_trans hS.1 h)) (fun r9 ur9 t H1 locs ht hvm w10 hB hz1 hk1 hS => ?_)
    have hP := keepR hP hk1
    obtain ⟨w10, w10x⟩ := w10
    try simp only [l_ii, show (0 : Int32).toInt = 0 from by decide] at w10
    try rw [show (nI (B)).toInt = ((B : Nat) : Int) from tn2995_ ()] at w10
    subst w10
    refine lv_if_eq (tgt := 21) hx hb dX11_puts_14 (by decide) (fun c11 => ?_) (fun c11 => ?_)
    · skip
      have b12 := if10_n c11
      refine lv_iconst (v := 0) hx hb dX11_puts_21 (by decide) ?_
      refine lv_bipush (v := 38) hx hb dX11_puts_22 (by decide) ?_
      refine lv_iload_n hx hb dX11_puts_24 rfl (lv_at hl 1 rfl) ?_
      refine lv_iadd hx hb dX11_puts_25 ?_
      refine lv_iload_n hx hb dX11_puts_26 rfl (lv_at hl 2 rfl) ?_
      have hPc := hP.sub (ws' := [(h0, .inr (11, [.ref st, .int (nI N), .int (nI B), .ref rp, .int vrs, .int vrb, .int vhs, .int vca, .int vxs, .int vxb, .ref tp, .int (nI T), .int vfa, .int vbr, .int vba, .int vsp, .int vhe, .int vtk, .int vva, .ref cu, .ref lt, .ref od, .ref th, .ref be, .ref ln, .int (nI S), .ref ma, .int (nI M), .ref ah, .ref bh, .ref ik, .ref la, .ref lg, .ref ce, .int vto])), (st, .inl (G 0, 196, .inl fst))]) [0, 1] rfl
      have hDc := hD.sub (ws' := [(h0, .inr (11, [.ref st, .int (nI N), .int (nI B), .ref rp, .int vrs, .int vrb, .int vhs, .int vca, .int vxs, .int vxb, .ref tp, .int (nI T), .int vfa, .int vbr, .int vba, .int vsp, .int vhe, .int vtk, .int vva, .ref cu, .ref lt, .ref od, .ref th, .ref be, .ref ln, .int (nI S), .ref ma, .int (nI M), .ref ah, .ref bh, .ref ik, .ref la, .ref lg, .ref ce, .int vto])), (st, .inl (G 0, 196, .inl fst))]) [0, 1] (by decide) rfl
      have hFc := va_free (wc := [(h0, .inr (11, [.ref st, .int (nI N), .int (nI B), .ref rp, .int vrs, .int vrb, .int vhs, .int vca, .int vxs, .int vxb, .ref tp, .int (nI T), .int vfa, .int vbr, .int vba, .int vsp, .int vhe, .int vtk, .int vva, .ref cu, .ref lt, .ref od, .ref th, .ref be, .ref ln, .int (nI S), .ref ma, .int (nI M), .ref ah, .ref bh, .ref ik, .ref la, .ref lg, .ref ce, .int vto])), (st, .inl (G 0, 196, .inl fst))]) hD hS hA [0, 1] rfl
      refine va_calli (va_runV (As := [.int 0, .int (38 + i), .int v]) (rest := []) ⟨hx, hb, hml, hown, hg⟩ (c_X11_sets0E l dC dI G _ h0 st N B rp tp T cu lt od th be ln S ma M ah bh ik la lg ce (38 + i) v vrs vrb vhs vca vxs vxb vfa vbr vba vsp vhe vtk vva vto fst hN hB_ hT_ hS0 hM_ hst) (kwV hg mfX11_sets wt_1070 ⟨Nat.le_of_ble_eq_true rfl, Nat.le_of_ble_eq_true rfl⟩) (preVW hK hPc hDc (ci := 11) rfl rfl) rfl rfl hl.1 rfl (lv_room (Nat.le_of_ble_eq_true rfl)) dX11_puts_27 ⟨Nat.le_of_ble_eq_true rfl, Nat.le_of_ble_eq_true rfl⟩) hS (fun q _ h => hFc q h) hFc (fun r13 ur13 t H1 locs ht hvm w14 hB hz1 hk1 hS => ?_)
      obtain ⟨u15, rfl⟩ : ∃ z, z = ur13 := ⟨_, rfl⟩
      obtain ⟨hP1, hD1⟩ := hB
      rw [ht] at hP1
      obtain ⟨hP, hD⟩ := va_join (wr := []) (w1 := [(h0, .inr (11, [.ref st, .int (nI N), .int (nI B), .ref rp, .int vrs, .int vrb, .int vhs, .int vca, .int vxs, .int vxb, .ref tp, .int (nI T), .int vfa, .int vbr, .int vba, .int vsp, .int vhe, .int vtk, .int vva, .ref cu, .ref lt, .ref od, .ref th, .ref be, .ref ln, .int (nI S), .ref ma, .int (nI M), .ref ah, .ref bh, .ref ik, .ref la, .ref lg, .ref ce, .int vto])), (st, .inl (G 0, 196, .inl u15))]) hP hD [0, 1] [] rfl rfl (by decide) (by decide) hk1 hFc hP1 hD1
      generalize H1 = H at hP hS ⊢
      have hP : va_P (dC, dI) vwCl [(h0, .inr (11, [.ref st, .int (nI N), .int (nI B), .ref rp, .int vrs, .int vrb, .int vhs, .int vca, .int vxs, .int vxb, .ref tp, .int (nI T), .int vfa, .int vbr, .int vba, .int vsp, .int vhe, .int vtk, .int vva, .ref cu, .ref lt, .ref od, .ref th, .ref be, .ref ln, .int (nI S), .ref ma, .int (nI M), .ref ah, .ref bh, .ref ik, .ref la, .ref lg, .ref ce, .int vto])), (st, .inl (G 0, 196, .inl u15))] H := hP
      have hD : va_D A [(h0, .inr (11, [.ref st, .int (nI N), .int (nI B), .ref rp, .int vrs, .int vrb, .int vhs, .int vca, .int vxs, .int vxb, .ref tp, .int (nI T), .int vfa, .int vbr, .int vba, .int vsp, .int vhe, .int vtk, .int vva, .ref cu, .ref lt, .ref od, .ref th, .ref be, .ref ln, .int (nI S), .ref ma, .int (nI M), .ref ah, .ref bh, .ref ik, .ref la, .ref lg, .ref ce, .int vto])), (st, .inl (G 0, 196, .inl u15))] := hD
      obtain ⟨w14, w14x⟩ := w14
      have hpost : True := by
        trivial
      have hP9 := hP.sub (ws' := [(h0, .inr (11, [.ref st, .int (nI N), .int (nI B), .ref rp, .int vrs, .int vrb, .int vhs, .int vca, .int vxs, .int vxb, .ref tp, .int (nI T), .int vfa, .int vbr, .int vba, .int vsp, .int vhe, .int vtk, .int vva, .ref cu, .ref lt, .ref od, .ref th, .ref be, .ref ln, .int (nI S), .ref ma, .int (nI M), .ref ah, .ref bh, .ref ik, .ref la, .ref lg, .ref ce, .int vto])), (st, .inl (G 0, 196, .inl u15))]) [0, 1] rfl
      have hD9 := hD.sub (ws' := [(h0, .inr (11, [.ref st, .int (nI N), .int (nI B), .ref rp, .int vrs, .int vrb, .int vhs, .int vca, .int vxs, .int vxb, .ref tp, .int (nI T), .int vfa, .int vbr, .int vba, .int vsp, .int vhe, .int vtk, .int vva, .ref cu, .ref lt, .ref od, .ref th, .ref be, .ref ln, .int (nI S), .ref ma, .int (nI M), .ref ah, .ref bh, .ref ik, .ref la, .ref lg, .ref ce, .int vto])), (st, .inl (G 0, 196, .inl u15))]) [0, 1] (by decide) rfl
      refine W.widen (k := 0) (n := 0) (Nat.le_of_ble_eq_true rfl) (Nat.le_of_ble_eq_true rfl) ?_
      exact W.iret (v := r13) hx hb hr (fun t ht hW => ⟨⟨r13, u15, rfl, ⟨hpost, ⟨w14x.1, (by rw [w14x.2]; exact NO.rf)⟩⟩, ⟨by rw [ht]; exact hP9, hD9⟩⟩, hS.F ht⟩) hS.2.2 dX11_puts_30
    · skip
      have b16 := if10_p c11
      obtain ⟨ii, hii, rfl⟩ : ∃ j : Nat, j < 10 ∧ i = nI j := by
        have t_b8 := b8
        have t_b16 := b16
        have t_n0 : (nI N).toInt = (N : Int) := tn2994_ ()
        have t_n1 : (nI B).toInt = (B : Int) := tn2995_ ()
        have t_n2 : (nI T).toInt = (T : Int) := tn2996_ ()
        have t_n3 : (nI S).toInt = (S : Int) := tn2997_ ()
        have t_n4 : (nI M).toInt = (M : Int) := tn2998_ ()
        exact i32_nat (by omega) (by omega)
      refine lv_iconst (v := 1) hx hb dX11_puts_17 (by decide) ?_
      refine lv_goto (tgt := 22) hx hb dX11_puts_18 (by decide) ?_
      refine lv_bipush (v := 38) hx hb dX11_puts_22 (by decide) ?_
      refine lv_iload_n hx hb dX11_puts_24 rfl (lv_at hl 1 rfl) ?_
      refine lv_iadd hx hb dX11_puts_25 ?_
      refine lv_cg (y := nI (38 + ii)) (by rw [show (38 : Int32) = nI 38 from rfl]; exact nI_add _ _) ?_
      refine lv_iload_n hx hb dX11_puts_26 rfl (lv_at hl 2 rfl) ?_
      have hPc := hP.sub (ws' := [(h0, .inr (11, [.ref st, .int (nI N), .int (nI B), .ref rp, .int vrs, .int vrb, .int vhs, .int vca, .int vxs, .int vxb, .ref tp, .int (nI T), .int vfa, .int vbr, .int vba, .int vsp, .int vhe, .int vtk, .int vva, .ref cu, .ref lt, .ref od, .ref th, .ref be, .ref ln, .int (nI S), .ref ma, .int (nI M), .ref ah, .ref bh, .ref ik, .ref la, .ref lg, .ref ce, .int vto])), (st, .inl (G 0, 196, .inl fst))]) [0, 1] rfl
      have hDc := hD.sub (ws' := [(h0, .inr (11, [.ref st, .int (nI N), .int (nI B), .ref rp, .int vrs, .int vrb, .int vhs, .int vca, .int vxs, .int vxb, .ref tp, .int (nI T), .int vfa, .int vbr, .int vba, .int vsp, .int vhe, .int vtk, .int vva, .ref cu, .ref lt, .ref od, .ref th, .ref be, .ref ln, .int (nI S), .ref ma, .int (nI M), .ref ah, .ref bh, .ref ik, .ref la, .ref lg, .ref ce, .int vto])), (st, .inl (G 0, 196, .inl fst))]) [0, 1] (by decide) rfl
      have hFc := va_free (wc := [(h0, .inr (11, [.ref st, .int (nI N), .int (nI B), .ref rp, .int vrs, .int vrb, .int vhs, .int vca, .int vxs, .int vxb, .ref tp, .int (nI T), .int vfa, .int vbr, .int vba, .int vsp, .int vhe, .int vtk, .int vva, .ref cu, .ref lt, .ref od, .ref th, .ref be, .ref ln, .int (nI S), .ref ma, .int (nI M), .ref ah, .ref bh, .ref ik, .ref la, .ref lg, .ref ce, .int vto])), (st, .inl (G 0, 196, .inl fst))]) hD hS hA [0, 1] rfl
      have tn2999_ : nIT ii := fun _ => nI_toInt (by first | omega | (have t_b8 := b8; have t_b16 := b16; have t_hii := hii; omega))
      refine va_calli (va_runV (As := [.int 1, .int (nI (38 + ii)), .int v]) (rest := []) ⟨hx, hb, hml, hown, hg⟩ (c_X11_sets1E l dC dI G _ h0 (38 + ii) st N B rp tp T cu lt od th be ln S ma M ah bh ik la lg ce v vrs vrb vhs vca vxs vxb vfa vbr vba vsp vhe vtk vva vto fst hN hB_ hT_ hS0 hM_ hst (by first | omega | (have t_b8 := b8; have t_b16 := b16; have t_hii := hii; have t_n0 : (nI N).toInt = (N : Int) := tn2994_ (); have t_n1 : (nI B).toInt = (B : Int) := tn2995_ (); have t_n2 : (nI T).toInt = (T : Int) := tn2996_ (); have t_n3 : (nI S).toInt = (S : Int) := tn2997_ (); have t_n4 : (nI M).toInt = (M : Int) := tn2998_ (); have t_n5 : (nI ii).toInt = (ii : Int) := tn2999_ (); omega)) (okS_or (by have t_b8 := b8; have t_b16 := b16; have t_hii := hii; have t_n0 : (nI N).toInt = (N : Int) := tn2994_ (); have t_n1 : (nI B).toInt = (B : Int) := tn2995_ (); have t_n2 : (nI T).toInt = (T : Int) := tn2996_ (); have t_n3 : (nI S).toInt = (S : Int) := tn2997_ (); have t_n4 : (nI M).toInt = (M : Int) := tn2998_ (); have t_n5 : (nI ii).toInt = (ii : Int) := tn2999_ (); omega) (by have t_b8 := b8; have t_b16 := b16; have t_hii := hii; have t_n0 : (nI N).toInt = (N : Int) := tn2994_ (); have t_n1 : (nI B).toInt = (B : Int) := tn2995_ (); have t_n2 : (nI T).toInt = (T : Int) := tn2996_ (); have t_n3 : (nI S).toInt = (S : Int) := tn2997_ (); have t_n4 : (nI M).toInt = (M : Int) := tn2998_ (); have t_n5 : (nI ii).toInt = (ii : Int) := tn2999_ (); omega) (by have t_b8 := b8; have t_b16 := b16; have t_hii := hii; have t_n0 : (nI N).toInt = (N : Int) := tn2994_ (); have t_n1 : (nI B).toInt = (B : Int) := tn2995_ (); have t_n2 : (nI T).toInt = (T : Int) := tn2996_ (); have t_n3 : (nI S).toInt = (S : Int) := tn2997_ (); have t_n4 : (nI M).toInt = (M : Int) := tn2998_ (); have t_n5 : (nI ii).toInt = (ii : Int) := tn2999_ (); omega) (by have t_b8 := b8; have t_b16 := b16; have t_hii := hii; have t_n0 : (nI N).toInt = (N : Int) := tn2994_ (); have t_n1 : (nI B).toInt = (B : Int) := tn2995_ (); have t_n2 : (nI T).toInt = (T : Int) := tn2996_ (); have t_n3 : (nI S).toInt = (S : Int) := tn2997_ (); have t_n4 : (nI M).toInt = (M : Int) := tn2998_ (); have t_n5 : (nI ii).toInt = (ii : Int) := tn2999_ (); omega))) (kwV hg mfX11_sets wt_1070 ⟨Nat.le_of_ble_eq_true rfl, Nat.le_of_ble_eq_true rfl⟩) (preVW hK hPc hDc (ci := 11) rfl rfl) rfl rfl hl.1 rfl (lv_room (Nat.le_of_ble_eq_true rfl)) dX11_puts_27 ⟨Nat.le_of_ble_eq_true rfl, Nat.le_of_ble_eq_true rfl⟩) hS (fun q _ h => hFc q h) hFc (fun r17 ur17 t H1 locs ht hvm w18 hB hz1 hk1 hS => ?_)
      obtain ⟨u19, rfl⟩ : ∃ z, z = ur17 := ⟨_, rfl⟩
      obtain ⟨hP1, hD1⟩ := hB
      rw [ht] at hP1
      obtain ⟨hP, hD⟩ := va_join (wr := []) (w1 := [(h0, .inr (11, [.ref st, .int (nI N), .int (nI B), .ref rp, .int vrs, .int vrb, .int vhs, .int vca, .int vxs, .int vxb, .ref tp, .int (nI T), .int vfa, .int vbr, .int vba, .int vsp, .int vhe, .int vtk, .int vva, .ref cu, .ref lt, .ref od, .ref th, .ref be, .ref ln, .int (nI S), .ref ma, .int (nI M), .ref ah, .ref bh, .ref ik, .ref la, .ref lg, .ref ce, .int vto])), (st, .inl (G 0, 196, .inl u19))]) hP hD [0, 1] [] rfl rfl (by decide) (by decide) hk1 hFc hP1 hD1
      generalize H1 = H at hP hS ⊢
      have hP : va_P (dC, dI) vwCl [(h0, .inr (11, [.ref st, .int (nI N), .int (nI B), .ref rp, .int vrs, .int vrb, .int vhs, .int vca, .int vxs, .int vxb, .ref tp, .int (nI T), .int vfa, .int vbr, .int vba, .int vsp, .int vhe, .int vtk, .int vva, .ref cu, .ref lt, .ref od, .ref th, .ref be, .ref ln, .int (nI S), .ref ma, .int (nI M), .ref ah, .ref bh, .ref ik, .ref la, .ref lg, .ref ce, .int vto])), (st, .inl (G 0, 196, .inl u19))] H := hP
      have hD : va_D A [(h0, .inr (11, [.ref st, .int (nI N), .int (nI B), .ref rp, .int vrs, .int vrb, .int vhs, .int vca, .int vxs, .int vxb, .ref tp, .int (nI T), .int vfa, .int vbr, .int vba, .int vsp, .int vhe, .int vtk, .int vva, .ref cu, .ref lt, .ref od, .ref th, .ref be, .ref ln, .int (nI S), .ref ma, .int (nI M), .ref ah, .ref bh, .ref ik, .ref la, .ref lg, .ref ce, .int vto])), (st, .inl (G 0, 196, .inl u19))] := hD
      obtain ⟨w18, w18x⟩ := w18
      have hpost : True := by
        trivial
      have hP9 := hP.sub (ws' := [(h0, .inr (11, [.ref st, .int (nI N), .int (nI B), .ref rp, .int vrs, .int vrb, .int vhs, .int vca, .int vxs, .int vxb, .ref tp, .int (nI T), .int vfa, .int vbr, .int vba, .int vsp, .int vhe, .int vtk, .int vva, .ref cu, .ref lt, .ref od, .ref th, .ref be, .ref ln, .int (nI S), .ref ma, .int (nI M), .ref ah, .ref bh, .ref ik, .ref la, .ref lg, .ref ce, .int vto])), (st, .inl (G 0, 196, .inl u19))]) [0, 1] rfl
      have hD9 := hD.sub (ws' := [(h0, .inr (11, [.ref st, .int (nI N), .int (nI B), .ref rp, .int vrs, .int vrb, .int vhs, .int vca, .int vxs, .int vxb, .ref tp, .int (nI T), .int vfa, .int vbr, .int vba, .int vsp, .int vhe, .int vtk, .int vva, .ref cu, .ref lt, .ref od, .ref th, .ref be, .ref ln, .int (nI S), .ref ma, .int (nI M), .ref ah, .ref bh, .ref ik, .ref la, .ref lg, .ref ce, .int vto])), (st, .inl (G 0, 196, .inl u19))]) [0, 1] (by decide) rfl
      refine W.widen (k := 0) (n := 0) (Nat.le_of_ble_eq_true rfl) (Nat.le_of_ble_eq_true rfl) ?_
      exact W.iret (v := r17) hx hb hr (fun t ht hW => ⟨⟨r17, u19, rfl, ⟨hpost, ⟨w18x.1, (by have t_b8 := b8; have t_b16 := b16; have t_hii := hii; have t_n0 : (nI N).toInt = (N : Int) := tn2994_ (); have t_n1 : (nI B).toInt = (B : Int) := tn2995_ (); have t_n2 : (nI T).toInt = (T : Int) := tn2996_ (); have t_n3 : (nI S).toInt = (S : Int) := tn2997_ (); have t_n4 : (nI M).toInt = (M : Int) := tn2998_ (); have t_n5 : (nI ii).toInt = (ii : Int) := tn2999_ (); have z0 : (0 : Int32).toInt = 0 := qI_0; have z1 : (1 : Int32).toInt = 1 := qI_1; have z2 : (2 : Int32).toInt = 2 := qI_2; have z3 : (3 : Int32).toInt = 3 := qI_3; have z5 : (5 : Int32).toInt = 5 := qI_5; have z9 : (9 : Int32).toInt = 9 := qI_9; have z20 : (20 : Int32).toInt = 20 := qI_20; have z4 : (-4 : Int32).toInt = -4 := (by decide); have z10 : (10 : Int32).toInt = 10 := qI_10; rw [w18x.2]; exact NO.up (by omega))⟩⟩, ⟨by rw [ht]; exact hP9, hD9⟩⟩, hS.F ht⟩) hS.2.2 dX11_puts_30

set_option maxHeartbeats 1000000 in
set_option maxRecDepth 100000 in
theorem c_X11_putW (l : Launch) (dC : Nat → ClassId) (dI : Nat → Nat → Nat) (G : Nat → ClassId) (sz : Nat) (h0 st N B rp tp T cu lt od th be ln S ma M ah bh ik la lg ce : Nat) (i v vrs vrb vhs vca vxs vxb vfa vbr vba vsp vhe vtk vva vto : Int32) (fst : Nat → Int32) (hN : N ≤ 10) (hB : B ≤ 6) (hT : T ≤ 320) (hS0 : S ≤ 8) (hM : M ≤ 6) (hst : OKS fst) : Met l yX11_put (Cond.code yX11_put cX11_put 3 (some .int) :: GT) ({ frames := 3, cells := 0, slots := 0, locals := 68 } : Room) (PcW [.ref h0, .int i, .int v] dC dI G [(h0, .inr (11, [.ref st, .int (nI N), .int (nI B), .ref rp, .int vrs, .int vrb, .int vhs, .int vca, .int vxs, .int vxb, .ref tp, .int (nI T), .int vfa, .int vbr, .int vba, .int vsp, .int vhe, .int vtk, .int vva, .ref cu, .ref lt, .ref od, .ref th, .ref be, .ref ln, .int (nI S), .ref ma, .int (nI M), .ref ah, .ref bh, .ref ik, .ref la, .ref lg, .ref ce, .int vto])), (st, .inl (G 0, 196, .inl fst))] sz) (va_Qi (fun (r : Int32) (u : (Nat → Int32)) => match u with | ost => (True) ∧ OKS ost ∧ NO fst ost) (fun (u : (Nat → Int32)) (t : State) => match u with | ost => va_P (dC, dI) vwCl [(h0, .inr (11, [.ref st, .int (nI N), .int (nI B), .ref rp, .int vrs, .int vrb, .int vhs, .int vca, .int vxs, .int vxb, .ref tp, .int (nI T), .int vfa, .int vbr, .int vba, .int vsp, .int vhe, .int vtk, .int vva, .ref cu, .ref lt, .ref od, .ref th, .ref be, .ref ln, .int (nI S), .ref ma, .int (nI M), .ref ah, .ref bh, .ref ik, .ref la, .ref lg, .ref ce, .int vto])), (st, .inl (G 0, 196, .inl ost))] t.heap ∧ va_D (va_A [(h0, .inr (11, [.ref st, .int (nI N), .int (nI B), .ref rp, .int vrs, .int vrb, .int vhs, .int vca, .int vxs, .int vxb, .ref tp, .int (nI T), .int vfa, .int vbr, .int vba, .int vsp, .int vhe, .int vtk, .int vva, .ref cu, .ref lt, .ref od, .ref th, .ref be, .ref ln, .int (nI S), .ref ma, .int (nI M), .ref ah, .ref bh, .ref ik, .ref la, .ref lg, .ref ce, .int vto])), (st, .inl (G 0, 196, .inl fst))] sz) [(h0, .inr (11, [.ref st, .int (nI N), .int (nI B), .ref rp, .int vrs, .int vrb, .int vhs, .int vca, .int vxs, .int vxb, .ref tp, .int (nI T), .int vfa, .int vbr, .int vba, .int vsp, .int vhe, .int vtk, .int vva, .ref cu, .ref lt, .ref od, .ref th, .ref be, .ref ln, .int (nI S), .ref ma, .int (nI M), .ref ah, .ref bh, .ref ik, .ref la, .ref lg, .ref ce, .int vto])), (st, .inl (G 0, 196, .inl ost))]) (va_A [(h0, .inr (11, [.ref st, .int (nI N), .int (nI B), .ref rp, .int vrs, .int vrb, .int vhs, .int vca, .int vxs, .int vxb, .ref tp, .int (nI T), .int vfa, .int vbr, .int vba, .int vsp, .int vhe, .int vtk, .int vva, .ref cu, .ref lt, .ref od, .ref th, .ref be, .ref ln, .int (nI S), .ref ma, .int (nI M), .ref ah, .ref bh, .ref ik, .ref la, .ref lg, .ref ce, .int vto])), (st, .inl (G 0, 196, .inl fst))] sz)) 0 0 (va_A [(h0, .inr (11, [.ref st, .int (nI N), .int (nI B), .ref rp, .int vrs, .int vrb, .int vhs, .int vca, .int vxs, .int vxb, .ref tp, .int (nI T), .int vfa, .int vbr, .int vba, .int vsp, .int vhe, .int vtk, .int vva, .ref cu, .ref lt, .ref od, .ref th, .ref be, .ref ln, .int (nI S), .ref ma, .int (nI M), .ref ah, .ref bh, .ref ik, .ref la, .ref lg, .ref ce, .int vto])), (st, .inl (G 0, 196, .inl fst))] sz) := by
  have hB_ := hB
  have hM_ := hM
  have hT_ := hT
  refine Met.ofW (cc := cX11_put) (maxL := 3) (ret := (some .int)) (by decide) rfl ?_
  intro p e s m args below meth c s₁ Bd hml hv
  obtain ⟨rfl, hsz, hP, hK, hD0⟩ := hv
  have hx := Bd.exec
  have hb := Bd.bytes
  have hr := Bd.returns
  have hg : ∀ w ∈ GT, w.before ([.ref h0, .int i, .int v] : List Value).toArray s = true := fun w h => atoms_spec (ws := Cond.code yX11_put cX11_put 3 (some .int) :: GT) Bd.pre w (List.mem_cons_of_mem _ h)
  have hown : s.vm.findClass RX11 = some m.cls := findClass_of_methodNamed Bd.named
  have hlocks := Bd.notSynchronized
  subst hsz
  have hD := hD0.self (sz := s.heap.size)
  generalize hAe : va_A [(h0, .inr (11, [.ref st, .int (nI N), .int (nI B), .ref rp, .int vrs, .int vrb, .int vhs, .int vca, .int vxs, .int vxb, .ref tp, .int (nI T), .int vfa, .int vbr, .int vba, .int vsp, .int vhe, .int vtk, .int vva, .ref cu, .ref lt, .ref od, .ref th, .ref be, .ref ln, .int (nI S), .ref ma, .int (nI M), .ref ah, .ref bh, .ref ik, .ref la, .ref lg, .ref ce, .int vto])), (st, .inl (G 0, 196, .inl fst))] s.heap.size = A at hD ⊢
  have hA : ∀ q : Nat, s.heap.size ≤ q → A q := fun q h => by rw [← hAe]; exact Or.inr h
  have hS : va_S A s.heap s.heap [] := va_S.rf
  have hl := lv_entry ([.ref h0, .int i, .int v]) (n := 3) (Nat.le_of_ble_eq_true rfl)
  rw [lg_entry_eq]
  generalize (lg_sl ([.ref h0, .int i, .int v]) ++ List.replicate (3 - (lg_sl ([.ref h0, .int i, .int v])).length) Slot.unset).toArray = ls at hl ⊢
  have hl : lv_has ls 3 [(0, .ref h0), (1, .int i), (2, .int v)] := hl
  refine lv_aload_n hx hb dX11_put_0 rfl (lv_at hl 0 rfl) ?_
  refine lv_iload_n hx hb dX11_put_1 rfl (lv_at hl 1 rfl) ?_
  refine lv_iload_n hx hb dX11_put_2 rfl (lv_at hl 2 rfl) ?_
  have hPc := hP.sub (ws' := [(h0, .inr (11, [.ref st, .int (nI N), .int (nI B), .ref rp, .int vrs, .int vrb, .int vhs, .int vca, .int vxs, .int vxb, .ref tp, .int (nI T), .int vfa, .int vbr, .int vba, .int vsp, .int vhe, .int vtk, .int vva, .ref cu, .ref lt, .ref od, .ref th, .ref be, .ref ln, .int (nI S), .ref ma, .int (nI M), .ref ah, .ref bh, .ref ik, .ref la, .ref lg, .ref ce, .int vto])), (st, .inl (G 0, 196, .inl fst))]) [0, 1] rfl
  have hDc := hD.sub (ws' := [(h0, .inr (11, [.ref st, .int (nI N), .int (nI B), .ref rp, .int vrs, .int vrb, .int vhs, .int vca, .int vxs, .int vxb, .ref tp, .int (nI T), .int vfa, .int vbr, .int vba, .int vsp, .int vhe, .int vtk, .int vva, .ref cu, .ref lt, .ref od, .ref th, .ref be, .ref ln, .int (nI S), .ref ma, .int (nI M), .ref ah, .ref bh, .ref ik, .ref la, .ref lg, .ref ce, .int vto])), (st, .inl (G 0, 196, .inl fst))]) [0, 1] (by decide) rfl
  have hFc := va_free (wc := [(h0, .inr (11, [.ref st, .int (nI N), .int (nI B), .ref rp, .int vrs, .int vrb, .int vhs, .int vca, .int vxs, .int vxb, .ref tp, .int (nI T), .int vfa, .int vbr, .int vba, .int vsp, .int vhe, .int vtk, .int vva, .ref cu, .ref lt, .ref od, .ref th, .ref be, .ref ln, .int (nI S), .ref ma, .int (nI M), .ref ah, .ref bh, .ref ik, .ref la, .ref lg, .ref ce, .int vto])), (st, .inl (G 0, 196, .inl fst))]) hD hS hA [0, 1] rfl
  have tn3000_ : nIT N := fun _ => nI_toInt (by omega)
  have tn3001_ : nIT B := fun _ => nI_toInt (by omega)
  have tn3002_ : nIT T := fun _ => nI_toInt (by omega)
  have tn3003_ : nIT S := fun _ => nI_toInt (by omega)
  have tn3004_ : nIT M := fun _ => nI_toInt (by omega)
  refine va_calli (va_runV (As := [.int i, .int v]) (rest := []) ⟨hx, hb, hml, hown, hg⟩ (c_X11_putsW l dC dI G _ h0 st N B rp tp T cu lt od th be ln S ma M ah bh ik la lg ce i v vrs vrb vhs vca vxs vxb vfa vbr vba vsp vhe vtk vva vto fst hN hB_ hT_ hS0 hM_ hst) (kwV hg mfX11_puts wt_1094 ⟨Nat.le_of_ble_eq_true rfl, Nat.le_of_ble_eq_true rfl⟩) (preVW hK hPc hDc (ci := 11) rfl rfl) rfl rfl hl.1 rfl (lv_room (Nat.le_of_ble_eq_true rfl)) dX11_put_3 ⟨Nat.le_of_ble_eq_true rfl, Nat.le_of_ble_eq_true rfl⟩) hS (fun q _ h => hFc q h) hFc (fun r1 ur1 t H1 locs ht hvm w2 hB hz1 hk1 hS => ?_)
  obtain ⟨u3, rfl⟩ : ∃ z, z = ur1 := ⟨_, rfl⟩
  obtain ⟨hP1, hD1⟩ := hB
  rw [ht] at hP1
  obtain ⟨hP, hD⟩ := va_join (wr := []) (w1 := [(h0, .inr (11, [.ref st, .int (nI N), .int (nI B), .ref rp, .int vrs, .int vrb, .int vhs, .int vca, .int vxs, .int vxb, .ref tp, .int (nI T), .int vfa, .int vbr, .int vba, .int vsp, .int vhe, .int vtk, .int vva, .ref cu, .ref lt, .ref od, .ref th, .ref be, .ref ln, .int (nI S), .ref ma, .int (nI M), .ref ah, .ref bh, .ref ik, .ref la, .ref lg, .ref ce, .int vto])), (st, .inl (G 0, 196, .inl u3))]) hP hD [0, 1] [] rfl rfl (by decide) (by decide) hk1 hFc hP1 hD1
  generalize H1 = H at hP hS ⊢
  have hP : va_P (dC, dI) vwCl [(h0, .inr (11, [.ref st, .int (nI N), .int (nI B), .ref rp, .int vrs, .int vrb, .int vhs, .int vca, .int vxs, .int vxb, .ref tp, .int (nI T), .int vfa, .int vbr, .int vba, .int vsp, .int vhe, .int vtk, .int vva, .ref cu, .ref lt, .ref od, .ref th, .ref be, .ref ln, .int (nI S), .ref ma, .int (nI M), .ref ah, .ref bh, .ref ik, .ref la, .ref lg, .ref ce, .int vto])), (st, .inl (G 0, 196, .inl u3))] H := hP
  have hD : va_D A [(h0, .inr (11, [.ref st, .int (nI N), .int (nI B), .ref rp, .int vrs, .int vrb, .int vhs, .int vca, .int vxs, .int vxb, .ref tp, .int (nI T), .int vfa, .int vbr, .int vba, .int vsp, .int vhe, .int vtk, .int vva, .ref cu, .ref lt, .ref od, .ref th, .ref be, .ref ln, .int (nI S), .ref ma, .int (nI M), .ref ah, .ref bh, .ref ik, .ref la, .ref lg, .ref ce, .int vto])), (st, .inl (G 0, 196, .inl u3))] := hD
  obtain ⟨w2, w2x⟩ := w2
  have hpost : True := by
    trivial
  have hP9 := hP.sub (ws' := [(h0, .inr (11, [.ref st, .int (nI N), .int (nI B), .ref rp, .int vrs, .int vrb, .int vhs, .int vca, .int vxs, .int vxb, .ref tp, .int (nI T), .int vfa, .int vbr, .int vba, .int vsp, .int vhe, .int vtk, .int vva, .ref cu, .ref lt, .ref od, .ref th, .ref be, .ref ln, .int (nI S), .ref ma, .int (nI M), .ref ah, .ref bh, .ref ik, .ref la, .ref lg, .ref ce, .int vto])), (st, .inl (G 0, 196, .inl u3))]) [0, 1] rfl
  have hD9 := hD.sub (ws' := [(h0, .inr (11, [.ref st, .int (nI N), .int (nI B), .ref rp, .int vrs, .int vrb, .int vhs, .int vca, .int vxs, .int vxb, .ref tp, .int (nI T), .int vfa, .int vbr, .int vba, .int vsp, .int vhe, .int vtk, .int vva, .ref cu, .ref lt, .ref od, .ref th, .ref be, .ref ln, .int (nI S), .ref ma, .int (nI M), .ref ah, .ref bh, .ref ik, .ref la, .ref lg, .ref ce, .int vto])), (st, .inl (G 0, 196, .inl u3))]) [0, 1] (by decide) rfl
  refine W.widen (k := 0) (n := 0) (Nat.le_of_ble_eq_true rfl) (Nat.le_of_ble_eq_true rfl) ?_
  exact W.iret (v := r1) hx hb hr (fun t ht hW => ⟨⟨r1, u3, rfl, ⟨hpost, w2x⟩, ⟨by rw [ht]; exact hP9, hD9⟩⟩, hS.F ht⟩) hS.2.2 dX11_put_6

set_option maxHeartbeats 1000000 in
set_option maxRecDepth 100000 in
theorem c_X11_changesW (l : Launch) (dC : Nat → ClassId) (dI : Nat → Nat → Nat) (G : Nat → ClassId) (sz : Nat) (h0 i k st N B rp tp T cu lt od th be ln S ma M ah bh ik la lg ce : Nat) (vrs vrb vhs vca vxs vxb vfa vbr vba vsp vhe vtk vva vto : Int32) (fst : Nat → Int32) (hN : N ≤ 10) (hB : B ≤ 6) (hT : T ≤ 320) (hS0 : S ≤ 8) (hM : M ≤ 6) (hst : OKS fst) (hi : i < 10) (hk : k < 10) : Met l yX11_changes (Cond.code yX11_changes cX11_changes 4 none :: GT) ({ frames := 0, cells := 0, slots := 0, locals := 0 } : Room) (PcW [.ref h0, .int (nI i), .int (nI k)] dC dI G [(h0, .inr (11, [.ref st, .int (nI N), .int (nI B), .ref rp, .int vrs, .int vrb, .int vhs, .int vca, .int vxs, .int vxb, .ref tp, .int (nI T), .int vfa, .int vbr, .int vba, .int vsp, .int vhe, .int vtk, .int vva, .ref cu, .ref lt, .ref od, .ref th, .ref be, .ref ln, .int (nI S), .ref ma, .int (nI M), .ref ah, .ref bh, .ref ik, .ref la, .ref lg, .ref ce, .int vto])), (st, .inl (G 0, 196, .inl fst))] sz) (va_Qv (fun (u : (Nat → Int32)) => match u with | ost => OKS ost ∧ NO fst ost) (fun (u : (Nat → Int32)) (t : State) => match u with | ost => va_P (dC, dI) vwCl [(h0, .inr (11, [.ref st, .int (nI N), .int (nI B), .ref rp, .int vrs, .int vrb, .int vhs, .int vca, .int vxs, .int vxb, .ref tp, .int (nI T), .int vfa, .int vbr, .int vba, .int vsp, .int vhe, .int vtk, .int vva, .ref cu, .ref lt, .ref od, .ref th, .ref be, .ref ln, .int (nI S), .ref ma, .int (nI M), .ref ah, .ref bh, .ref ik, .ref la, .ref lg, .ref ce, .int vto])), (st, .inl (G 0, 196, .inl ost))] t.heap ∧ va_D (va_A [(h0, .inr (11, [.ref st, .int (nI N), .int (nI B), .ref rp, .int vrs, .int vrb, .int vhs, .int vca, .int vxs, .int vxb, .ref tp, .int (nI T), .int vfa, .int vbr, .int vba, .int vsp, .int vhe, .int vtk, .int vva, .ref cu, .ref lt, .ref od, .ref th, .ref be, .ref ln, .int (nI S), .ref ma, .int (nI M), .ref ah, .ref bh, .ref ik, .ref la, .ref lg, .ref ce, .int vto])), (st, .inl (G 0, 196, .inl fst))] sz) [(h0, .inr (11, [.ref st, .int (nI N), .int (nI B), .ref rp, .int vrs, .int vrb, .int vhs, .int vca, .int vxs, .int vxb, .ref tp, .int (nI T), .int vfa, .int vbr, .int vba, .int vsp, .int vhe, .int vtk, .int vva, .ref cu, .ref lt, .ref od, .ref th, .ref be, .ref ln, .int (nI S), .ref ma, .int (nI M), .ref ah, .ref bh, .ref ik, .ref la, .ref lg, .ref ce, .int vto])), (st, .inl (G 0, 196, .inl ost))]) (va_A [(h0, .inr (11, [.ref st, .int (nI N), .int (nI B), .ref rp, .int vrs, .int vrb, .int vhs, .int vca, .int vxs, .int vxb, .ref tp, .int (nI T), .int vfa, .int vbr, .int vba, .int vsp, .int vhe, .int vtk, .int vva, .ref cu, .ref lt, .ref od, .ref th, .ref be, .ref ln, .int (nI S), .ref ma, .int (nI M), .ref ah, .ref bh, .ref ik, .ref la, .ref lg, .ref ce, .int vto])), (st, .inl (G 0, 196, .inl fst))] sz)) 0 0 (va_A [(h0, .inr (11, [.ref st, .int (nI N), .int (nI B), .ref rp, .int vrs, .int vrb, .int vhs, .int vca, .int vxs, .int vxb, .ref tp, .int (nI T), .int vfa, .int vbr, .int vba, .int vsp, .int vhe, .int vtk, .int vva, .ref cu, .ref lt, .ref od, .ref th, .ref be, .ref ln, .int (nI S), .ref ma, .int (nI M), .ref ah, .ref bh, .ref ik, .ref la, .ref lg, .ref ce, .int vto])), (st, .inl (G 0, 196, .inl fst))] sz) := by
  refine Met.ofW (cc := cX11_changes) (maxL := 4) (ret := none) (by decide) rfl ?_
  intro p e s m args below meth c s₁ Bd hml hv
  obtain ⟨rfl, hsz, hP, hK, hD0⟩ := hv
  have hx := Bd.exec
  have hb := Bd.bytes
  have hr := Bd.returns
  have hg : ∀ w ∈ GT, w.before ([.ref h0, .int (nI i), .int (nI k)] : List Value).toArray s = true := fun w h => atoms_spec (ws := Cond.code yX11_changes cX11_changes 4 none :: GT) Bd.pre w (List.mem_cons_of_mem _ h)
  have hown : s.vm.findClass RX11 = some m.cls := findClass_of_methodNamed Bd.named
  have hlocks := Bd.notSynchronized
  subst hsz
  have hD := hD0.self (sz := s.heap.size)
  generalize hAe : va_A [(h0, .inr (11, [.ref st, .int (nI N), .int (nI B), .ref rp, .int vrs, .int vrb, .int vhs, .int vca, .int vxs, .int vxb, .ref tp, .int (nI T), .int vfa, .int vbr, .int vba, .int vsp, .int vhe, .int vtk, .int vva, .ref cu, .ref lt, .ref od, .ref th, .ref be, .ref ln, .int (nI S), .ref ma, .int (nI M), .ref ah, .ref bh, .ref ik, .ref la, .ref lg, .ref ce, .int vto])), (st, .inl (G 0, 196, .inl fst))] s.heap.size = A at hD ⊢
  have hA : ∀ q : Nat, s.heap.size ≤ q → A q := fun q h => by rw [← hAe]; exact Or.inr h
  have hS : va_S A s.heap s.heap [] := va_S.rf
  have hl := lv_entry ([.ref h0, .int (nI i), .int (nI k)]) (n := 4) (Nat.le_of_ble_eq_true rfl)
  rw [lg_entry_eq]
  generalize (lg_sl ([.ref h0, .int (nI i), .int (nI k)]) ++ List.replicate (4 - (lg_sl ([.ref h0, .int (nI i), .int (nI k)])).length) Slot.unset).toArray = ls at hl ⊢
  have hl : lv_has ls 4 [(0, .ref h0), (1, .int (nI i)), (2, .int (nI k))] := hl
  refine lv_aload_n hx hb dX11_changes_0 rfl (lv_at hl 0 rfl) ?_
  refine va_get (D := (dC, dI)) (ci := 11) (v := .ref st) (C := RX11) (T := TX11) (N := 35) hx hb hg inG11 hown hK.1 hP 0 rfl rfl 0 (by decide) (hg _ wt_878) (fun _ h9 => h9) rfl dX11_changes_1 ?_
  refine lv_bipush (v := 38) hx hb dX11_changes_4 (by decide) ?_
  refine lv_iload_n hx hb dX11_changes_6 rfl (lv_at hl 1 rfl) ?_
  refine lv_iadd hx hb dX11_changes_7 ?_
  refine lv_cg (y := nI (38 + i)) (by rw [show (38 : Int32) = nI 38 from rfl]; exact nI_add _ _) ?_
  have tn3005_ : nIT i := fun _ => nI_toInt (by omega)
  have tn3006_ : nIT k := fun _ => nI_toInt (by omega)
  have tn3007_ : nIT N := fun _ => nI_toInt (by omega)
  have tn3008_ : nIT B := fun _ => nI_toInt (by omega)
  have tn3009_ : nIT T := fun _ => nI_toInt (by omega)
  have tn3010_ : nIT S := fun _ => nI_toInt (by omega)
  have tn3011_ : nIT M := fun _ => nI_toInt (by omega)
  refine va_iald hx hb hK.1 hP 1 0 rfl rfl (vp_in_nI (by first | omega | (have t_n0 : (nI i).toInt = (i : Int) := tn3005_ (); have t_n1 : (nI k).toInt = (k : Int) := tn3006_ (); have t_n2 : (nI N).toInt = (N : Int) := tn3007_ (); have t_n3 : (nI B).toInt = (B : Int) := tn3008_ (); have t_n4 : (nI T).toInt = (T : Int) := tn3009_ (); have t_n5 : (nI S).toInt = (S : Int) := tn3010_ (); have t_n6 : (nI M).toInt = (M : Int) := tn3011_ (); omega)) (by decide)) dX11_changes_8 ?_
  refine lv_cg (y := fst (38 + i)) (by rw [nI_clamp (by omega)]) ?_
  refine lv_istore_n (lv' := [(3, .int (fst (38 + i))), (0, .ref h0), (1, .int (nI i)), (2, .int (nI k))]) hx hb dX11_changes_9 rfl hl (by decide) rfl (fun ls hl => ?_)
  refine lv_aload_n hx hb dX11_changes_10 rfl (lv_at hl 1 rfl) ?_
  refine va_get (D := (dC, dI)) (ci := 11) (v := .ref st) (C := RX11) (T := TX11) (N := 35) hx hb hg inG11 hown hK.1 hP 0 rfl rfl 0 (by decide) (hg _ wt_878) (fun _ h9 => h9) rfl dX11_changes_11 ?_
  refine lv_bipush (v := 38) hx hb dX11_changes_14 (by decide) ?_
  refine lv_iload_n hx hb dX11_changes_16 rfl (lv_at hl 2 rfl) ?_
  refine lv_iadd hx hb dX11_changes_17 ?_
  refine lv_cg (y := nI (38 + i)) (by rw [show (38 : Int32) = nI 38 from rfl]; exact nI_add _ _) ?_
  refine lv_aload_n hx hb dX11_changes_18 rfl (lv_at hl 1 rfl) ?_
  refine va_get (D := (dC, dI)) (ci := 11) (v := .ref st) (C := RX11) (T := TX11) (N := 35) hx hb hg inG11 hown hK.1 hP 0 rfl rfl 0 (by decide) (hg _ wt_878) (fun _ h9 => h9) rfl dX11_changes_19 ?_
  refine lv_bipush (v := 38) hx hb dX11_changes_22 (by decide) ?_
  refine lv_iload_n hx hb dX11_changes_24 rfl (lv_at hl 3 rfl) ?_
  refine lv_iadd hx hb dX11_changes_25 ?_
  refine lv_cg (y := nI (38 + k)) (by rw [show (38 : Int32) = nI 38 from rfl]; exact nI_add _ _) ?_
  refine va_iald hx hb hK.1 hP 1 0 rfl rfl (vp_in_nI (by first | omega | (have t_n0 : (nI i).toInt = (i : Int) := tn3005_ (); have t_n1 : (nI k).toInt = (k : Int) := tn3006_ (); have t_n2 : (nI N).toInt = (N : Int) := tn3007_ (); have t_n3 : (nI B).toInt = (B : Int) := tn3008_ (); have t_n4 : (nI T).toInt = (T : Int) := tn3009_ (); have t_n5 : (nI S).toInt = (S : Int) := tn3010_ (); have t_n6 : (nI M).toInt = (M : Int) := tn3011_ (); omega)) (by decide)) dX11_changes_26 ?_
  refine lv_cg (y := fst (38 + k)) (by rw [nI_clamp (by omega)]) ?_
  refine va_iast hx hb hK.1 hP hD hS 1 0 rfl rfl (vp_in_nI (by first | omega | (have t_n0 : (nI i).toInt = (i : Int) := tn3005_ (); have t_n1 : (nI k).toInt = (k : Int) := tn3006_ (); have t_n2 : (nI N).toInt = (N : Int) := tn3007_ (); have t_n3 : (nI B).toInt = (B : Int) := tn3008_ (); have t_n4 : (nI T).toInt = (T : Int) := tn3009_ (); have t_n5 : (nI S).toInt = (S : Int) := tn3010_ (); have t_n6 : (nI M).toInt = (M : Int) := tn3011_ (); omega)) (by decide)) dX11_changes_27 (fun H locs hP hD hS => ?_)
  rw [nI_clamp (by omega)] at hP hD
  have hP : va_P (dC, dI) vwCl [(h0, .inr (11, [.ref st, .int (nI N), .int (nI B), .ref rp, .int vrs, .int vrb, .int vhs, .int vca, .int vxs, .int vxb, .ref tp, .int (nI T), .int vfa, .int vbr, .int vba, .int vsp, .int vhe, .int vtk, .int vva, .ref cu, .ref lt, .ref od, .ref th, .ref be, .ref ln, .int (nI S), .ref ma, .int (nI M), .ref ah, .ref bh, .ref ik, .ref la, .ref lg, .ref ce, .int vto])), (st, .inl (G 0, 196, .inl (upd fst (38 + i) (fst (38 + k)))))] H := hP
  have hD : va_D A [(h0, .inr (11, [.ref st, .int (nI N), .int (nI B), .ref rp, .int vrs, .int vrb, .int vhs, .int vca, .int vxs, .int vxb, .ref tp, .int (nI T), .int vfa, .int vbr, .int vba, .int vsp, .int vhe, .int vtk, .int vva, .ref cu, .ref lt, .ref od, .ref th, .ref be, .ref ln, .int (nI S), .ref ma, .int (nI M), .ref ah, .ref bh, .ref ik, .ref la, .ref lg, .ref ce, .int vto])), (st, .inl (G 0, 196, .inl (upd fst (38 + i) (fst (38 + k)))))] := hD
  refine lv_aload_n hx hb dX11_changes_28 rfl (lv_at hl 1 rfl) ?_
  refine va_get (D := (dC, dI)) (ci := 11) (v := .ref st) (C := RX11) (T := TX11) (N := 35) hx hb hg inG11 hown hK.1 hP 0 rfl rfl 0 (by decide) (hg _ wt_878) (fun _ h9 => h9) rfl dX11_changes_29 ?_
  refine lv_bipush (v := 38) hx hb dX11_changes_32 (by decide) ?_
  refine lv_iload_n hx hb dX11_changes_34 rfl (lv_at hl 3 rfl) ?_
  refine lv_iadd hx hb dX11_changes_35 ?_
  refine lv_cg (y := nI (38 + k)) (by rw [show (38 : Int32) = nI 38 from rfl]; exact nI_add _ _) ?_
  refine lv_iload_n hx hb dX11_changes_36 rfl (lv_at hl 0 rfl) ?_
  refine va_iast hx hb hK.1 hP hD hS 1 0 rfl rfl (vp_in_nI (by first | omega | (have t_n0 : (nI i).toInt = (i : Int) := tn3005_ (); have t_n1 : (nI k).toInt = (k : Int) := tn3006_ (); have t_n2 : (nI N).toInt = (N : Int) := tn3007_ (); have t_n3 : (nI B).toInt = (B : Int) := tn3008_ (); have t_n4 : (nI T).toInt = (T : Int) := tn3009_ (); have t_n5 : (nI S).toInt = (S : Int) := tn3010_ (); have t_n6 : (nI M).toInt = (M : Int) := tn3011_ (); omega)) (by decide)) dX11_changes_37 (fun H locs hP hD hS => ?_)
  rw [nI_clamp (by omega)] at hP hD
  have hP : va_P (dC, dI) vwCl [(h0, .inr (11, [.ref st, .int (nI N), .int (nI B), .ref rp, .int vrs, .int vrb, .int vhs, .int vca, .int vxs, .int vxb, .ref tp, .int (nI T), .int vfa, .int vbr, .int vba, .int vsp, .int vhe, .int vtk, .int vva, .ref cu, .ref lt, .ref od, .ref th, .ref be, .ref ln, .int (nI S), .ref ma, .int (nI M), .ref ah, .ref bh, .ref ik, .ref la, .ref lg, .ref ce, .int vto])), (st, .inl (G 0, 196, .inl (upd (upd fst (38 + i) (fst (38 + k))) (38 + k) (fst (38 + i)))))] H := hP
  have hD : va_D A [(h0, .inr (11, [.ref st, .int (nI N), .int (nI B), .ref rp, .int vrs, .int vrb, .int vhs, .int vca, .int vxs, .int vxb, .ref tp, .int (nI T), .int vfa, .int vbr, .int vba, .int vsp, .int vhe, .int vtk, .int vva, .ref cu, .ref lt, .ref od, .ref th, .ref be, .ref ln, .int (nI S), .ref ma, .int (nI M), .ref ah, .ref bh, .ref ik, .ref la, .ref lg, .ref ce, .int vto])), (st, .inl (G 0, 196, .inl (upd (upd fst (38 + i) (fst (38 + k))) (38 + k) (fst (38 + i)))))] := hD
  have hP9 := hP.sub (ws' := [(h0, .inr (11, [.ref st, .int (nI N), .int (nI B), .ref rp, .int vrs, .int vrb, .int vhs, .int vca, .int vxs, .int vxb, .ref tp, .int (nI T), .int vfa, .int vbr, .int vba, .int vsp, .int vhe, .int vtk, .int vva, .ref cu, .ref lt, .ref od, .ref th, .ref be, .ref ln, .int (nI S), .ref ma, .int (nI M), .ref ah, .ref bh, .ref ik, .ref la, .ref lg, .ref ce, .int vto])), (st, .inl (G 0, 196, .inl (upd (upd fst (38 + i) (fst (38 + k))) (38 + k) (fst (38 + i)))))]) [0, 1] rfl
  have hD9 := hD.sub (ws' := [(h0, .inr (11, [.ref st, .int (nI N), .int (nI B), .ref rp, .int vrs, .int vrb, .int vhs, .int vca, .int vxs, .int vxb, .ref tp, .int (nI T), .int vfa, .int vbr, .int vba, .int vsp, .int vhe, .int vtk, .int vva, .ref cu, .ref lt, .ref od, .ref th, .ref be, .ref ln, .int (nI S), .ref ma, .int (nI M), .ref ah, .ref bh, .ref ik, .ref la, .ref lg, .ref ce, .int vto])), (st, .inl (G 0, 196, .inl (upd (upd fst (38 + i) (fst (38 + k))) (38 + k) (fst (38 + i)))))]) [0, 1] (by decide) rfl
  refine W.widen (k := 0) (n := 0) (Nat.le_of_ble_eq_true rfl) (Nat.le_of_ble_eq_true rfl) ?_
  exact W.vret hx hb hr (fun t ht hW => ⟨⟨(upd (upd fst (38 + i) (fst (38 + k))) (38 + k) (fst (38 + i))), rfl, ⟨((hst.upd (okS_mv hst (by omega) (by omega) (by omega) (by omega))).upd (okS_mv hst (by omega) (by omega) (by omega) (by omega))), (NO.up (by omega)).tr (NO.up (by omega))⟩, ⟨by rw [ht]; exact hP9, hD9⟩⟩, hS.F ht⟩) hS.2.2 dX11_changes_38
