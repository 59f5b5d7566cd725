theorem L_start {f : Nat → Int32} {T : Nat} {c : CS5} {s : RSt} (h3 : T ≤ 320) (r : R0 f T c s) {st ca xs xb : Int32} {N B D : Nat} {g1 g2 g3 g4 g5 g6 : Nat → Int32} {rs rb : Nat} {hs cb ys yb : Int32} {fp : Nat → Int32} (w : RW st ca xs xb N B D g1 g2 g3 g4 g5 g6 rs rb hs cb ys yb fp) :
    LOK f T c.2.2.2.2 ((cST f T c st D).1, (cST f T c st D).2.1, (cST f T c st D).2.2.1, ca, xs, xb, N, B, (cST f T c st D).2.2.2, g1, g2, g3, g4, g5, g6) (fiS f T (rmS f T 0 s rs hs cb ys yb fp).1, (rmS f T 0 s rs hs cb ys yb fp).2.1, rb, (rmS f T 0 s rs hs cb ys yb fp).2.2.1, (rmS f T 0 s rs hs cb ys yb fp).2.2.2.1, (rmS f T 0 s rs hs cb ys yb fp).2.2.2.2.1, (rmS f T 0 s rs hs cb ys yb fp).2.2.2.2.2.1, (rmS f T 0 s rs hs cb ys yb fp).2.2.2.2.2.2) := by
  obtain ⟨⟨w1, w2, w3, w4, w5, w6⟩, w7, w8, w9, w10, w11⟩ := w
  have e1 : rmS f T 0 s rs hs cb ys yb fp = (oS f T 1 9 0 (gT f T (rmA 0 rs hs s)), rs, 1, cb, ys, yb, upd fp 48 (oV 1 9 0 (gT f T (rmA 0 rs hs s)) - 5)) := by
    unfold rmS
    rw [if_pos rfl]
  rw [e1]
  by_cases h : hs = 0
  · have ea : rmA 0 rs hs s = s := by
      unfold rmA
      rw [if_pos rfl, if_pos h, if_neg (by decide)]
    have ec : cST f T c st D = (if (tNN f T 1 9 c).1 = 0 then (0, (tNN f T 1 9 c).2, 1, D) else ((tNS f T (tNN f T 1 9 c).2).1, (tNS f T (tNN f T 1 9 c).2).2, 1, (cVL f T (tNN f T 1 9 c).2).toNatClampNeg)) := by
      unfold cST
      rw [if_pos (w1.trans h)]
    rw [ec, ea]
    rcases num0 (f := f) (lo := 1) (hi := 9) h3 r.p with ⟨a1, a2, a3, a4, a5, a6⟩ | ⟨a1, a2⟩
    · rw [if_neg (by rw [a1]; decide), a3, a4]
      have b1 : (1 : Int32).toInt = 1 := by decide
      have b9 : (9 : Int32).toInt = 9 := by decide
      have hd : (cVL f T (tNN f T 1 9 c).2).toNatClampNeg = (cVL f T (tNN f T 1 9 c).2).toInt.toNat := rfl
      rcases stp (f := f) h3 a2.p with ⟨p1, p2, p3⟩ | ⟨p1, p2⟩
      · unfold LOK; dsimp only; rw [fiS_eq]; refine Or.inl ⟨p1, ⟨_, rfl, p2⟩, Nat.lt_of_le_of_lt a6 p3, ?_⟩
        unfold RW2 RW; dsimp only
        refine ⟨⟨rfl, w2, w3, w4, w5, w6⟩, ⟨w7.1, w7.2.1, ?_, ?_⟩, ?_, fun i hi => ?_, fun i hi => ?_, fun i hi => ?_⟩
        · show 1 ≤ (cVL f T (tNN f T 1 9 c).2).toNatClampNeg
          omega
        · show (cVL f T (tNN f T 1 9 c).2).toNatClampNeg ≤ 9
          omega
        · show upd fp 48 (cVL f T (tNN f T 1 9 c).2 - 5) 48 = nI (cVL f T (tNN f T 1 9 c).2).toNatClampNeg - 5
          rw [upd_y, cl_nI (by omega)]
        · have hi : i < N := hi
          have q1 : upd fp 48 (cVL f T (tNN f T 1 9 c).2 - 5) (2 * i) = fp (2 * i) := upd_n (by omega)
          have q2 : upd fp 48 (cVL f T (tNN f T 1 9 c).2 - 5) (2 * i + 1) = fp (2 * i + 1) := upd_n (by omega)
          exact ⟨q1.trans (w9 i hi).1, q2.trans (w9 i hi).2⟩
        · have q1 : upd fp 48 (cVL f T (tNN f T 1 9 c).2 - 5) (38 + i) = fp (38 + i) := upd_n (by omega)
          exact q1.trans (w10 i hi)
        · have hi : i < B := hi
          have q1 : upd fp 48 (cVL f T (tNN f T 1 9 c).2 - 5) (20 + 3 * i) = fp (20 + 3 * i) := upd_n (by omega)
          have q2 : upd fp 48 (cVL f T (tNN f T 1 9 c).2 - 5) (20 + 3 * i + 1) = fp (20 + 3 * i + 1) := upd_n (by omega)
          have q3 : upd fp 48 (cVL f T (tNN f T 1 9 c).2 - 5) (20 + 3 * i + 2) = fp (20 + 3 * i + 2) := upd_n (by omega)
          exact ⟨q1.trans (w11 i hi).1, q2.trans (w11 i hi).2.1, q3.trans (w11 i hi).2.2⟩
      · unfold LOK; dsimp only; rw [fiS_eq]; exact Or.inr ⟨p1, p2.G⟩
    · rw [if_pos a1]
      unfold LOK; dsimp only; rw [fiS_eq]; exact Or.inr ⟨rfl, a2.i.G⟩
  · have ea : rmA 0 rs hs s = fT 4 s := by
      unfold rmA
      rw [if_pos rfl, if_neg h, if_neg (by decide)]
    have ec : cST f T c st D = (0, cRF 4 c, st, D) := by
      unfold cST
      rw [if_neg (fun e => h (w1.symm.trans e))]
    rw [ec, ea]
    have q : RF (cRF 4 c) (fT 4 s) := fT_bad r (by decide)
    unfold LOK; dsimp only; rw [fiS_eq]; exact Or.inr ⟨rfl, q.G.s.i.G⟩
theorem L_stretch {f : Nat → Int32} {T : Nat} {c : CS5} {s : RSt} (h3 : T ≤ 320) (r : R0 f T c s) {st ca xs xb : Int32} {N B D : Nat} {g1 g2 g3 g4 g5 g6 : Nat → Int32} {rs rb : Nat} {hs cb ys yb : Int32} {fp : Nat → Int32} (w : RW st ca xs xb N B D g1 g2 g3 g4 g5 g6 rs rb hs cb ys yb fp) :
    LOK f T c.2.2.2.2 ((cSR f T c N g1 g2).1, (cSR f T c N g1 g2).2.1, st, ca, xs, xb, (cSR f T c N g1 g2).2.2.1, B, D, (cSR f T c N g1 g2).2.2.2.1, (cSR f T c N g1 g2).2.2.2.2, g3, g4, g5, g6) (fiS f T (rmS f T 1 s rs hs cb ys yb fp).1, (rmS f T 1 s rs hs cb ys yb fp).2.1, rb, (rmS f T 1 s rs hs cb ys yb fp).2.2.1, (rmS f T 1 s rs hs cb ys yb fp).2.2.2.1, (rmS f T 1 s rs hs cb ys yb fp).2.2.2.2.1, (rmS f T 1 s rs hs cb ys yb fp).2.2.2.2.2.1, (rmS f T 1 s rs hs cb ys yb fp).2.2.2.2.2.2) := by
  obtain ⟨⟨w1, w2, w3, w4, w5, w6⟩, w7, w8, w9, w10, w11⟩ := w
  have e1 : rmS f T 1 s rs hs cb ys yb fp = (oS f T 0 9 0 (oS f T 0 9 0 (gT f T (rmA 1 rs hs s))), rs + 1, hs, cb, ys, yb, upd (upd fp (2 * rmI rs (gT f T (rmA 1 rs hs s))) (oV 0 9 0 (gT f T (rmA 1 rs hs s)))) (2 * rmI rs (gT f T (rmA 1 rs hs s)) + 1) (oV 0 9 0 (oS f T 0 9 0 (gT f T (rmA 1 rs hs s))))) := by
    unfold rmS
    rw [if_neg (by decide), if_pos rfl]
  have ea : rmA 1 rs hs s = (if rs = 10 then fT 5 s else s) := by
    unfold rmA
    rw [if_neg (by decide), if_pos rfl]
  rw [e1, ea]
  by_cases h : N < 10
  · have ec : cSR f T c N g1 g2 = (if (tNN f T 0 9 c).1 = 0 then (0, (tNN f T 0 9 c).2, N, g1, g2) else if (tNN f T 0 9 (tNN f T 0 9 c).2).1 = 0 then (0, (tNN f T 0 9 (tNN f T 0 9 c).2).2, N, g1, g2) else ((tNS f T (tNN f T 0 9 (tNN f T 0 9 c).2).2).1, (tNS f T (tNN f T 0 9 (tNN f T 0 9 c).2).2).2, N + 1, upd g1 N (cVL f T (tNN f T 0 9 c).2), upd g2 N (cVL f T (tNN f T 0 9 (tNN f T 0 9 c).2).2))) := by
      unfold cSR
      rw [if_pos h]
    rw [ec, if_neg (show ¬ rs = 10 by omega)]
    rcases num0 (f := f) (lo := 0) (hi := 9) h3 r.p with ⟨a1, a2, a3, a4, a5, a6⟩ | ⟨a1, a2⟩
    · rw [if_neg (by rw [a1]; decide), a3, a4]
      have ei : rmI rs (gT f T s) = rs := by
        unfold rmI
        rw [if_pos a2.2.1]
      rw [ei]
      rcases num0 (f := f) (lo := 0) (hi := 9) h3 a2.p with ⟨b1, b2, b3, b4, b5, b6⟩ | ⟨b1, b2⟩
      · rw [if_neg (by rw [b1]; decide), b3, b4]
        rcases stp (f := f) h3 b2.p with ⟨p1, p2, p3⟩ | ⟨p1, p2⟩
        · unfold LOK; dsimp only; rw [fiS_eq]; refine Or.inl ⟨p1, ⟨_, rfl, p2⟩, Nat.lt_of_le_of_lt (Nat.le_trans a6 b6) p3, ?_⟩
          unfold RW2 RW; dsimp only
          refine ⟨⟨w1, w2, w3, w4, congrArg (· + 1) w5, w6⟩, ⟨by show N + 1 ≤ 10; omega, w7.2.1, w7.2.2.1, w7.2.2.2⟩, ?_, fun i hi => ?_, fun i hi => ?_, fun i hi => ?_⟩
          · exact (upd_n (by omega)).trans ((upd_n (by omega)).trans w8)
          · have hi : i < N + 1 := hi
            show upd (upd fp (2 * rs) (cVL f T (tNN f T 0 9 c).2)) (2 * rs + 1) (cVL f T (tNN f T 0 9 (tNN f T 0 9 c).2).2) (2 * i) = upd g1 N (cVL f T (tNN f T 0 9 c).2) i ∧ upd (upd fp (2 * rs) (cVL f T (tNN f T 0 9 c).2)) (2 * rs + 1) (cVL f T (tNN f T 0 9 (tNN f T 0 9 c).2).2) (2 * i + 1) = upd g2 N (cVL f T (tNN f T 0 9 (tNN f T 0 9 c).2).2) i
            by_cases k : i = N
            · rw [k, w5, upd_y, upd_y, upd_y, upd_n (show ¬ 2 * rs = 2 * rs + 1 by omega), upd_y]
              exact ⟨rfl, rfl⟩
            · rw [upd_n (show ¬ 2 * i = 2 * rs + 1 by omega), upd_n (show ¬ 2 * i = 2 * rs by omega), upd_n (show ¬ 2 * i + 1 = 2 * rs + 1 by omega), upd_n (show ¬ 2 * i + 1 = 2 * rs by omega), upd_n k, upd_n k]
              exact w9 i (by omega)
          · exact (upd_n (by omega)).trans ((upd_n (by omega)).trans (w10 i hi))
          · have hi : i < B := hi
            exact ⟨(upd_n (by omega)).trans ((upd_n (by omega)).trans (w11 i hi).1), (upd_n (by omega)).trans ((upd_n (by omega)).trans (w11 i hi).2.1), (upd_n (by omega)).trans ((upd_n (by omega)).trans (w11 i hi).2.2)⟩
        · unfold LOK; dsimp only; rw [fiS_eq]; exact Or.inr ⟨p1, p2.G⟩
      · rw [if_pos b1]
        unfold LOK; dsimp only; rw [fiS_eq]; exact Or.inr ⟨rfl, b2.i.G⟩
    · rw [if_pos a1]
      unfold LOK; dsimp only; rw [fiS_eq]; exact Or.inr ⟨rfl, a2.s.i.G⟩
  · have ec : cSR f T c N g1 g2 = (0, cRF 5 c, N, g1, g2) := by
      unfold cSR
      rw [if_neg h]
    rw [ec, if_pos (show rs = 10 by omega)]
    have q : RF (cRF 5 c) (fT 5 s) := fT_bad r (by decide)
    unfold LOK; dsimp only; rw [fiS_eq]; exact Or.inr ⟨rfl, q.G.s.s.i.G⟩
theorem L_bearer {f : Nat → Int32} {T : Nat} {c : CS5} {s : RSt} (h3 : T ≤ 320) (r : R0 f T c s) {st ca xs xb : Int32} {N B D : Nat} {g1 g2 g3 g4 g5 g6 : Nat → Int32} {rs rb : Nat} {hs cb ys yb : Int32} {fp : Nat → Int32} (w : RW st ca xs xb N B D g1 g2 g3 g4 g5 g6 rs rb hs cb ys yb fp) :
    LOK f T c.2.2.2.2 ((cBR f T c B g4 g5 g6).1, (cBR f T c B g4 g5 g6).2.1, st, ca, xs, xb, N, (cBR f T c B g4 g5 g6).2.2.1, D, g1, g2, g3, (cBR f T c B g4 g5 g6).2.2.2.1, (cBR f T c B g4 g5 g6).2.2.2.2.1, (cBR f T c B g4 g5 g6).2.2.2.2.2) (fiS f T (rbS f T s rb fp).1, rs, (rbS f T s rb fp).2.1, hs, cb, ys, yb, (rbS f T s rb fp).2.2) := by
  obtain ⟨⟨w1, w2, w3, w4, w5, w6⟩, w7, w8, w9, w10, w11⟩ := w
  by_cases h : B < 6
  · have e1 : rbS f T s rb fp = (if (0 : Int32) ≤ nT f (gT f T s) - 4 then
    (oS f T 0 9 0 (oS f T 0 9 0 (gT f T (gT f T s))), rb + 1, upd (upd (upd fp (20 + 3 * rb) (nT f (gT f T s) - 4)) (20 + 3 * rb + 1) (oV 0 9 0 (gT f T (gT f T s)))) (20 + 3 * rb + 2) (oV 0 9 0 (oS f T 0 9 0 (gT f T (gT f T s)))))
  else (fT 2 (gT f T s), rb, fp)) := by
      unfold rbS
      rw [if_neg (show ¬ rb = 6 by omega)]
    have ec : cBR f T c B g4 g5 g6 = (if tNG f T c = 0 then (0, tNT f T c, B, g4, g5, g6)
     else if cKD f (tNT f T c) = -4 then (0, cRF 2 (tNT f T c), B, g4, g5, g6)
     else if (tNN f T 0 9 (tNT f T c)).1 = 0 then (0, (tNN f T 0 9 (tNT f T c)).2, B, g4, g5, g6)
     else if (tNN f T 0 9 (tNN f T 0 9 (tNT f T c)).2).1 = 0 then (0, (tNN f T 0 9 (tNN f T 0 9 (tNT f T c)).2).2, B, g4, g5, g6)
     else ((tNS f T (tNN f T 0 9 (tNN f T 0 9 (tNT f T c)).2).2).1, (tNS f T (tNN f T 0 9 (tNN f T 0 9 (tNT f T c)).2).2).2, B + 1, upd g4 B (cKD f (tNT f T c)), upd g5 B (cVL f T (tNN f T 0 9 (tNT f T c)).2), upd g6 B (cVL f T (tNN f T 0 9 (tNN f T 0 9 (tNT f T c)).2).2))) := by
      unfold cBR
      rw [if_pos h]
    rw [e1, ec]
    rcases tok (f := f) h3 r.p with ⟨k1, k2, k3⟩ | ⟨k1, k2⟩
    · rw [if_neg (show ¬ tNG f T c = 0 by rw [k1]; decide)]
      rcases kd_sim k2 with ⟨j1, j2⟩ | ⟨j1, j2, j3⟩
      · rw [if_pos j1, if_neg j2]
        have q : RF (cRF 2 (tNT f T c)) (fT 2 (gT f T s)) := fT_bad k2 (by decide)
        unfold LOK; dsimp only; rw [fiS_eq]; exact Or.inr ⟨rfl, q.i.G⟩
      · rw [if_neg j1, if_pos j2, j3]
        rcases num0 (f := f) (lo := 0) (hi := 9) h3 k2.p with ⟨a1, a2, a3, a4, a5, a6⟩ | ⟨a1, a2⟩
        · rw [if_neg (by rw [a1]; decide), a3, a4]
          rcases num0 (f := f) (lo := 0) (hi := 9) h3 a2.p with ⟨b1, b2, b3, b4, b5, b6⟩ | ⟨b1, b2⟩
          · rw [if_neg (by rw [b1]; decide), b3, b4]
            rcases stp (f := f) h3 b2.p with ⟨p1, p2, p3⟩ | ⟨p1, p2⟩
            · unfold LOK; dsimp only; rw [fiS_eq]; refine Or.inl ⟨p1, ⟨_, rfl, p2⟩, Nat.lt_of_le_of_lt (Nat.le_trans (Nat.le_trans k3 k2.2.2.2.2.2.1) (Nat.le_trans a6 b6)) p3, ?_⟩
              unfold RW2 RW; dsimp only
              refine ⟨⟨w1, w2, w3, w4, w5, congrArg (· + 1) w6⟩, ⟨w7.1, by show B + 1 ≤ 6; omega, w7.2.2.1, w7.2.2.2⟩, ?_, fun i hi => ?_, fun i hi => ?_, fun i hi => ?_⟩
              · exact (upd_n (by omega)).trans ((upd_n (by omega)).trans ((upd_n (by omega)).trans w8))
              · have hi : i < N := hi
                exact ⟨(upd_n (by omega)).trans ((upd_n (by omega)).trans ((upd_n (by omega)).trans (w9 i hi).1)), (upd_n (by omega)).trans ((upd_n (by omega)).trans ((upd_n (by omega)).trans (w9 i hi).2))⟩
              · exact (upd_n (by omega)).trans ((upd_n (by omega)).trans ((upd_n (by omega)).trans (w10 i hi)))
              · have hi : i < B + 1 := hi
                generalize cKD f (tNT f T c) = v1
                generalize cVL f T (tNN f T 0 9 (tNN f T 0 9 (tNT f T c)).2).2 = v3
                generalize cVL f T (tNN f T 0 9 (tNT f T c)).2 = v2
                show upd (upd (upd fp (20 + 3 * rb) v1) (20 + 3 * rb + 1) v2) (20 + 3 * rb + 2) v3 (20 + 3 * i) = upd g4 B v1 i ∧ upd (upd (upd fp (20 + 3 * rb) v1) (20 + 3 * rb + 1) v2) (20 + 3 * rb + 2) v3 (20 + 3 * i + 1) = upd g5 B v2 i ∧ upd (upd (upd fp (20 + 3 * rb) v1) (20 + 3 * rb + 1) v2) (20 + 3 * rb + 2) v3 (20 + 3 * i + 2) = upd g6 B v3 i
                by_cases k : i = B
                · rw [k, w6, upd_y, upd_y, upd_y, upd_y, upd_n (show ¬ 20 + 3 * rb = 20 + 3 * rb + 2 by omega), upd_n (show ¬ 20 + 3 * rb = 20 + 3 * rb + 1 by omega), upd_y, upd_n (show ¬ 20 + 3 * rb + 1 = 20 + 3 * rb + 2 by omega), upd_y]
                  exact ⟨rfl, rfl, rfl⟩
                · rw [upd_n k, upd_n k, upd_n k]
                  exact ⟨(upd_n (by omega)).trans ((upd_n (by omega)).trans ((upd_n (by omega)).trans (w11 i (by omega)).1)), (upd_n (by omega)).trans ((upd_n (by omega)).trans ((upd_n (by omega)).trans (w11 i (by omega)).2.1)), (upd_n (by omega)).trans ((upd_n (by omega)).trans ((upd_n (by omega)).trans (w11 i (by omega)).2.2))⟩
            · unfold LOK; dsimp only; rw [fiS_eq]; exact Or.inr ⟨p1, p2.G⟩
          · rw [if_pos b1]
            unfold LOK; dsimp only; rw [fiS_eq]; exact Or.inr ⟨rfl, b2.i.G⟩
        · rw [if_pos a1]
          unfold LOK; dsimp only; rw [fiS_eq]; exact Or.inr ⟨rfl, a2.s.i.G⟩
    · rw [if_pos k1]
      split
      · unfold LOK; dsimp only; rw [fiS_eq]; exact Or.inr ⟨rfl, k2.G.s.s.i.G⟩
      · unfold LOK; dsimp only; rw [fiS_eq]; exact Or.inr ⟨rfl, k2.f.i.G⟩
  · have e1 : rbS f T s rb fp = (fT 5 s, rb, fp) := by
      unfold rbS
      rw [if_pos (show rb = 6 by omega)]
    have ec : cBR f T c B g4 g5 g6 = (0, cRF 5 c, B, g4, g5, g6) := by
      unfold cBR
      rw [if_neg h]
    rw [e1, ec]
    have q : RF (cRF 5 c) (fT 5 s) := fT_bad r (by decide)
    unfold LOK; dsimp only; rw [fiS_eq]; exact Or.inr ⟨rfl, q.i.G⟩
theorem L_carry {f : Nat → Int32} {T : Nat} {c : CS5} {s : RSt} (h3 : T ≤ 320) (r : R0 f T c s) {st ca xs xb : Int32} {N B D : Nat} {g1 g2 g3 g4 g5 g6 : Nat → Int32} {rs rb : Nat} {hs cb ys yb : Int32} {fp : Nat → Int32} (w : RW st ca xs xb N B D g1 g2 g3 g4 g5 g6 rs rb hs cb ys yb fp) :
    LOK f T c.2.2.2.2 ((cCR f T c ca xs xb g3).1, (cCR f T c ca xs xb g3).2.1, st, (cCR f T c ca xs xb g3).2.2.1, (cCR f T c ca xs xb g3).2.2.2.1, (cCR f T c ca xs xb g3).2.2.2.2.1, N, B, D, g1, g2, (cCR f T c ca xs xb g3).2.2.2.2.2, g4, g5, g6) (fiS f T (rmS f T 3 s rs hs cb ys yb fp).1, (rmS f T 3 s rs hs cb ys yb fp).2.1, rb, (rmS f T 3 s rs hs cb ys yb fp).2.2.1, (rmS f T 3 s rs hs cb ys yb fp).2.2.2.1, (rmS f T 3 s rs hs cb ys yb fp).2.2.2.2.1, (rmS f T 3 s rs hs cb ys yb fp).2.2.2.2.2.1, (rmS f T 3 s rs hs cb ys yb fp).2.2.2.2.2.2) := by
  obtain ⟨⟨w1, w2, w3, w4, w5, w6⟩, w7, w8, w9, w10, w11⟩ := w
  have ea : rmA 3 rs hs s = s := by
    unfold rmA
    rw [if_neg (by decide), if_neg (by decide)]
  have e1 : rmS f T 3 s rs hs cb ys yb fp = (oS f T 0 5 0 (oS f T 0 9 cb (gT f T s)), rs, hs, cb ||| ((1 : Int32) <<< (oV 0 9 cb (gT f T s) &&& 31)), rmX (oV 0 9 cb (gT f T s)) ys, rmX (oV 0 5 0 (oS f T 0 9 cb (gT f T s))) yb, upd fp (38 + (oV 0 9 cb (gT f T s)).toNatClampNeg) (oV 0 5 0 (oS f T 0 9 cb (gT f T s)))) := by
    unfold rmS
    rw [if_neg (by decide), if_neg (by decide), ea]
  rw [e1]
  unfold cCR
  subst w2
  rcases num (f := f) (lo := 0) (hi := 9) h3 r.p with ⟨a1, a2, a3, a4, a5, a6⟩ | ⟨a1, a2⟩
  · rw [if_neg (show ¬ (tNN f T 0 9 c).1 = 0 by rw [a1]; decide)]
    by_cases k : (ca >>> (cVL f T (tNN f T 0 9 c).2 &&& 31)) &&& 1 = 1
    · rw [if_pos k]
      have q : RF (cRF 4 (tNN f T 0 9 c).2) (oB 0 9 ca (gT f T s)) := oB_bad a2 (by decide) ((otC_in a2 a3 a4 a5).trans (if_pos k))
      have q2 : RF (cRF 4 (tNN f T 0 9 c).2) (oS f T 0 9 ca (gT f T s)) := q.G
      unfold LOK; dsimp only; rw [fiS_eq]; exact Or.inr ⟨rfl, q2.s.i.G⟩
    · rw [if_neg k]
      obtain ⟨o1, o2⟩ := oB_ok (sm := ca) a2 a3 a4 a5 k
      rw [show oS f T 0 9 ca (gT f T s) = gT f T (gT f T s) by rw [oS_eq, o1], o2]
      have z0 : (0 : Int32).toInt = 0 := by decide
      have z9 : (9 : Int32).toInt = 9 := by decide
      have z5 : (5 : Int32).toInt = 5 := by decide
      rcases num0 (f := f) (lo := 0) (hi := 5) h3 a2.p with ⟨b1, b2, b3, b4, b5, b6⟩ | ⟨b1, b2⟩
      · rw [if_neg (show ¬ (tNN f T 0 5 (tNN f T 0 9 c).2).1 = 0 by rw [b1]; decide), b3, b4]
        rcases stp (f := f) h3 b2.p with ⟨p1, p2, p3⟩ | ⟨p1, p2⟩
        · have hv : (cVL f T (tNN f T 0 9 c).2).toNatClampNeg = (cVL f T (tNN f T 0 9 c).2).toInt.toNat := rfl
          unfold LOK; dsimp only; rw [fiS_eq]; refine Or.inl ⟨p1, ⟨_, rfl, p2⟩, Nat.lt_of_le_of_lt (Nat.le_trans (Nat.le_trans a6 a2.2.2.2.2.2.1) b6) p3, ?_⟩
          unfold RW2 RW; dsimp only
          refine ⟨⟨w1, rfl, w3.up (by omega), w4.up (by omega), w5, w6⟩, w7, ?_, fun i hi => ?_, fun i hi => ?_, fun i hi => ?_⟩
          · exact (upd_n (by omega)).trans w8
          · have hi : i < N := hi
            exact ⟨(upd_n (by omega)).trans (w9 i hi).1, (upd_n (by omega)).trans (w9 i hi).2⟩
          · show upd fp (38 + (cVL f T (tNN f T 0 9 c).2).toNatClampNeg) (cVL f T (tNN f T 0 5 (tNN f T 0 9 c).2).2) (38 + i) = upd g3 (cVL f T (tNN f T 0 9 c).2).toNatClampNeg (cVL f T (tNN f T 0 5 (tNN f T 0 9 c).2).2) i
            by_cases k : i = (cVL f T (tNN f T 0 9 c).2).toNatClampNeg
            · rw [k, upd_y, upd_y]
            · rw [upd_n k, upd_n (by omega)]
              exact w10 i hi
          · have hi : i < B := hi
            exact ⟨(upd_n (by omega)).trans (w11 i hi).1, (upd_n (by omega)).trans (w11 i hi).2.1, (upd_n (by omega)).trans (w11 i hi).2.2⟩
        · unfold LOK; dsimp only; rw [fiS_eq]; exact Or.inr ⟨p1, p2.G⟩
      · rw [if_pos b1]
        unfold LOK; dsimp only; rw [fiS_eq]; exact Or.inr ⟨rfl, b2.i.G⟩
  · rw [if_pos a1]
    have q := (a2 ca).G (f := f) (T := T)
    have q2 : RF (tNN f T 0 9 c).2 (oS f T 0 9 ca (gT f T s)) := q
    unfold LOK; dsimp only; rw [fiS_eq]; exact Or.inr ⟨rfl, q2.s.i.G⟩
