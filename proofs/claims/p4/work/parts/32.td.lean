theorem L_line {f : Nat → Int32} {T : Nat} {c : CS5} {s : RSt} (h3 : T ≤ 320) (r : R0 f T c s) {st ca xs xb : Int32} {N B D : Nat} {g1 g2 g3 g4 g5 g6 : Nat → Int32} {rs rb : Nat} {hs cb ys yb : Int32} {fp : Nat → Int32} (w : RW st ca xs xb N B D g1 g2 g3 g4 g5 g6 rs rb hs cb ys yb fp) :
    LOK f T c.2.2.2.2 (cLN f T c st ca xs xb N B D g1 g2 g3 g4 g5 g6) (rlS f T s rs rb hs cb ys yb fp) := by
  have i0 := isn0 (f := f) (F := c.2.2.2.1) (P := c.2.2.2.2) (x3 := c.2.2.1) (i := 0) (n := 0) (wm_pair (by decide) (by decide +kernel))
  have i1 := isn0 (f := f) (F := c.2.2.2.1) (P := c.2.2.2.2) (x3 := c.2.2.1) (i := 1) (n := 1) (wm_pair (by decide) (by decide +kernel))
  have i2 := isn0 (f := f) (F := c.2.2.2.1) (P := c.2.2.2.2) (x3 := c.2.2.1) (i := 2) (n := 2) (wm_pair (by decide) (by decide +kernel))
  have i3 := isn0 (f := f) (F := c.2.2.2.1) (P := c.2.2.2.2) (x3 := c.2.2.1) (i := 9) (n := 3) (wm_pair (by decide) (by decide +kernel))
  unfold cLN rlS
  by_cases h0 : Wn f c 0
  · have hn : nT f s = 0 := nT_w r (by decide) h0
    rw [if_neg (fun e => i0.mp e h0), hn, if_pos (by decide), if_neg (by decide)]
    exact L_start h3 r w
  rw [if_pos (i0.mpr h0)]
  by_cases h1 : Wn f c 1
  · have hn : nT f s = 1 := nT_w r (by decide) h1
    rw [if_neg (fun e => i1.mp e h1), hn, if_pos (by decide), if_neg (by decide)]
    exact L_stretch h3 r w
  rw [if_pos (i1.mpr h1)]
  by_cases h2 : Wn f c 2
  · have hn : nT f s = 2 := nT_w r (by decide) h2
    rw [if_neg (fun e => i2.mp e h2), hn, if_pos (by decide), if_pos rfl]
    exact L_bearer h3 r w
  rw [if_pos (i2.mpr h2)]
  by_cases h9 : Wn f c 3
  · have hn : nT f s = 3 := nT_w r (by decide) h9
    rw [if_neg (fun e => i3.mp e h9), hn, if_pos (by decide), if_neg (by decide)]
    exact L_carry h3 r w
  rw [if_pos (i3.mpr h9), if_neg (nT_hi r (fun m hm h => by rcases (show m = 0 ∨ m = 1 ∨ m = 2 ∨ m = 3 by omega) with g|g|g|g <;> subst g <;> contradiction))]
  exact Or.inr ⟨rfl, fT_bad r (by decide)⟩
theorem L_loop {f : Nat → Int32} {T : Nat} (h3 : T ≤ 320) : ∀ (k kr : Nat) (q : CW) (L : LSt) (m : Nat), ((R0 f T q.1 L.1 ∧ RW2 q.2 L.2 ∧ T - q.1.2.2.2.1 < k ∧ T - q.1.2.2.2.1 < kr) ∨ RF q.1 L.1) →
    ((R0 f T (cLP f T k q (nI m)).1.1 (lpS f T kr L m).1.1 ∧ (cLP f T k q (nI m)).1.1.2.2.1 = 0 ∧ RW2 (cLP f T k q (nI m)).1.2 (lpS f T kr L m).1.2 ∧ (cLP f T k q (nI m)).2 = nI (lpS f T kr L m).2) ∨ RF (cLP f T k q (nI m)).1.1 (lpS f T kr L m).1.1) := by
  intro k
  induction k with
  | zero =>
    intro kr q L m h
    rcases h with ⟨_, _, h, _⟩ | h
    · exact absurd h (Nat.not_lt_zero _)
    · rw [cLP_e0 h.m, lpS_e0 h.n]
      exact Or.inr h
  | succ k ih =>
    intro kr q L m h
    rcases h with ⟨r, w, hk, hr⟩ | h
    · by_cases z : q.1.2.2.1 = 0
      · rw [cLP_e1 r.1 z, lpS_e1 r.2.1 (r.2.2.1.trans z)]
        exact Or.inl ⟨r, z, w, rfl⟩
      · obtain ⟨kr, rfl⟩ : ∃ j : Nat, kr = j + 1 := ⟨kr - 1, by omega⟩
        have hF := r.2.2.2.2.2.2.2.2.2 z
        have hPT := r.2.2.2.2.2.2.1
        rw [lpS_go r.2.1 (fun e => z (r.2.2.1.symm.trans e))]
        have hl : LOK f T q.1.2.2.2.2 (cLNq f T q) (nxS f T L) := L_line h3 r w
        rcases hl with ⟨a1, ⟨s2, a2, a3⟩, a4, a5⟩ | ⟨a1, a2⟩
        · rw [cLP_b r.1 z (by rw [a1]; decide), ← nI_succ]
          refine ih kr (cNTq f T (cLNq f T q).2) (nxS f T L) (m + 1) ?_
          rcases tok (f := f) h3 a3.p with ⟨t1, t2, t3⟩ | ⟨t1, t2⟩
          · left
            refine ⟨?_, a5, ?_, ?_⟩
            · rw [a2]; exact t2
            · show T - (tNT f T (cLNq f T q).2.1).2.2.2.1 < k
              omega
            · show T - (tNT f T (cLNq f T q).2.1).2.2.2.1 < kr
              omega
          · right
            rw [a2]; exact t2
        · rw [cLP_a r.1 z a1, cLP_e0 a2.m, lpS_e0 a2.n]
          exact Or.inr a2
    · rw [cLP_e0 h.m, lpS_e0 h.n]
      exact Or.inr h
/-- the two texts: what both tell of the same tape -/
theorem text_sim {f : Nat → Int32} {T : Nat} (h3 : T ≤ 320) (x3 : Int32) (g1 g2 g3 g4 g5 g6 : Nat → Int32) (ba : Int32) (he : Nat) (tk va : Int32) (fp : Nat → Int32) :
    ((cFN T (cRA f T x3 g1 g2 g3 g4 g5 g6).1).1 = 0 ∧ (txE (txQ f T ba he tk va fp).1).1 = 0 ∧ (cRA f T x3 g1 g2 g3 g4 g5 g6).2 = nI (txQ f T ba he tk va fp).2 ∧ RW2 (cRA f T x3 g1 g2 g3 g4 g5 g6).1.2 (txQ f T ba he tk va fp).1.2 ∧ ((cRA f T x3 g1 g2 g3 g4 g5 g6).1.2.2.2.2.2.1 = 0 ∨ 0 < (cRA f T x3 g1 g2 g3 g4 g5 g6).1.2.2.2.2.2.2.1)) ∨
    (RF (cFN T (cRA f T x3 g1 g2 g3 g4 g5 g6).1) (txE (txQ f T ba he tk va fp).1)) := by
  have h0 : (R0 f T (cQ0 f T x3 g1 g2 g3 g4 g5 g6).1 (gOn f T 0 ba 0 he tk va) ∧ RW2 (cQ0 f T x3 g1 g2 g3 g4 g5 g6).2 (0, 0, 0, 0, -1, -1, zpF 49 fp) ∧ T - (cQ0 f T x3 g1 g2 g3 g4 g5 g6).1.2.2.2.1 < T + 1 ∧ T - (cQ0 f T x3 g1 g2 g3 g4 g5 g6).1.2.2.2.1 < 400) ∨ RF (cQ0 f T x3 g1 g2 g3 g4 g5 g6).1 (gOn f T 0 ba 0 he tk va) := by
    rcases tokE (f := f) h3 0 0 x3 ba he tk va (Nat.zero_le T) with ⟨t1, t2, t3⟩ | ⟨t1, t2⟩
    · refine Or.inl ⟨t2, ?_, by omega, by omega⟩
      unfold cQ0 RW2 RW; dsimp only
      refine ⟨⟨rfl, rfl, Or.inr ⟨rfl, rfl⟩, Or.inr ⟨rfl, rfl⟩, rfl, rfl⟩, ⟨by decide, by decide, by decide, by decide⟩, (by show (if 48 < 49 then (0 : Int32) else fp 48) = nI 5 - 5; rw [if_pos (by decide)]; decide), fun i hi => absurd hi (Nat.not_lt_zero _), fun i hi => ?_, fun i hi => absurd hi (Nat.not_lt_zero _)⟩
      show (if 38 + i < 49 then (0 : Int32) else fp (38 + i)) = (if i < 10 then 0 else g3 i)
      rw [if_pos (by omega), if_pos hi]
    · exact Or.inr t2
  have hl := L_loop (f := f) h3 (T + 1) 400 (cQ0 f T x3 g1 g2 g3 g4 g5 g6) (gOn f T 0 ba 0 he tk va, 0, 0, 0, 0, -1, -1, zpF 49 fp) 0 h0
  have e1 : cLP f T (T + 1) (cQ0 f T x3 g1 g2 g3 g4 g5 g6) (nI 0) = cRA f T x3 g1 g2 g3 g4 g5 g6 := rfl
  have e2 : lpS f T 400 (gOn f T 0 ba 0 he tk va, 0, 0, 0, 0, -1, -1, zpF 49 fp) 0 = txQ f T ba he tk va fp := rfl
  rw [e1, e2] at hl
  generalize cRA f T x3 g1 g2 g3 g4 g5 g6 = Q at hl ⊢
  generalize txQ f T ba he tk va fp = X at hl ⊢
  obtain ⟨⟨c, q⟩, n⟩ := Q
  obtain ⟨⟨s, L⟩, m⟩ := X
  rcases hl with ⟨r, z, w, e⟩ | h
  · have r : R0 f T c s := r
    have z : c.2.2.1 = 0 := z
    have w : RW2 q L := w
    have w0 := w
    obtain ⟨⟨w1, w2, w3, w4, w5, w6⟩, w7, w8, w9, w10, w11⟩ := w
    have x1 := w3.lt w7.1
    have x2 := w4.lt (n := q.2.2.2.2.2.1) (Nat.le_trans w7.2.1 (by decide))
    have ec : cFN T (c, q) = cLB T c q.2.2.1 q.2.2.2.1 q.2.2.2.2.1 q.2.2.2.2.2.1 := if_pos r.1
    have hT : s.2.2.2.1 = T := r.2.2.2.1.trans (r.2.2.2.2.2.2.2.2.1 z)
    have bad : ∀ k : Int32, 0 < k.toInt → RF (cRT k T c) (fT k s) := by
      intro k hk
      refine ⟨?_, ?_, ?_⟩
      · show 0 < (if c.1 = 0 then k else c.1).toInt
        rw [if_pos r.1]; exact hk
      · show (if s.1 = 0 then k else s.1) = (if c.1 = 0 then k else c.1)
        rw [if_pos r.1, if_pos r.2.1]
      · show (if s.1 = 0 then nI s.2.2.2.1 else s.2.1) = (if c.1 = 0 then nI T else c.2.1)
        rw [if_pos r.1, if_pos r.2.1, hT]
    have ex : txE (s, L) = be7 (be6 s L.1 L.2.1 L.2.2.2.2.1 L.2.2.2.2.2.1) L.1 L.2.1 := rfl
    show ((cFN T (c, q)).1 = 0 ∧ (txE (s, L)).1 = 0 ∧ n = nI m ∧ RW2 q L ∧ (q.2.2.2.2.1 = 0 ∨ 0 < q.2.2.2.2.2.1)) ∨ RF (cFN T (c, q)) (txE (s, L))
    rw [ec, ex]
    unfold cLB be6
    rw [if_pos r.2.1, ← w5, ← w6]
    by_cases a : q.2.2.1.toInt < (q.2.2.2.2.1 : Int)
    · rw [if_pos a, if_neg (show ¬ nI q.2.2.2.2.1 ≤ L.2.2.2.2.1 from fun h9 => by have h8 := Int32.le_iff_toInt_le.mp h9; have h7 := x1.mpr a; omega)]
      by_cases b : q.2.2.2.1.toInt < (q.2.2.2.2.2.1 : Int)
      · rw [if_pos b, if_pos (Int32.lt_iff_toInt_lt.mpr (x2.mpr b))]
        unfold be7
        rw [if_pos r.2.1]
        by_cases d : 0 < q.2.2.2.2.1
        · rw [if_pos d, if_pos d]
          by_cases g : q.2.2.2.2.2.1 = 0
          · rw [if_pos g, if_pos g]
            exact Or.inr (bad 7 (by decide))
          · rw [if_neg g, if_neg g]
            exact Or.inl ⟨r.1, r.2.1, e, w0, Or.inr (by omega)⟩
        · rw [if_neg d, if_neg d]
          exact Or.inl ⟨r.1, r.2.1, e, w0, Or.inl (by omega)⟩
      · rw [if_neg b, if_neg (show ¬ L.2.2.2.2.2.1 < nI q.2.2.2.2.2.1 from fun h9 => b (x2.mp (Int32.lt_iff_toInt_lt.mp h9)))]
        have h6 := bad 6 (by decide)
        unfold be7
        rw [if_neg h6.n]
        exact Or.inr h6
    · rw [if_neg a, if_pos (show nI q.2.2.2.2.1 ≤ L.2.2.2.2.1 by refine Int32.le_iff_toInt_le.mpr ?_; have h7 : ¬ L.2.2.2.2.1.toInt < (nI q.2.2.2.2.1).toInt := fun h8 => a (x1.mp h8); omega)]
      have h6 := bad 6 (by decide)
      unfold be7
      rw [if_neg h6.n]
      exact Or.inr h6
  · have h : RF c s := h
    have ec : cFN T (c, q) = c := if_neg h.m
    have ex : txE (s, L) = be7 (be6 s L.1 L.2.1 L.2.2.2.2.1 L.2.2.2.2.2.1) L.1 L.2.1 := rfl
    have e6 : be6 s L.1 L.2.1 L.2.2.2.2.1 L.2.2.2.2.2.1 = s := if_neg h.n
    have e7 : be7 s L.1 L.2.1 = s := if_neg h.n
    right
    show RF (cFN T (c, q)) (txE (s, L))
    rw [ec, ex, e6, e7]
    exact h
