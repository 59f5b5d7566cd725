def R0 (f : Nat → Int32) (T : Nat) (c : CS5) (s : RSt) : Prop :=
  c.1 = 0 ∧ s.1 = 0 ∧ s.2.2.2.2.1 = c.2.2.1 ∧ s.2.2.2.1 = c.2.2.2.1 ∧ s.2.2.1 = c.2.2.2.2 ∧ c.2.2.2.1 ≤ c.2.2.2.2 ∧ c.2.2.2.2 ≤ T ∧ (c.2.2.1 = 2 → s.2.2.2.2.2 = cVL f T c) ∧ (c.2.2.1 = 0 → c.2.2.2.1 = T) ∧ (¬ c.2.2.1 = 0 → c.2.2.2.1 < c.2.2.2.2)
def RP (T : Nat) (c : CS5) (s : RSt) : Prop := c.1 = 0 ∧ s.1 = 0 ∧ s.2.2.1 = c.2.2.2.2 ∧ c.2.2.2.2 ≤ T
theorem R0.p {f : Nat → Int32} {T : Nat} {c : CS5} {s : RSt} (r : R0 f T c s) : RP T c s := ⟨r.1, r.2.1, r.2.2.2.2.1, r.2.2.2.2.2.2.1⟩
def RF (c : CS5) (s : RSt) : Prop := 0 < c.1.toInt ∧ s.1 = c.1 ∧ s.2.1 = c.2.1
theorem val_vl {f : Nat → Int32} {T F : Nat} (h3 : T ≤ 320) : ∀ n : Nat, n ≤ 2 → F + n ≤ T → valN f T F n = vlS f F n := by
  intro n
  induction n with
  | zero => intro _ _; rfl
  | succ n ih =>
    intro h1 h2
    have ih := ih (by omega) (by omega)
    have hb : byF f T (nI (F + n)) = f (F + n) := by
      unfold byF
      rw [if_pos ⟨by rw [nI_toInt (by omega)]; omega, by rw [nI_toInt (by omega)]; omega⟩, nI_clamp (by omega)]
    show valN f T F n * 10 + byF f T (nI (F + n)) - 48 = (if n < 2 then 10 * vlS f F n + f (F + n) - 48 else vlS f F n)
    rw [if_pos (by omega), ih, hb, Int32.mul_comm (vlS f F n) 10]
theorem fl_p (F : Nat) (ba x1 : Int32) : flA 0 ba F = flP 0 (nI F) x1 := by
  unfold flA flP
  rw [if_pos rfl, if_pos rfl]
theorem tokE {f : Nat → Int32} {T : Nat} (h3 : T ≤ 320) (P : Nat) (x1 x3 ba : Int32) (he : Nat) (tk va : Int32) (hT : P ≤ T) : (ntG f T (pst f T 32 32 P) = 1 ∧ R0 f T (ntS1 f T (pst f T 32 32 P) 0 x1 x3) (gOn f T 0 ba P he tk va) ∧ P ≤ (ntS1 f T (pst f T 32 32 P) 0 x1 x3).2.2.2.1) ∨ (ntG f T (pst f T 32 32 P) = 0 ∧ RF (ntS1 f T (pst f T 32 32 P) 0 x1 x3) (gOn f T 0 ba P he tk va)) := by
  have hb := pst_b (f := f) (T := T) (lo := 32) (hi := 32) hT
  have hg : gOn f T 0 ba P he tk va = gOn1 f T 0 ba (pst f T 32 32 P) := by
    unfold gOn
    rw [if_neg (by decide)]
  rw [hg]
  generalize pst f T 32 32 P = F at hb ⊢
  have f1 : (0 : Int) < (flB 1 0).toInt := by decide
  unfold ntG ntS1 gOn1
  by_cases c1 : T ≤ F
  · rw [if_pos c1, if_pos c1, if_pos c1]
    exact Or.inl ⟨rfl, ⟨rfl, rfl, rfl, rfl, rfl, Nat.le_refl _, hb.2, fun h => absurd (show (0 : Int32) = 2 from h) (by decide), fun _ => Nat.le_antisymm hb.2 c1, fun h => absurd rfl h⟩, hb.1⟩
  · rw [if_neg c1, if_neg c1, if_neg c1]
    by_cases c2 : 97 ≤ (f F).toInt ∧ (f F).toInt ≤ 122
    · rw [if_pos c2, if_pos c2, if_pos c2]
      have hq := pst_b (f := f) (T := T) (lo := 97) (hi := 122) hb.2
      have hi := pst_in (f := f) (T := T) (p := F) (lo := 97) (hi := 122) (by omega) c2.1 c2.2
      have hq1 := pst_b (f := f) (T := T) (p := F + 1) (lo := 97) (hi := 122) (by omega)
      exact Or.inl ⟨rfl, ⟨rfl, rfl, rfl, rfl, rfl, hq.1, hq.2, fun h => absurd (show (1 : Int32) = 2 from h) (by decide), fun h => absurd (show (1 : Int32) = 0 from h) (by decide), fun _ => by show F < pst f T 97 122 F; rw [hi]; omega⟩, hb.1⟩
    · rw [if_neg c2, if_neg c2, if_neg c2]
      by_cases c3 : 48 ≤ (f F).toInt ∧ (f F).toInt ≤ 57
      · rw [if_pos c3, if_pos c3, if_pos c3]
        have hq := pst_b (f := f) (T := T) (lo := 48) (hi := 57) hb.2
        have hi := pst_in (f := f) (T := T) (p := F) (lo := 48) (hi := 57) (by omega) c3.1 c3.2
        have hq1 := pst_b (f := f) (T := T) (p := F + 1) (lo := 48) (hi := 57) (by omega)
        by_cases c4 : pst f T 48 57 F - F ≤ 2
        · rw [if_pos c4, if_pos c4, if_neg (show ¬ 2 < pst f T 48 57 F - F by omega)]
          exact Or.inl ⟨rfl, ⟨rfl, rfl, rfl, rfl, rfl, hq.1, hq.2, fun _ => (val_vl h3 (pst f T 48 57 F - F) c4 (by omega)).symm, fun h => absurd (show (2 : Int32) = 0 from h) (by decide), fun _ => by show F < pst f T 48 57 F; rw [hi]; omega⟩, hb.1⟩
        · rw [if_neg c4, if_neg c4, if_pos (show 2 < pst f T 48 57 F - F by omega)]
          exact Or.inr ⟨rfl, f1, rfl, fl_p F ba x1⟩
      · rw [if_neg c3, if_neg c3, if_neg c3]
        by_cases c5 : f F = 59
        · rw [if_pos c5, if_pos c5, if_pos c5]
          exact Or.inl ⟨rfl, ⟨rfl, rfl, rfl, rfl, rfl, Nat.le_succ F, by show F + 1 ≤ T; omega, fun h => absurd (show (3 : Int32) = 2 from h) (by decide), fun h => absurd (show (3 : Int32) = 0 from h) (by decide), fun _ => Nat.lt_succ_self F⟩, hb.1⟩
        · rw [if_neg c5, if_neg c5, if_neg c5]
          exact Or.inr ⟨rfl, f1, rfl, fl_p F ba x1⟩
theorem tok {f : Nat → Int32} {T : Nat} {c : CS5} {s : RSt} (h3 : T ≤ 320) (p : RP T c s) : (tNG f T c = 1 ∧ R0 f T (tNT f T c) (gT f T s) ∧ c.2.2.2.2 ≤ (tNT f T c).2.2.2.1) ∨ (tNG f T c = 0 ∧ RF (tNT f T c) (gT f T s)) := by
  have h := tokE (f := f) h3 c.2.2.2.2 c.2.1 c.2.2.1 s.2.1 s.2.2.2.1 s.2.2.2.2.1 s.2.2.2.2.2 p.2.2.2
  unfold tNG tNT gT
  rw [p.1, p.2.1, p.2.2.1]
  exact h
def oB (lo xh sm : Int32) (s : RSt) : RSt := (otB lo xh sm s.1 s.2.2.2.2.1 s.2.2.2.2.2, otA lo xh sm s.1 s.2.1 s.2.2.2.1 s.2.2.2.2.1 s.2.2.2.2.2, s.2.2.1, s.2.2.2.1, s.2.2.2.2.1, s.2.2.2.2.2)
theorem oS_eq {f : Nat → Int32} {T : Nat} {lo xh sm : Int32} {s : RSt} : oS f T lo xh sm s = gT f T (oB lo xh sm s) := rfl
def fiP (s : RSt) : RSt := if s.1 = 0 then (if s.2.2.2.2.1 = 3 then s else fT 2 s) else s
theorem fiS_eq {f : Nat → Int32} {T : Nat} {s : RSt} : fiS f T s = gT f T (fiP s) := rfl
theorem RF.n {c : CS5} {s : RSt} (h : RF c s) : ¬ s.1 = 0 := by
  intro e
  have h1 := h.1
  rw [← h.2.1, e] at h1
  exact absurd h1 (by decide)
theorem RF.m {c : CS5} {s : RSt} (h : RF c s) : ¬ c.1 = 0 := fun e => h.n (h.2.1.trans e)
theorem RF.g {f : Nat → Int32} {T : Nat} {c : CS5} {s : RSt} (h : RF c s) : gT f T s = s := by
  show (if 0 < s.1.toInt then (s.1, s.2.1, s.2.2.1, s.2.2.2.1, s.2.2.2.2.1, s.2.2.2.2.2) else gOn1 f T s.1 s.2.1 (pst f T 32 32 s.2.2.1)) = s
  exact if_pos (by rw [h.2.1]; exact h.1)
theorem RF.f {c : CS5} {s : RSt} {k : Int32} (h : RF c s) : RF c (fT k s) := by
  refine ⟨h.1, ?_, ?_⟩
  · show (if s.1 = 0 then k else s.1) = c.1
    rw [if_neg h.n]; exact h.2.1
  · show (if s.1 = 0 then nI s.2.2.2.1 else s.2.1) = c.2.1
    rw [if_neg h.n]; exact h.2.2
theorem RF.o {c : CS5} {s : RSt} {lo xh sm : Int32} (h : RF c s) : RF c (oB lo xh sm s) := by
  have e : otC lo xh sm s.1 s.2.2.2.2.1 s.2.2.2.2.2 = 0 := by
    unfold otC
    rw [if_neg h.n]
  refine ⟨h.1, ?_, ?_⟩
  · show (if otC lo xh sm s.1 s.2.2.2.2.1 s.2.2.2.2.2 = 0 then s.1 else otC lo xh sm s.1 s.2.2.2.2.1 s.2.2.2.2.2) = c.1
    rw [if_pos e]; exact h.2.1
  · show (if otC lo xh sm s.1 s.2.2.2.2.1 s.2.2.2.2.2 = 0 then s.2.1 else nI s.2.2.2.1) = c.2.1
    rw [if_pos e]; exact h.2.2
theorem RF.i {c : CS5} {s : RSt} (h : RF c s) : RF c (fiP s) := by
  unfold fiP
  rw [if_neg h.n]
  exact h
theorem RF.s {f : Nat → Int32} {T : Nat} {c : CS5} {s : RSt} {lo xh sm : Int32} (h : RF c s) : RF c (oS f T lo xh sm s) := by
  rw [oS_eq, (h.o (lo := lo) (xh := xh) (sm := sm)).g]
  exact h.o
theorem RF.G {f : Nat → Int32} {T : Nat} {c : CS5} {s : RSt} (h : RF c s) : RF c (gT f T s) := by
  rw [h.g]; exact h
theorem fT_bad {f : Nat → Int32} {T : Nat} {c : CS5} {s : RSt} {k : Int32} (r : R0 f T c s) (hk : 0 < k.toInt) : RF (cRF k c) (fT k s) := by
  refine ⟨?_, ?_, ?_⟩
  · show 0 < (if c.1 = 0 then k else c.1).toInt
    rw [if_pos r.1]; exact hk
  · show (if s.1 = 0 then k else s.1) = (if c.1 = 0 then k else c.1)
    rw [if_pos r.1, if_pos r.2.1]
  · show (if s.1 = 0 then nI s.2.2.2.1 else s.2.1) = (if c.1 = 0 then nI c.2.2.2.1 else c.2.1)
    rw [if_pos r.1, if_pos r.2.1, r.2.2.2.1]
theorem oB_bad {f : Nat → Int32} {T : Nat} {c : CS5} {s : RSt} {lo hi sm k : Int32} (r : R0 f T c s) (hk : 0 < k.toInt) (e : otC lo hi sm s.1 s.2.2.2.2.1 s.2.2.2.2.2 = k) : RF (cRF k c) (oB lo hi sm s) := by
  have k0 : ¬ k = 0 := fun e0 => by rw [e0] at hk; exact absurd hk (by decide)
  refine ⟨?_, ?_, ?_⟩
  · show 0 < (if c.1 = 0 then k else c.1).toInt
    rw [if_pos r.1]; exact hk
  · show (if otC lo hi sm s.1 s.2.2.2.2.1 s.2.2.2.2.2 = 0 then s.1 else otC lo hi sm s.1 s.2.2.2.2.1 s.2.2.2.2.2) = (if c.1 = 0 then k else c.1)
    rw [e, if_neg k0, if_pos r.1]
  · show (if otC lo hi sm s.1 s.2.2.2.2.1 s.2.2.2.2.2 = 0 then s.2.1 else nI s.2.2.2.1) = (if c.1 = 0 then nI c.2.2.2.1 else c.2.1)
    rw [e, if_neg k0, if_pos r.1, r.2.2.2.1]
theorem otC_in {f : Nat → Int32} {T : Nat} {c : CS5} {s : RSt} {lo hi sm : Int32} (r : R0 f T c s) (k : c.2.2.1 = 2) (h1 : lo.toInt ≤ (cVL f T c).toInt) (h2 : (cVL f T c).toInt ≤ hi.toInt) : otC lo hi sm s.1 s.2.2.2.2.1 s.2.2.2.2.2 = if (sm >>> (cVL f T c &&& 31)) &&& 1 = 1 then 4 else 0 := by
  unfold otC
  rw [if_pos r.2.1, if_pos (r.2.2.1.trans k), r.2.2.2.2.2.2.2.1 k, if_pos ⟨h1, h2⟩]
theorem oB_ok {f : Nat → Int32} {T : Nat} {c : CS5} {s : RSt} {lo hi sm : Int32} (r : R0 f T c s) (k : c.2.2.1 = 2) (h1 : lo.toInt ≤ (cVL f T c).toInt) (h2 : (cVL f T c).toInt ≤ hi.toInt) (hm : ¬ (sm >>> (cVL f T c &&& 31)) &&& 1 = 1) : oB lo hi sm s = s ∧ oV lo hi sm s = cVL f T c := by
  have e := otC_in (sm := sm) r k h1 h2
  rw [if_neg hm] at e
  have eB : otB lo hi sm s.1 s.2.2.2.2.1 s.2.2.2.2.2 = s.1 := by
    unfold otB
    rw [if_pos e]
  have eA : otA lo hi sm s.1 s.2.1 s.2.2.2.1 s.2.2.2.2.1 s.2.2.2.2.2 = s.2.1 := by
    unfold otA
    rw [if_pos e]
  constructor
  · unfold oB
    rw [eB, eA]
  · show (if otB lo hi sm s.1 s.2.2.2.2.1 s.2.2.2.2.2 = 0 then s.2.2.2.2.2 else lo) = _
    rw [eB, if_pos r.2.1]
    exact r.2.2.2.2.2.2.2.1 k
theorem msk0 (x : Int32) : ¬ ((0 : Int32) >>> (x &&& 31)) &&& 1 = 1 := by
  rw [Int32.zero_shiftRight]
  decide
theorem num {f : Nat → Int32} {T : Nat} {c : CS5} {s : RSt} {lo hi : Int32} (h3 : T ≤ 320) (p : RP T c s) : ((tNN f T lo hi c).1 = 1 ∧ R0 f T (tNN f T lo hi c).2 (gT f T s) ∧ (tNN f T lo hi c).2.2.2.1 = 2 ∧ lo.toInt ≤ (cVL f T (tNN f T lo hi c).2).toInt ∧ (cVL f T (tNN f T lo hi c).2).toInt ≤ hi.toInt ∧ c.2.2.2.2 ≤ (tNN f T lo hi c).2.2.2.2.1) ∨ ((tNN f T lo hi c).1 = 0 ∧ ∀ sm : Int32, RF (tNN f T lo hi c).2 (oB lo hi sm (gT f T s))) := by
  have e : tNN f T lo hi c = (if tNG f T c = 0 then (0, tNT f T c) else if (tNT f T c).2.2.1 = 2 then (if cVL f T (tNT f T c) < lo then (0, cRF 3 (tNT f T c)) else if cVL f T (tNT f T c) ≤ hi then (1, tNT f T c) else (0, cRF 3 (tNT f T c))) else (0, cRF 2 (tNT f T c))) := rfl
  rw [e]
  rcases tok (f := f) h3 p with ⟨g, r, q⟩ | ⟨g, r⟩
  · rw [if_neg (by rw [g]; decide)]
    generalize tNT f T c = c1 at r q ⊢
    generalize gT f T s = s1 at r ⊢
    by_cases k : c1.2.2.1 = 2
    · rw [if_pos k]
      by_cases a : cVL f T c1 < lo
      · rw [if_pos a]
        refine Or.inr ⟨rfl, fun sm => oB_bad (k := 3) r (by decide) ?_⟩
        have a' := Int32.lt_iff_toInt_lt.mp a
        unfold otC
        rw [if_pos r.2.1, if_pos (r.2.2.1.trans k), r.2.2.2.2.2.2.2.1 k, if_neg (fun h => by have h1 := h.1; omega)]
      · rw [if_neg a]
        have a' : ¬ (cVL f T c1).toInt < lo.toInt := fun h => a (Int32.lt_iff_toInt_lt.mpr h)
        by_cases b : cVL f T c1 ≤ hi
        · rw [if_pos b]
          exact Or.inl ⟨rfl, r, k, by show lo.toInt ≤ (cVL f T c1).toInt; omega, Int32.le_iff_toInt_le.mp b, q⟩
        · rw [if_neg b]
          have b' : ¬ (cVL f T c1).toInt ≤ hi.toInt := fun h => b (Int32.le_iff_toInt_le.mpr h)
          refine Or.inr ⟨rfl, fun sm => oB_bad (k := 3) r (by decide) ?_⟩
          unfold otC
          rw [if_pos r.2.1, if_pos (r.2.2.1.trans k), r.2.2.2.2.2.2.2.1 k, if_neg (fun h => b' h.2)]
    · rw [if_neg k]
      refine Or.inr ⟨rfl, fun sm => oB_bad (k := 2) r (by decide) ?_⟩
      unfold otC
      rw [if_pos r.2.1, if_neg (fun h => k (r.2.2.1.symm.trans h))]
  · rw [if_pos g]
    exact Or.inr ⟨rfl, fun sm => r.o⟩
theorem fiP_ok {f : Nat → Int32} {T : Nat} {c : CS5} {s : RSt} (r : R0 f T c s) (k : c.2.2.1 = 3) : fiP s = s := by
  unfold fiP
  rw [if_pos r.2.1, if_pos (r.2.2.1.trans k)]
theorem fiP_no {f : Nat → Int32} {T : Nat} {c : CS5} {s : RSt} (r : R0 f T c s) (k : ¬ c.2.2.1 = 3) : fiP s = fT 2 s := by
  unfold fiP
  rw [if_pos r.2.1, if_neg (fun h => k (r.2.2.1.symm.trans h))]
theorem stp {f : Nat → Int32} {T : Nat} {c : CS5} {s : RSt} (h3 : T ≤ 320) (p : RP T c s) : ((tNS f T c).1 = 1 ∧ R0 f T (tNS f T c).2 (fiP (gT f T s)) ∧ c.2.2.2.2 < (tNS f T c).2.2.2.2.2) ∨ ((tNS f T c).1 = 0 ∧ RF (tNS f T c).2 (fiP (gT f T s))) := by
  have e : tNS f T c = (if tNG f T c = 0 then (0, tNT f T c) else if (tNT f T c).2.2.1 = 3 then (1, tNT f T c) else (0, cRF 2 (tNT f T c))) := rfl
  rw [e]
  rcases tok (f := f) h3 p with ⟨g, r, q⟩ | ⟨g, r⟩
  · rw [if_neg (by rw [g]; decide)]
    generalize tNT f T c = c1 at r q ⊢
    generalize gT f T s = s1 at r ⊢
    by_cases k : c1.2.2.1 = 3
    · rw [if_pos k, fiP_ok r k]
      have hl := r.2.2.2.2.2.2.2.2.2 (by rw [k]; decide)
      exact Or.inl ⟨rfl, r, Nat.lt_of_le_of_lt q hl⟩
    · rw [if_neg k, fiP_no r k]
      exact Or.inr ⟨rfl, fT_bad r (by decide)⟩
  · rw [if_pos g]
    exact Or.inr ⟨rfl, r.i⟩
theorem num0 {f : Nat → Int32} {T : Nat} {c : CS5} {s : RSt} {lo hi : Int32} (h3 : T ≤ 320) (p : RP T c s) : ((tNN f T lo hi c).1 = 1 ∧ R0 f T (tNN f T lo hi c).2 (gT f T s) ∧ oS f T lo hi 0 (gT f T s) = gT f T (gT f T s) ∧ oV lo hi 0 (gT f T s) = cVL f T (tNN f T lo hi c).2 ∧ (lo.toInt ≤ (cVL f T (tNN f T lo hi c).2).toInt ∧ (cVL f T (tNN f T lo hi c).2).toInt ≤ hi.toInt) ∧ c.2.2.2.2 ≤ (tNN f T lo hi c).2.2.2.2.2) ∨ ((tNN f T lo hi c).1 = 0 ∧ RF (tNN f T lo hi c).2 (oS f T lo hi 0 (gT f T s))) := by
  rcases num (f := f) (lo := lo) (hi := hi) h3 p with ⟨a1, a2, a3, a4, a5, a6⟩ | ⟨a1, a2⟩
  · obtain ⟨b1, b2⟩ := oB_ok (sm := 0) a2 a3 a4 a5 (msk0 _)
    exact Or.inl ⟨a1, a2, by rw [oS_eq, b1], b2, ⟨a4, a5⟩, Nat.le_trans a6 a2.2.2.2.2.2.1⟩
  · refine Or.inr ⟨a1, ?_⟩
    rw [oS_eq, (a2 0).g]
    exact a2 0
-- names
theorem wm_pair {f : Nat → Int32} {F P i n : Nat} (h1 : strLen.getD i 0 = cutL.getD (n + 1) 0 - cutL.getD n 0) (h2 : ∀ k : Nat, k < strLen.getD i 0 → (strByt.getD i []).getD k 0 &&& 255 = letL.getD (cutL.getD n 0 + k) 0) : sYs f F P i ↔ wMt f F P n := by
  constructor
  · intro h
    exact ⟨h.1.trans h1, fun k hk => (h.2 k (by rw [← h.1]; exact hk)).trans (h2 k (by rw [← h.1]; exact hk))⟩
  · intro h
    exact ⟨h.1.trans h1.symm, fun k hk => (h.2 k (by rw [h.1, ← h1]; exact hk)).trans (h2 k hk).symm⟩
abbrev Wn (f : Nat → Int32) (c : CS5) (n : Nat) : Prop := c.2.2.1 = 1 ∧ wMt f c.2.2.2.1 c.2.2.2.2 n
theorem isn0 {f : Nat → Int32} {F P i n : Nat} {x3 : Int32} (hw : sYs f F P i ↔ wMt f F P n) : isN f F P x3 i = 0 ↔ ¬ (x3 = 1 ∧ wMt f F P n) := by
  unfold isN
  by_cases a : x3 = 1
  · rw [if_pos a]
    by_cases b : sYs f F P i
    · rw [if_pos b]; exact ⟨fun h => absurd h (by decide), fun h => absurd ⟨a, hw.mp b⟩ h⟩
    · rw [if_neg b]; exact ⟨fun _ h => b (hw.mpr h.2), fun _ => rfl⟩
  · rw [if_neg a]; exact ⟨fun _ h => a h.1, fun _ => rfl⟩
theorem wm_key : ∀ n : Fin 10, ∀ m : Fin 10, n.val = m.val ∨ ¬ cutL.getD (n.val + 1) 0 - cutL.getD n.val 0 = cutL.getD (m.val + 1) 0 - cutL.getD m.val 0 ∨ ¬ ∀ k : Fin 8, (k.val < cutL.getD (n.val + 1) 0 - cutL.getD n.val 0 → letL.getD (cutL.getD n.val 0 + k.val) 0 = letL.getD (cutL.getD m.val 0 + k.val) 0) := by decide +kernel
theorem wm_ex {f : Nat → Int32} {a b n m : Nat} (hn : n < 10) (hm : m < 10) (h1 : wMt f a b n) (h2 : wMt f a b m) : n = m := by
  rcases wm_key ⟨n, hn⟩ ⟨m, hm⟩ with h | h | h
  · exact h
  · exact absurd (h1.1.symm.trans h2.1) h
  · exact absurd (fun (k : Fin 8) hk => (h1.2 k.val (by rw [h1.1]; exact hk)).symm.trans (h2.2 k.val (by rw [h1.1]; exact hk))) h
theorem nm_skip {f : Nat → Int32} {a b : Nat} : ∀ n : Nat, n ≤ 10 → (∀ m : Nat, m < n → ¬ wMt f a b m) → nmF f a b 10 = nmF f a b (10 - n) := by
  intro n
  induction n with
  | zero => intro _ _; rfl
  | succ n ih =>
    intro h1 h2
    rw [ih (by omega) (fun m hm => h2 m (by omega)), nmF_n (n := n) (by omega) (h2 n (by omega))]
theorem nm_w {f : Nat → Int32} {a b n : Nat} (hn : n < 10) (h : wMt f a b n) : nmF f a b 10 = nI n := by
  rw [nm_skip n (by omega) (fun m hm hw => by have := wm_ex (by omega) hn hw h; omega), nmF_y hn h]
theorem nm_0 {f : Nat → Int32} {a b : Nat} (h : ∀ m : Nat, m < 10 → ¬ wMt f a b m) : nmF f a b 10 = -4 := by
  rw [nm_skip 10 (by omega) h]
  rfl
theorem nT_eq {f : Nat → Int32} {T : Nat} {c : CS5} {s : RSt} (r : R0 f T c s) : nT f s = nmS f c.2.2.2.1 c.2.2.2.2 c.2.2.1 := by
  unfold nT
  rw [r.2.2.2.1, r.2.2.2.2.1, r.2.2.1]
theorem nT_w {f : Nat → Int32} {T n : Nat} {c : CS5} {s : RSt} (r : R0 f T c s) (hn : n < 10) (h : Wn f c n) : nT f s = nI n := by
  rw [nT_eq r]
  unfold nmS
  rw [if_pos h.1]
  exact nm_w hn h.2
theorem nT_0 {f : Nat → Int32} {T : Nat} {c : CS5} {s : RSt} (r : R0 f T c s) (h : ∀ m : Nat, m < 10 → ¬ Wn f c m) : nT f s = -4 := by
  rw [nT_eq r]
  unfold nmS
  by_cases a : c.2.2.1 = 1
  · rw [if_pos a]
    exact nm_0 (fun m hm hw => h m hm ⟨a, hw⟩)
  · rw [if_neg a]
theorem nT_hi {f : Nat → Int32} {T : Nat} {c : CS5} {s : RSt} (r : R0 f T c s) (h : ∀ m : Nat, m < 4 → ¬ Wn f c m) : ¬ (0 ≤ (nT f s).toInt ∧ (nT f s).toInt ≤ 3) := by
  by_cases e : ∃ n : Nat, n < 10 ∧ Wn f c n
  · obtain ⟨n, hn, hw⟩ := e
    rw [nT_w r hn hw, nI_toInt (by omega)]
    intro h9
    exact h n (by omega) hw
  · rw [nT_0 r (fun m hm hw => e ⟨m, hm, hw⟩)]
    decide
theorem nT_lo {f : Nat → Int32} {T : Nat} {c : CS5} {s : RSt} (r : R0 f T c s) (h : ∀ m : Nat, m < 10 → 4 ≤ m → ¬ Wn f c m) : ¬ (0 : Int32) ≤ nT f s - 4 := by
  by_cases e : ∃ n : Nat, n < 10 ∧ Wn f c n
  · obtain ⟨n, hn, hw⟩ := e
    rw [nT_w r hn hw]
    rcases (show n = 0 ∨ n = 1 ∨ n = 2 ∨ n = 3 ∨ 4 ≤ n by omega) with g|g|g|g|g
    · subst g; decide
    · subst g; decide
    · subst g; decide
    · subst g; decide
    · exact absurd hw (h n hn g)
  · rw [nT_0 r (fun m hm hw => e ⟨m, hm, hw⟩)]
    decide
theorem kd_sim {f : Nat → Int32} {T : Nat} {c : CS5} {s : RSt} (r : R0 f T c s) : (cKD f c = -4 ∧ ¬ (0 : Int32) ≤ nT f s - 4) ∨ (¬ cKD f c = -4 ∧ (0 : Int32) ≤ nT f s - 4 ∧ nT f s - 4 = cKD f c) := by
  unfold cKD kdF
  have i4 := isn0 (f := f) (F := c.2.2.2.1) (P := c.2.2.2.2) (x3 := c.2.2.1) (i := 3) (n := 4) (wm_pair (by decide) (by decide +kernel))
  have i5 := isn0 (f := f) (F := c.2.2.2.1) (P := c.2.2.2.2) (x3 := c.2.2.1) (i := 4) (n := 5) (wm_pair (by decide) (by decide +kernel))
  have i6 := isn0 (f := f) (F := c.2.2.2.1) (P := c.2.2.2.2) (x3 := c.2.2.1) (i := 5) (n := 6) (wm_pair (by decide) (by decide +kernel))
  have i7 := isn0 (f := f) (F := c.2.2.2.1) (P := c.2.2.2.2) (x3 := c.2.2.1) (i := 6) (n := 7) (wm_pair (by decide) (by decide +kernel))
  have i8 := isn0 (f := f) (F := c.2.2.2.1) (P := c.2.2.2.2) (x3 := c.2.2.1) (i := 7) (n := 8) (wm_pair (by decide) (by decide +kernel))
  have i9 := isn0 (f := f) (F := c.2.2.2.1) (P := c.2.2.2.2) (x3 := c.2.2.1) (i := 8) (n := 9) (wm_pair (by decide) (by decide +kernel))
  by_cases h4 : Wn f c 4
  · rw [if_neg (fun e => i4.mp e h4), nT_w r (by decide) h4]; exact Or.inr ⟨by decide, by decide, by decide⟩
  rw [if_pos (i4.mpr h4)]
  by_cases h5 : Wn f c 5
  · rw [if_neg (fun e => i5.mp e h5), nT_w r (by decide) h5]; exact Or.inr ⟨by decide, by decide, by decide⟩
  rw [if_pos (i5.mpr h5)]
  by_cases h6 : Wn f c 6
  · rw [if_neg (fun e => i6.mp e h6), nT_w r (by decide) h6]; exact Or.inr ⟨by decide, by decide, by decide⟩
  rw [if_pos (i6.mpr h6)]
  by_cases h7 : Wn f c 7
  · rw [if_neg (fun e => i7.mp e h7), nT_w r (by decide) h7]; exact Or.inr ⟨by decide, by decide, by decide⟩
  rw [if_pos (i7.mpr h7)]
  by_cases h8 : Wn f c 8
  · rw [if_neg (fun e => i8.mp e h8), nT_w r (by decide) h8]; exact Or.inr ⟨by decide, by decide, by decide⟩
  rw [if_pos (i8.mpr h8)]
  by_cases h9 : Wn f c 9
  · rw [if_neg (fun e => i9.mp e h9), nT_w r (by decide) h9]; exact Or.inr ⟨by decide, by decide, by decide⟩
  rw [if_pos (i9.mpr h9)]
  refine Or.inl ⟨rfl, nT_lo r (fun m hm h => ?_)⟩
  rcases (show m = 4 ∨ m = 5 ∨ m = 6 ∨ m = 7 ∨ m = 8 ∨ m = 9 by omega) with g|g|g|g|g|g <;> subst g <;> assumption
-- rows
def XR (a b : Int32) : Prop := (a = b ∧ 0 ≤ a.toInt) ∨ (a = -4 ∧ b = -1)
theorem XR.up {a b v : Int32} (h : XR a b) (hv : 0 ≤ v.toInt) : XR (mx a v) (rmX v b) := by
  unfold mx rmX
  rcases h with ⟨h1, h2⟩ | ⟨h1, h2⟩
  · subst h1
    by_cases q : v ≤ a
    · have q' := Int32.le_iff_toInt_le.mp q
      rw [if_pos q, if_neg (by omega)]; exact Or.inl ⟨rfl, h2⟩
    · have q' : ¬ v.toInt ≤ a.toInt := fun h => q (Int32.le_iff_toInt_le.mpr h)
      rw [if_neg q, if_pos (by omega)]; exact Or.inl ⟨rfl, hv⟩
  · subst h1 h2
    have e4 : (-4 : Int32).toInt = -4 := by decide
    have e1 : (-1 : Int32).toInt = -1 := by decide
    rw [if_pos (by omega), if_neg (fun h => by have h' := Int32.le_iff_toInt_le.mp h; omega)]
    exact Or.inl ⟨rfl, hv⟩
theorem XR.lt {a b : Int32} {n : Nat} (h : XR a b) (hn : n ≤ 10) : b.toInt < (nI n).toInt ↔ a.toInt < (n : Int) := by
  rw [nI_toInt (by omega)]
  rcases h with ⟨h1, h2⟩ | ⟨h1, h2⟩
  · rw [h1]
  · rw [h1, h2, show (-4 : Int32).toInt = -4 by decide, show (-1 : Int32).toInt = -1 by decide]
    omega
def RW (st ca xs xb : Int32) (N B D : Nat) (g1 g2 g3 g4 g5 g6 : Nat → Int32) (rs rb : Nat) (hs cb ys yb : Int32) (fp : Nat → Int32) : Prop :=
  (st = hs ∧ ca = cb ∧ XR xs ys ∧ XR xb yb ∧ N = rs ∧ B = rb) ∧ (N ≤ 10 ∧ B ≤ 6 ∧ 1 ≤ D ∧ D ≤ 9) ∧ fp 48 = nI D - 5 ∧ (∀ i : Nat, i < N → fp (2 * i) = g1 i ∧ fp (2 * i + 1) = g2 i) ∧ (∀ i : Nat, i < 10 → fp (38 + i) = g3 i) ∧ (∀ i : Nat, i < B → fp (20 + 3 * i) = g4 i ∧ fp (20 + 3 * i + 1) = g5 i ∧ fp (20 + 3 * i + 2) = g6 i)
abbrev CW2 : Type := Int32 × Int32 × Int32 × Int32 × Nat × Nat × Nat × (Nat → Int32) × (Nat → Int32) × (Nat → Int32) × (Nat → Int32) × (Nat → Int32) × (Nat → Int32)
abbrev LS2 : Type := Nat × Nat × Int32 × Int32 × Int32 × Int32 × (Nat → Int32)
def RW2 (q : CW2) (L : LS2) : Prop := RW q.1 q.2.1 q.2.2.1 q.2.2.2.1 q.2.2.2.2.1 q.2.2.2.2.2.1 q.2.2.2.2.2.2.1 q.2.2.2.2.2.2.2.1 q.2.2.2.2.2.2.2.2.1 q.2.2.2.2.2.2.2.2.2.1 q.2.2.2.2.2.2.2.2.2.2.1 q.2.2.2.2.2.2.2.2.2.2.2.1 q.2.2.2.2.2.2.2.2.2.2.2.2 L.1 L.2.1 L.2.2.1 L.2.2.2.1 L.2.2.2.2.1 L.2.2.2.2.2.1 L.2.2.2.2.2.2
theorem upd_n {f : Nat → Int32} {k j : Nat} {v : Int32} (h : ¬ j = k) : upd f k v j = f j := if_neg h
theorem upd_y {f : Nat → Int32} {k : Nat} {v : Int32} : upd f k v k = v := if_pos rfl
theorem cl_nI {x : Int32} (h : 0 ≤ x.toInt) : nI x.toNatClampNeg = x := Int32.ofNat_toNatClampNeg x (Int32.le_iff_toInt_le.mpr h)
def LOK (f : Nat → Int32) (T P : Nat) (A : Int32 × CW) (L : LSt) : Prop := (A.1 = 1 ∧ (∃ s2 : RSt, L.1 = gT f T s2 ∧ R0 f T A.2.1 s2) ∧ P < A.2.1.2.2.2.2 ∧ RW2 A.2.2 L.2) ∨ (A.1 = 0 ∧ RF A.2.1 L.1)
