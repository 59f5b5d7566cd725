def txN (f : Nat → Int32) (T N : Nat) : Nat := if 0 < (txF f T).toInt then N else (TQ f T).1.2.1
def txB (f : Nat → Int32) (T B : Nat) : Nat := if 0 < (txF f T).toInt then B else (TQ f T).1.2.2.1
def txS (f : Nat → Int32) (T S : Nat) : Nat := if 0 < (txF f T).toInt then S else 0
def txK (f : Nat → Int32) (T : Nat) (K : Nat → Int32) : Nat → Int32 := if 0 < (txF f T).toInt then K else upd (upd K 0 0) 1 0
theorem txt_c1 {α : Type} {a b : α} {f : Nat → Int32} {T : Nat} (h3 : T ≤ 320) {x3 : Int32} {g1 g2 g3 g4 g5 g6 : Nat → Int32} : (if (cFN T (cRA f T x3 g1 g2 g3 g4 g5 g6).1).1 = 0 then a else b) = (if 0 < (txF f T).toInt then b else a) := by
  rcases text_sim (f := f) h3 x3 g1 g2 g3 g4 g5 g6 0 0 0 0 (fun _ => 0) with ⟨p, q, _⟩ | h
  · have q' : txF f T = 0 := q
    rw [if_pos p, if_neg (by rw [q']; decide)]
  · have e : txF f T = (cFN T (cRA f T x3 g1 g2 g3 g4 g5 g6).1).1 := h.2.1
    rw [if_neg h.m, if_pos (by rw [e]; exact h.1)]
theorem txt_cN {N : Nat} {f : Nat → Int32} {T : Nat} (h3 : T ≤ 320) {x3 : Int32} {g1 g2 g3 g4 g5 g6 : Nat → Int32} : (if (cFN T (cRA f T x3 g1 g2 g3 g4 g5 g6).1).1 = 0 then (cRA f T x3 g1 g2 g3 g4 g5 g6).1.2.2.2.2.2.1 else N) = txN f T N := by
  unfold txN
  rcases text_sim (f := f) h3 x3 g1 g2 g3 g4 g5 g6 0 0 0 0 (fun _ => 0) with ⟨p, q, _, w, _⟩ | h
  · have q' : txF f T = 0 := q
    rw [if_pos p, if_neg (by rw [q']; decide)]
    exact w.1.2.2.2.2.1
  · have e : txF f T = (cFN T (cRA f T x3 g1 g2 g3 g4 g5 g6).1).1 := h.2.1
    rw [if_neg h.m, if_pos (by rw [e]; exact h.1)]
theorem txt_cB {B : Nat} {f : Nat → Int32} {T : Nat} (h3 : T ≤ 320) {x3 : Int32} {g1 g2 g3 g4 g5 g6 : Nat → Int32} : (if (cFN T (cRA f T x3 g1 g2 g3 g4 g5 g6).1).1 = 0 then (cRA f T x3 g1 g2 g3 g4 g5 g6).1.2.2.2.2.2.2.1 else B) = txB f T B := by
  unfold txB
  rcases text_sim (f := f) h3 x3 g1 g2 g3 g4 g5 g6 0 0 0 0 (fun _ => 0) with ⟨p, q, _, w, _⟩ | h
  · have q' : txF f T = 0 := q
    rw [if_pos p, if_neg (by rw [q']; decide)]
    exact w.1.2.2.2.2.2
  · have e : txF f T = (cFN T (cRA f T x3 g1 g2 g3 g4 g5 g6).1).1 := h.2.1
    rw [if_neg h.m, if_pos (by rw [e]; exact h.1)]
theorem txt_r1 {α : Type} {a b : α} {f : Nat → Int32} {T : Nat} (h3 : T ≤ 320) {ba : Int32} {he : Nat} {tk va : Int32} {fp : Nat → Int32} : (if 0 < (txE (txQ f T ba he tk va fp).1).1.toInt then b else a) = (if 0 < (txF f T).toInt then b else a) := by
  rw [txt_rf h3]
theorem txt_rN {N : Nat} {f : Nat → Int32} {T : Nat} (h3 : T ≤ 320) {ba : Int32} {he : Nat} {tk va : Int32} {fp : Nat → Int32} : (if 0 < (txE (txQ f T ba he tk va fp).1).1.toInt then N else (txQ f T ba he tk va fp).1.2.1) = txN f T N := by
  have c := txt_cN (N := N) (f := f) h3 (x3 := 0) (g1 := fun _ => 0) (g2 := fun _ => 0) (g3 := fun _ => 0) (g4 := fun _ => 0) (g5 := fun _ => 0) (g6 := fun _ => 0)
  rw [← c]
  rcases text_sim (f := f) h3 0 (fun _ => 0) (fun _ => 0) (fun _ => 0) (fun _ => 0) (fun _ => 0) (fun _ => 0) ba he tk va fp with ⟨p, q, _, w, _⟩ | h
  · rw [if_pos p, if_neg (by rw [q]; decide)]
    exact w.1.2.2.2.2.1.symm
  · rw [if_neg h.m, if_pos h.pos]
theorem txt_rB {B : Nat} {f : Nat → Int32} {T : Nat} (h3 : T ≤ 320) {ba : Int32} {he : Nat} {tk va : Int32} {fp : Nat → Int32} : (if 0 < (txE (txQ f T ba he tk va fp).1).1.toInt then B else (txQ f T ba he tk va fp).1.2.2.1) = txB f T B := by
  have c := txt_cB (B := B) (f := f) h3 (x3 := 0) (g1 := fun _ => 0) (g2 := fun _ => 0) (g3 := fun _ => 0) (g4 := fun _ => 0) (g5 := fun _ => 0) (g6 := fun _ => 0)
  rw [← c]
  rcases text_sim (f := f) h3 0 (fun _ => 0) (fun _ => 0) (fun _ => 0) (fun _ => 0) (fun _ => 0) (fun _ => 0) ba he tk va fp with ⟨p, q, _, w, _⟩ | h
  · rw [if_pos p, if_neg (by rw [q]; decide)]
    exact w.1.2.2.2.2.2.symm
  · rw [if_neg h.m, if_pos h.pos]
/-- what the images keep: the way's counts, while they are kept -/
def XIN (N B : Nat) (K : Nat → Int32) (N1 B1 N2 B2 : Nat) : Prop := (K 0 = 0 ∨ (N1 = N ∧ B1 = B)) ∧ (K 1 = 0 ∨ (N2 = N ∧ B2 = B))
theorem tx_X {f : Nat → Int32} {T N B N1 B1 N2 B2 : Nat} {K : Nat → Int32} (h : XIN N B K N1 B1 N2 B2) : XIN (txN f T N) (txB f T B) (txK f T K) N1 B1 N2 B2 := by
  unfold txN txB txK
  by_cases c : 0 < (txF f T).toInt
  · rw [if_pos c, if_pos c, if_pos c]; exact h
  · rw [if_neg c, if_neg c, if_neg c]; exact ⟨Or.inl rfl, Or.inl rfl⟩
theorem k01 {k : Int32} (h : 0 ≤ k.toInt ∧ k.toInt < 2) : k = 0 ∨ k = 1 := by
  rcases (show k.toInt = 0 ∨ k.toInt = 1 by omega) with e | e
  · exact Or.inl (Int32.toInt_inj.mp (by rw [e]; rfl))
  · exact Or.inr (Int32.toInt_inj.mp (by rw [e]; rfl))
theorem kp_X {k : Int32} {N B N1 B1 N2 B2 : Nat} {K : Nat → Int32} (h : XIN N B K N1 B1 N2 B2) : XIN N B (if (0 ≤ k.toInt ∧ k.toInt < 2) then upd K k.toNatClampNeg 1 else K) (if k = 0 then N else N1) (if k = 0 then B else B1) (if k = 1 then N else N2) (if k = 1 then B else B2) := by
  by_cases c : 0 ≤ k.toInt ∧ k.toInt < 2
  · rw [if_pos c]
    rcases k01 c with e | e
    · subst e
      rw [if_pos rfl, if_pos rfl, if_neg (by decide), if_neg (by decide)]
      exact ⟨Or.inr ⟨rfl, rfl⟩, h.2⟩
    · subst e
      rw [if_pos rfl, if_pos rfl, if_neg (by decide), if_neg (by decide)]
      exact ⟨h.1, Or.inr ⟨rfl, rfl⟩⟩
  · rw [if_neg c, if_neg (fun e => c (by rw [e]; decide)), if_neg (fun e => c (by rw [e]; decide)), if_neg (fun e => c (by rw [e]; decide)), if_neg (fun e => c (by rw [e]; decide))]
    exact h
theorem bk_N {k : Int32} {N B N1 B1 N2 B2 : Nat} {K : Nat → Int32} (h : XIN N B K N1 B1 N2 B2) : (if k = 0 ∧ ¬ K 0 = 0 then N1 else if k = 1 ∧ ¬ K 1 = 0 then N2 else N) = N := by
  split
  · rename_i c; exact (h.1.resolve_left c.2).1
  · split
    · rename_i c; exact (h.2.resolve_left c.2).1
    · rfl
theorem bk_B {k : Int32} {N B N1 B1 N2 B2 : Nat} {K : Nat → Int32} (h : XIN N B K N1 B1 N2 B2) : (if k = 0 ∧ ¬ K 0 = 0 then B1 else if k = 1 ∧ ¬ K 1 = 0 then B2 else B) = B := by
  split
  · rename_i c; exact (h.1.resolve_left c.2).2
  · split
    · rename_i c; exact (h.2.resolve_left c.2).2
    · rfl
theorem bk_eq {k : Int32} {N B N1 B1 N2 B2 : Nat} {K : Nat → Int32} (h : XIN N B K N1 B1 N2 B2) : (if (0 ≤ k.toInt ∧ k.toInt < 2) then (if K k.toNatClampNeg = 0 then -2 else if k = 0 then nI N1 else nI N2) else -1) = (if (0 ≤ k.toInt ∧ k.toInt < 2) then (if K k.toNatClampNeg = 0 then (-2 : Int32) else nI N) else -1) := by
  by_cases c : 0 ≤ k.toInt ∧ k.toInt < 2
  · rw [if_pos c, if_pos c]
    rcases k01 c with e | e
    · subst e
      by_cases d : K (0 : Int32).toNatClampNeg = 0
      · rw [if_pos d, if_pos d]
      · rw [if_neg d, if_neg d, if_pos rfl, (h.1.resolve_left d).1]
    · subst e
      by_cases d : K (1 : Int32).toNatClampNeg = 0
      · rw [if_pos d, if_pos d]
      · rw [if_neg d, if_neg d, if_neg (by decide), (h.2.resolve_left d).1]
  · rw [if_neg c, if_neg c]
