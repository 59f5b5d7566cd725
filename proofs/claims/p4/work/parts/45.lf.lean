theorem inj_of {A : Nat → Prop} {ws : va_W} (hD : va_D A ws) {n : Nat} {ax : Nat → Nat} (h : ws.map Prod.fst = (List.range n).map ax) : adInj n ax ∧ ∀ i : Nat, i < n → A (ax i) := by
  have at' : ∀ i : Nat, i < n → ∃ p : Nat × va_E, ws[i]? = some p ∧ p.1 = ax i := by
    intro i hi
    have a : (ws.map Prod.fst)[i]? = some (ax i) := by rw [h, List.getElem?_map, List.getElem?_range hi]; rfl
    rw [List.getElem?_map] at a
    cases e : ws[i]? with
    | none => rw [e] at a; cases a
    | some p => rw [e] at a; exact ⟨p, rfl, Option.some.inj a⟩
  refine ⟨fun i j hi hj e => ?_, fun i hi => ?_⟩
  · obtain ⟨p, p1, p2⟩ := at' i hi
    obtain ⟨q, q1, q2⟩ := at' j hj
    exact hD.1 i j p q p1 q1 (by rw [p2, q2, e])
  · obtain ⟨p, p1, p2⟩ := at' i hi
    rw [← p2]
    exact hD.2 i p p1
theorem rows_eq {n lo : Nat} {u ax : Nat → Nat} (h : ∀ i : Nat, i < n → ax (lo + i) = u i) : (fun ir => if ir < n then some (u ir) else none) = (fun ir => if ir < n then some (ax (lo + ir)) else none) := by
  funext ir
  by_cases c : ir < n
  · rw [if_pos c, if_pos c, h ir c]
  · rw [if_neg c, if_neg c]
theorem OKS0 : OKS (fun _ => 0) := fun q hq => by
  show okS q 0
  have e : (0 : Int32).toInt = 0 := by decide
  exact ⟨fun _ => by omega, fun _ _ => by omega, fun _ => by omega⟩
theorem OKL0 : OKL (fun _ => 0) := fun q hq => by
  have e : (0 : Int32).toInt = 0 := by decide
  show (0 ≤ (0 : Int32).toInt ∧ (0 : Int32).toInt < 10) ∧ ((0 : Int32) = -4 ∨ (0 ≤ (0 : Int32).toInt ∧ (0 : Int32).toInt < 6)) ∧ (0 ≤ (0 : Int32).toInt ∧ (0 : Int32).toInt < 6)
  exact ⟨by omega, Or.inr (by omega), by omega⟩
theorem cut0 : ∀ q : Nat, q < 11 → (upd (upd (upd (upd (upd (upd (upd (upd (upd (upd (upd (fun _ => 0) 0 0) 1 5) 2 12) 3 18) 4 23) 5 28) 6 34) 7 42) 8 46) 9 50) 10 54) q = nI (cutL.getD q 0) := by
  intro q hq
  rcases (show q = 0 ∨ q = 1 ∨ q = 2 ∨ q = 3 ∨ q = 4 ∨ q = 5 ∨ q = 6 ∨ q = 7 ∨ q = 8 ∨ q = 9 ∨ q = 10 by omega) with h | h | h | h | h | h | h | h | h | h | h <;> subst h <;> first | rfl | decide
theorem lm0 : (upd (upd (upd (upd (fun _ => 0) 0 (-4)) 1 (-4)) 2 (-4)) 3 (-4)) = lmap (upd (upd (upd (upd (fun _ => 0) 0 (-1)) 1 (-1)) 2 (-1)) 3 (-1)) := by
  funext q
  match q with
  | 0 => first | rfl | decide | simp [lmap, upd]
  | 1 => first | rfl | decide | simp [lmap, upd]
  | 2 => first | rfl | decide | simp [lmap, upd]
  | 3 => first | rfl | decide | simp [lmap, upd]
  | q + 4 => simp [lmap, upd]
theorem E0_inv : ∀ q : Nat, q < 4 → (upd (upd (upd (upd (fun _ => 0) 0 (-1)) 1 (-1)) 2 (-1)) 3 (-1)) q = -1 ∨ (0 ≤ ((upd (upd (upd (upd (fun _ => 0) 0 (-1)) 1 (-1)) 2 (-1)) 3 (-1)) q).toInt ∧ ((upd (upd (upd (upd (fun _ => 0) 0 (-1)) 1 (-1)) 2 (-1)) 3 (-1)) q).toInt ≤ 2) := by
  intro q hq
  refine Or.inl ?_
  rcases (show q = 0 ∨ q = 1 ∨ q = 2 ∨ q = 3 by omega) with h | h | h | h <;> subst h <;> first | rfl | decide

set_option maxHeartbeats 4000000 in
set_option maxRecDepth 100000 in
theorem LI.fresh {dC : Nat → ClassId} {dI : Nat → Nat → Nat} {G : Nat → ClassId} {ax : Nat → Nat} {H : Heap} {fl : Nat → Int32} (hfl : ∀ q : Nat, q < 54 → fl q = letL.getD q 0) (hP : va_P (dC, dI) vwCl [(ax 0, .inr (10, [.ref (ax 1), .ref (ax 11), .ref (ax 18), .ref (ax 25), .ref (ax 40), .ref (ax 41), .ref (ax 44), .ref (ax 68), .ref (ax 69), .ref (ax 74), .ref (ax 77), .ref (ax 102), .int 0, .int 0])), (ax 1, .inr (5, [.ref (ax 2), .ref (ax 4), .int 0, .int 0, .int 0, .int 0, .int 0, .int 0, .int 0, .int 0, .int 0, .int 0])), (ax 2, .inr (7, [.int (nI 0), .ref (ax 3)])), (ax 3, .inl (G 0, 320, .inl (fun _ => 0))), (ax 4, .inr (9, [.int (nI 0), .int (nI 0), .int (nI 5), .ref (ax 5), .ref (ax 6), .ref (ax 7), .ref (ax 8), .ref (ax 9), .ref (ax 10)])), (ax 5, .inl (G 0, 10, .inl (fun _ => 0))), (ax 6, .inl (G 0, 10, .inl (fun _ => 0))), (ax 7, .inl (G 0, 10, .inl (fun _ => 0))), (ax 8, .inl (G 0, 6, .inl (fun _ => 0))), (ax 9, .inl (G 0, 6, .inl (fun _ => 0))), (ax 10, .inl (G 0, 6, .inl (fun _ => 0))), (ax 11, .inr (9, [.int (nI 0), .int (nI 0), .int (nI 5), .ref (ax 12), .ref (ax 13), .ref (ax 14), .ref (ax 15), .ref (ax 16), .ref (ax 17)])), (ax 12, .inl (G 0, 10, .inl (fun _ => 0))), (ax 13, .inl (G 0, 10, .inl (fun _ => 0))), (ax 14, .inl (G 0, 10, .inl (fun _ => 0))), (ax 15, .inl (G 0, 6, .inl (fun _ => 0))), (ax 16, .inl (G 0, 6, .inl (fun _ => 0))), (ax 17, .inl (G 0, 6, .inl (fun _ => 0))), (ax 18, .inr (9, [.int (nI 0), .int (nI 0), .int (nI 5), .ref (ax 19), .ref (ax 20), .ref (ax 21), .ref (ax 22), .ref (ax 23), .ref (ax 24)])), (ax 19, .inl (G 0, 10, .inl (fun _ => 0))), (ax 20, .inl (G 0, 10, .inl (fun _ => 0))), (ax 21, .inl (G 0, 10, .inl (fun _ => 0))), (ax 22, .inl (G 0, 6, .inl (fun _ => 0))), (ax 23, .inl (G 0, 6, .inl (fun _ => 0))), (ax 24, .inl (G 0, 6, .inl (fun _ => 0))), (ax 25, .inl (G 3, 2, .inr (.inr (.inr (.inr (va_up (va_up (fun _ => none) 0 (some (ax 26))) 1 (some (ax 33)))))))), (ax 26, .inr (9, [.int (nI 0), .int (nI 0), .int (nI 5), .ref (ax 27), .ref (ax 28), .ref (ax 29), .ref (ax 30), .ref (ax 31), .ref (ax 32)])), (ax 27, .inl (G 0, 10, .inl (fun _ => 0))), (ax 28, .inl (G 0, 10, .inl (fun _ => 0))), (ax 29, .inl (G 0, 10, .inl (fun _ => 0))), (ax 30, .inl (G 0, 6, .inl (fun _ => 0))), (ax 31, .inl (G 0, 6, .inl (fun _ => 0))), (ax 32, .inl (G 0, 6, .inl (fun _ => 0))), (ax 33, .inr (9, [.int (nI 0), .int (nI 0), .int (nI 5), .ref (ax 34), .ref (ax 35), .ref (ax 36), .ref (ax 37), .ref (ax 38), .ref (ax 39)])), (ax 34, .inl (G 0, 10, .inl (fun _ => 0))), (ax 35, .inl (G 0, 10, .inl (fun _ => 0))), (ax 36, .inl (G 0, 10, .inl (fun _ => 0))), (ax 37, .inl (G 0, 6, .inl (fun _ => 0))), (ax 38, .inl (G 0, 6, .inl (fun _ => 0))), (ax 39, .inl (G 0, 6, .inl (fun _ => 0))), (ax 40, .inl (G 2, 2, .inl (fun _ => 0))), (ax 41, .inr (4, [.long 1, .ref (ax 42), .ref (ax 43)])), (ax 42, .inl (G 1, 10, .inr (.inl (fun _ => 0)))), (ax 43, .inl (G 1, 10, .inr (.inl (fun _ => 0)))), (ax 44, .inr (0, [.long 1, .ref (ax 45), .ref (ax 46)])), (ax 45, .inl (G 5, 11, .inr (.inr (.inr (.inr (fun ir => if ir < 11 then some (ax (47 + ir)) else none)))))), (ax 46, .inl (G 4, 10, .inr (.inr (.inr (.inr (fun ir => if ir < 10 then some (ax (58 + ir)) else none)))))), (ax 47, .inl (G 1, 70, .inr (.inl (fun _ => 0)))), (ax 48, .inl (G 1, 70, .inr (.inl (fun _ => 0)))), (ax 49, .inl (G 1, 70, .inr (.inl (fun _ => 0)))), (ax 50, .inl (G 1, 70, .inr (.inl (fun _ => 0)))), (ax 51, .inl (G 1, 70, .inr (.inl (fun _ => 0)))), (ax 52, .inl (G 1, 70, .inr (.inl (fun _ => 0)))), (ax 53, .inl (G 1, 70, .inr (.inl (fun _ => 0)))), (ax 54, .inl (G 1, 70, .inr (.inl (fun _ => 0)))), (ax 55, .inl (G 1, 70, .inr (.inl (fun _ => 0)))), (ax 56, .inl (G 1, 70, .inr (.inl (fun _ => 0)))), (ax 57, .inl (G 1, 70, .inr (.inl (fun _ => 0)))), (ax 58, .inl (G 0, 70, .inl (fun _ => 0))), (ax 59, .inl (G 0, 70, .inl (fun _ => 0))), (ax 60, .inl (G 0, 70, .inl (fun _ => 0))), (ax 61, .inl (G 0, 70, .inl (fun _ => 0))), (ax 62, .inl (G 0, 70, .inl (fun _ => 0))), (ax 63, .inl (G 0, 70, .inl (fun _ => 0))), (ax 64, .inl (G 0, 70, .inl (fun _ => 0))), (ax 65, .inl (G 0, 70, .inl (fun _ => 0))), (ax 66, .inl (G 0, 70, .inl (fun _ => 0))), (ax 67, .inl (G 0, 70, .inl (fun _ => 0))), (ax 68, .inr (1, [.int 0, .int 0, .int 0])), (ax 69, .inr (2, [.int (nI 0), .ref (ax 70), .ref (ax 71), .ref (ax 72), .ref (ax 73)])), (ax 70, .inl (G 0, 8, .inl (fun _ => 0))), (ax 71, .inl (G 0, 8, .inl (fun _ => 0))), (ax 72, .inl (G 0, 8, .inl (fun _ => 0))), (ax 73, .inl (G 0, 8, .inl (fun _ => 0))), (ax 74, .inr (3, [.int (nI 0), .ref (ax 75), .ref (ax 76)])), (ax 75, .inl (G 0, 6, .inl (fun _ => 0))), (ax 76, .inl (G 0, 6, .inl (fun _ => 0))), (ax 77, .inr (8, [.int 0, .ref (ax 78), .ref (ax 79)])), (ax 78, .inl (G 4, 11, .inr (.inr (.inr (.inr (fun ir => if ir < 11 then some (ax (80 + ir)) else none)))))), (ax 79, .inl (G 4, 11, .inr (.inr (.inr (.inr (fun ir => if ir < 11 then some (ax (91 + ir)) else none)))))), (ax 80, .inl (G 0, 10, .inl (fun _ => 0))), (ax 81, .inl (G 0, 10, .inl (fun _ => 0))), (ax 82, .inl (G 0, 10, .inl (fun _ => 0))), (ax 83, .inl (G 0, 10, .inl (fun _ => 0))), (ax 84, .inl (G 0, 10, .inl (fun _ => 0))), (ax 85, .inl (G 0, 10, .inl (fun _ => 0))), (ax 86, .inl (G 0, 10, .inl (fun _ => 0))), (ax 87, .inl (G 0, 10, .inl (fun _ => 0))), (ax 88, .inl (G 0, 10, .inl (fun _ => 0))), (ax 89, .inl (G 0, 10, .inl (fun _ => 0))), (ax 90, .inl (G 0, 10, .inl (fun _ => 0))), (ax 91, .inl (G 0, 10, .inl (fun _ => 0))), (ax 92, .inl (G 0, 10, .inl (fun _ => 0))), (ax 93, .inl (G 0, 10, .inl (fun _ => 0))), (ax 94, .inl (G 0, 10, .inl (fun _ => 0))), (ax 95, .inl (G 0, 10, .inl (fun _ => 0))), (ax 96, .inl (G 0, 10, .inl (fun _ => 0))), (ax 97, .inl (G 0, 10, .inl (fun _ => 0))), (ax 98, .inl (G 0, 10, .inl (fun _ => 0))), (ax 99, .inl (G 0, 10, .inl (fun _ => 0))), (ax 100, .inl (G 0, 10, .inl (fun _ => 0))), (ax 101, .inl (G 0, 10, .inl (fun _ => 0))), (ax 102, .inr (6, [.ref (ax 103), .ref (ax 104), .ref (ax 105), .int 0, .int 0, .ref (ax 106), .ref (ax 107)])), (ax 103, .inl (G 0, 4, .inl (upd (upd (upd (upd (fun _ => 0) 0 (-1)) 1 (-1)) 2 (-1)) 3 (-1)))), (ax 104, .inl (G 0, 4, .inl (fun _ => 0))), (ax 105, .inl (G 4, 4, .inr (.inr (.inr (.inr (fun ir => if ir < 4 then some (ax (108 + ir)) else none)))))), (ax 106, .inl (G 0, 20, .inl (fun _ => 0))), (ax 107, .inl (G 0, 20, .inl (fun _ => 0))), (ax 108, .inl (G 0, 40, .inl (fun _ => 0))), (ax 109, .inl (G 0, 40, .inl (fun _ => 0))), (ax 110, .inl (G 0, 40, .inl (fun _ => 0))), (ax 111, .inl (G 0, 40, .inl (fun _ => 0))), (ax 112, .inr (11, [.ref (ax 113), .int (nI 0), .int (nI 0), .ref (ax 114), .int 0, .int 0, .int 0, .int 0, .int 0, .int 0, .ref (ax 115), .int (nI 0), .int 0, .int 0, .int 0, .int 0, .int (nI 0), .int 0, .int 0, .ref (ax 116), .ref (ax 117), .ref (ax 118), .ref (ax 119), .ref (ax 120), .ref (ax 121), .int (nI 0), .ref (ax 122), .int (nI 0), .ref (ax 123), .ref (ax 124), .ref (ax 125), .ref (ax 126), .ref (ax 127), .ref (ax 128), .int 0])), (ax 113, .inl (G 0, 196, .inl (fun _ => 0))), (ax 114, .inl (G 0, 49, .inl (fun _ => 0))), (ax 115, .inl (G 0, 320, .inl (fun _ => 0))), (ax 116, .inl (G 0, 11, .inl (upd (upd (upd (upd (upd (upd (upd (upd (upd (upd (upd (fun _ => 0) 0 0) 1 5) 2 12) 3 18) 4 23) 5 28) 6 34) 7 42) 8 46) 9 50) 10 54))), (ax 117, .inl (G 0, 54, .inl fl)), (ax 118, .inl (G 1, 10, .inr (.inl (fun _ => 0)))), (ax 119, .inl (G 1, 10, .inr (.inl (fun _ => 0)))), (ax 120, .inl (G 1, 770, .inr (.inl (fun _ => 0)))), (ax 121, .inl (G 0, 32, .inl (fun _ => 0))), (ax 122, .inl (G 0, 12, .inl (fun _ => 0))), (ax 123, .inl (G 0, 110, .inl (fun _ => 0))), (ax 124, .inl (G 0, 110, .inl (fun _ => 0))), (ax 125, .inl (G 2, 2, .inl (fun _ => 0))), (ax 126, .inl (G 0, 4, .inl (lmap (upd (upd (upd (upd (fun _ => 0) 0 (-1)) 1 (-1)) 2 (-1)) 3 (-1))))), (ax 127, .inl (G 0, 4, .inl (fun _ => 0))), (ax 128, .inl (G 0, 160, .inl (fun _ => 0)))] H) : LI dC dI G ax H := by
  have f0 : X10Pr dC dI G ax 0 H := ⟨0, hP 0 _ rfl⟩
  have f1 : X10P0 dC dI G ax H := ⟨0, 0, 0, 0, 0, 0, 0, 0, 0, 0, hP 1 _ rfl⟩
  have f2 : X10P0_0 dC dI G ax 0 (fun _ => 0) H := ⟨(by decide), hP 2 _ rfl, hP 3 _ rfl⟩
  have f3 : X10P0_1 dC dI G ax H := ⟨0, 0, 5, (fun _ => 0), (fun _ => 0), (fun _ => 0), (fun _ => 0), (fun _ => 0), (fun _ => 0), (by decide), (by decide), (by decide), hP 4 _ rfl, hP 5 _ rfl, hP 6 _ rfl, hP 7 _ rfl, hP 8 _ rfl, hP 9 _ rfl, hP 10 _ rfl⟩
  have f4 : X10P1 dC dI G ax 0 0 H := ⟨5, (fun _ => 0), (fun _ => 0), (fun _ => 0), (fun _ => 0), (fun _ => 0), (fun _ => 0), (by decide), (by decide), (by decide), hP 11 _ rfl, hP 12 _ rfl, hP 13 _ rfl, hP 14 _ rfl, hP 15 _ rfl, hP 16 _ rfl, hP 17 _ rfl⟩
  have f5 : X10P2 dC dI G ax H := ⟨0, 0, 5, (fun _ => 0), (fun _ => 0), (fun _ => 0), (fun _ => 0), (fun _ => 0), (fun _ => 0), (by decide), (by decide), (by decide), hP 18 _ rfl, hP 19 _ rfl, hP 20 _ rfl, hP 21 _ rfl, hP 22 _ rfl, hP 23 _ rfl, hP 24 _ rfl⟩
  have f6 : X10P3 dC dI G ax H := hP 25 _ rfl
  have f7 : X10P3_0 dC dI G ax 0 0 H := ⟨5, (fun _ => 0), (fun _ => 0), (fun _ => 0), (fun _ => 0), (fun _ => 0), (fun _ => 0), (by decide), (by decide), (by decide), hP 26 _ rfl, hP 27 _ rfl, hP 28 _ rfl, hP 29 _ rfl, hP 30 _ rfl, hP 31 _ rfl, hP 32 _ rfl⟩
  have f8 : X10P3_1 dC dI G ax 0 0 H := ⟨5, (fun _ => 0), (fun _ => 0), (fun _ => 0), (fun _ => 0), (fun _ => 0), (fun _ => 0), (by decide), (by decide), (by decide), hP 33 _ rfl, hP 34 _ rfl, hP 35 _ rfl, hP 36 _ rfl, hP 37 _ rfl, hP 38 _ rfl, hP 39 _ rfl⟩
  have f9 : X10P4 dC dI G ax (fun _ => 0) H := hP 40 _ rfl
  have f10 : X10P5 dC dI G ax H := ⟨1, (fun _ => 0), (fun _ => 0), hP 41 _ rfl, hP 42 _ rfl, hP 43 _ rfl⟩
  have f11 : X10P6 dC dI G ax H := ⟨1, (fun _ _ => 0), (fun _ _ => 0), hP 44 _ rfl, hP 45 _ rfl, hP 46 _ rfl, hP.sub [47, 48, 49, 50, 51, 52, 53, 54, 55, 56, 57] rfl, hP.sub [58, 59, 60, 61, 62, 63, 64, 65, 66, 67] rfl⟩
  have f12 : X10P7 dC dI G ax H := ⟨0, 0, 0, hP 68 _ rfl⟩
  have f13 : X10P8 dC dI G ax 0 H := ⟨(fun _ => 0), (fun _ => 0), (fun _ => 0), (fun _ => 0), (by decide), hP 69 _ rfl, hP 70 _ rfl, hP 71 _ rfl, hP 72 _ rfl, hP 73 _ rfl⟩
  have f14 : X10P9 dC dI G ax 0 H := ⟨(fun _ => 0), (fun _ => 0), (by decide), hP 74 _ rfl, hP 75 _ rfl, hP 76 _ rfl⟩
  have f15 : X10P10 dC dI G ax H := ⟨0, (fun _ _ => 0), (fun _ _ => 0), hP 77 _ rfl, hP 78 _ rfl, hP 79 _ rfl, hP.sub [80, 81, 82, 83, 84, 85, 86, 87, 88, 89, 90] rfl, hP.sub [91, 92, 93, 94, 95, 96, 97, 98, 99, 100, 101] rfl⟩
  have f16 : X10P11 dC dI G ax (upd (upd (upd (upd (fun _ => 0) 0 (-1)) 1 (-1)) 2 (-1)) 3 (-1)) (fun _ => 0) H := ⟨0, 0, (fun _ => 0), (fun _ => 0), (fun _ _ => 0), E0_inv, (fun q _ => by show 0 ≤ (0 : Int32).toInt ∧ (0 : Int32).toInt ≤ 40; decide), hP 102 _ rfl, hP 103 _ rfl, hP 104 _ rfl, hP 105 _ rfl, hP 106 _ rfl, hP 107 _ rfl, hP.sub [108, 109, 110, 111] rfl⟩
  have f17 : X11Pr dC dI G ax 0 0 0 0 0 0 H := ⟨0, 0, 0, 0, 0, 0, 0, 0, 0, 0, 0, 0, 0, (by decide), (by decide), (by decide), (by decide), (by decide), (by decide), (by decide), hP 112 _ rfl⟩
  have f18 : X11P0 dC dI G ax H := ⟨(fun _ => 0), OKS0, hP 113 _ rfl⟩
  have f19 : X11P3 dC dI G ax H := ⟨(fun _ => 0), hP 114 _ rfl⟩
  have f20 : X11P10 dC dI G ax (fun _ => 0) H := ⟨(fun q _ => by show 0 ≤ (0 : Int32).toInt; decide), hP 115 _ rfl⟩
  have f21 : X11P19 dC dI G ax H := ⟨(upd (upd (upd (upd (upd (upd (upd (upd (upd (upd (upd (fun _ => 0) 0 0) 1 5) 2 12) 3 18) 4 23) 5 28) 6 34) 7 42) 8 46) 9 50) 10 54), cut0, hP 116 _ rfl⟩
  have f22 : X11P20 dC dI G ax H := ⟨fl, hfl, hP 117 _ rfl⟩
  have f23 : X11P21 dC dI G ax H := ⟨(fun _ => 0), hP 118 _ rfl⟩
  have f24 : X11P22 dC dI G ax H := ⟨(fun _ => 0), hP 119 _ rfl⟩
  have f25 : X11P23 dC dI G ax H := ⟨(fun _ => 0), hP 120 _ rfl⟩
  have f26 : X11P24 dC dI G ax H := ⟨(fun _ => 0), OKL0, hP 121 _ rfl⟩
  have f27 : X11P26 dC dI G ax H := ⟨(fun _ => 0), hP 122 _ rfl⟩
  have f28 : X11P28 dC dI G ax H := ⟨(fun _ => 0), hP 123 _ rfl⟩
  have f29 : X11P29 dC dI G ax H := ⟨(fun _ => 0), hP 124 _ rfl⟩
  have f30 : X11P30 dC dI G ax (fun _ => 0) H := hP 125 _ rfl
  have f31 : X11P31 dC dI G ax (upd (upd (upd (upd (fun _ => 0) 0 (-1)) 1 (-1)) 2 (-1)) 3 (-1)) H := ⟨E0_inv, hP 126 _ rfl⟩
  have f32 : X11P32 dC dI G ax (fun _ => 0) H := ⟨(fun q _ => by show 0 ≤ (0 : Int32).toInt ∧ (0 : Int32).toInt ≤ 40; decide), hP 127 _ rfl⟩
  have f33 : X11P33 dC dI G ax H := ⟨(fun _ => 0), hP 128 _ rfl⟩
  exact ⟨0, (fun _ => 0), 0, 0, 0, 0, 0, 0, 0, (fun _ => 0), 0, 0, (upd (upd (upd (upd (fun _ => 0) 0 (-1)) 1 (-1)) 2 (-1)) 3 (-1)), (fun _ => 0), ⟨f0, f1, f2, f3, f4, f5, f6, f7, f8, f9, f10, f11, f12, f13, f14, f15, f16, ⟨Or.inl rfl, Or.inl rfl⟩⟩, ⟨f17, f18, f19, f20, f21, f22, f23, f24, f25, f26, f27, f28, f29, f30, f31, f32, f33⟩⟩
