def tmS (i : Nat) : Term := Term.string "AsleepPass$Reader" (strL.getD i (0, "")).1
theorem sL0 {A0 : Array Value} {s : State} (hs : ∀ q ∈ flatC (Jvm.Cond.and given_1 narrow_1), q.before A0 s = true) : (Cond.exactly (tmS 0) "java/lang/String").before A0 s = true ∧ (Cond.eq (.field (tmS 0) "java/lang/String" "coder" "B") (.int 0)).before A0 s = true ∧ (Cond.arrayOf (.field (tmS 0) "java/lang/String" "value" "[B") .byte).before A0 s = true ∧ (Cond.eq (.length (.field (tmS 0) "java/lang/String" "value" "[B")) (.int (Int32.ofNat (strLen.getD 0 0)))).before A0 s = true ∧ ∀ j : Nat, j < strLen.getD 0 0 → (Cond.eq (.elem (.field (tmS 0) "java/lang/String" "value" "[B") (.int (Int32.ofNat j))) (.int ((strByt.getD 0 []).getD j 0))).before A0 s = true := by
  refine ⟨hs _ (by decide +kernel), hs _ (by decide +kernel), hs _ (by decide +kernel), hs _ (by decide +kernel), fun j hj => ?_⟩
  have hj : j < 5 := hj
  rcases (show j = 0 ∨ j = 1 ∨ j = 2 ∨ j = 3 ∨ j = 4 by omega) with h | h | h | h | h
  · subst h; exact hs _ (by decide +kernel)
  · subst h; exact hs _ (by decide +kernel)
  · subst h; exact hs _ (by decide +kernel)
  · subst h; exact hs _ (by decide +kernel)
  · subst h; exact hs _ (by decide +kernel)
theorem sL1 {A0 : Array Value} {s : State} (hs : ∀ q ∈ flatC (Jvm.Cond.and given_1 narrow_1), q.before A0 s = true) : (Cond.exactly (tmS 1) "java/lang/String").before A0 s = true ∧ (Cond.eq (.field (tmS 1) "java/lang/String" "coder" "B") (.int 0)).before A0 s = true ∧ (Cond.arrayOf (.field (tmS 1) "java/lang/String" "value" "[B") .byte).before A0 s = true ∧ (Cond.eq (.length (.field (tmS 1) "java/lang/String" "value" "[B")) (.int (Int32.ofNat (strLen.getD 1 0)))).before A0 s = true ∧ ∀ j : Nat, j < strLen.getD 1 0 → (Cond.eq (.elem (.field (tmS 1) "java/lang/String" "value" "[B") (.int (Int32.ofNat j))) (.int ((strByt.getD 1 []).getD j 0))).before A0 s = true := by
  refine ⟨hs _ (by decide +kernel), hs _ (by decide +kernel), hs _ (by decide +kernel), hs _ (by decide +kernel), fun j hj => ?_⟩
  have hj : j < 7 := hj
  rcases (show j = 0 ∨ j = 1 ∨ j = 2 ∨ j = 3 ∨ j = 4 ∨ j = 5 ∨ j = 6 by omega) with h | h | h | h | h | h | h
  · subst h; exact hs _ (by decide +kernel)
  · subst h; exact hs _ (by decide +kernel)
  · subst h; exact hs _ (by decide +kernel)
  · subst h; exact hs _ (by decide +kernel)
  · subst h; exact hs _ (by decide +kernel)
  · subst h; exact hs _ (by decide +kernel)
  · subst h; exact hs _ (by decide +kernel)
theorem sL2 {A0 : Array Value} {s : State} (hs : ∀ q ∈ flatC (Jvm.Cond.and given_1 narrow_1), q.before A0 s = true) : (Cond.exactly (tmS 2) "java/lang/String").before A0 s = true ∧ (Cond.eq (.field (tmS 2) "java/lang/String" "coder" "B") (.int 0)).before A0 s = true ∧ (Cond.arrayOf (.field (tmS 2) "java/lang/String" "value" "[B") .byte).before A0 s = true ∧ (Cond.eq (.length (.field (tmS 2) "java/lang/String" "value" "[B")) (.int (Int32.ofNat (strLen.getD 2 0)))).before A0 s = true ∧ ∀ j : Nat, j < strLen.getD 2 0 → (Cond.eq (.elem (.field (tmS 2) "java/lang/String" "value" "[B") (.int (Int32.ofNat j))) (.int ((strByt.getD 2 []).getD j 0))).before A0 s = true := by
  refine ⟨hs _ (by decide +kernel), hs _ (by decide +kernel), hs _ (by decide +kernel), hs _ (by decide +kernel), fun j hj => ?_⟩
  have hj : j < 6 := hj
  rcases (show j = 0 ∨ j = 1 ∨ j = 2 ∨ j = 3 ∨ j = 4 ∨ j = 5 by omega) with h | h | h | h | h | h
  · subst h; exact hs _ (by decide +kernel)
  · subst h; exact hs _ (by decide +kernel)
  · subst h; exact hs _ (by decide +kernel)
  · subst h; exact hs _ (by decide +kernel)
  · subst h; exact hs _ (by decide +kernel)
  · subst h; exact hs _ (by decide +kernel)
theorem sL3 {A0 : Array Value} {s : State} (hs : ∀ q ∈ flatC (Jvm.Cond.and given_1 narrow_1), q.before A0 s = true) : (Cond.exactly (tmS 3) "java/lang/String").before A0 s = true ∧ (Cond.eq (.field (tmS 3) "java/lang/String" "coder" "B") (.int 0)).before A0 s = true ∧ (Cond.arrayOf (.field (tmS 3) "java/lang/String" "value" "[B") .byte).before A0 s = true ∧ (Cond.eq (.length (.field (tmS 3) "java/lang/String" "value" "[B")) (.int (Int32.ofNat (strLen.getD 3 0)))).before A0 s = true ∧ ∀ j : Nat, j < strLen.getD 3 0 → (Cond.eq (.elem (.field (tmS 3) "java/lang/String" "value" "[B") (.int (Int32.ofNat j))) (.int ((strByt.getD 3 []).getD j 0))).before A0 s = true := by
  refine ⟨hs _ (by decide +kernel), hs _ (by decide +kernel), hs _ (by decide +kernel), hs _ (by decide +kernel), fun j hj => ?_⟩
  have hj : j < 5 := hj
  rcases (show j = 0 ∨ j = 1 ∨ j = 2 ∨ j = 3 ∨ j = 4 by omega) with h | h | h | h | h
  · subst h; exact hs _ (by decide +kernel)
  · subst h; exact hs _ (by decide +kernel)
  · subst h; exact hs _ (by decide +kernel)
  · subst h; exact hs _ (by decide +kernel)
  · subst h; exact hs _ (by decide +kernel)
theorem sL4 {A0 : Array Value} {s : State} (hs : ∀ q ∈ flatC (Jvm.Cond.and given_1 narrow_1), q.before A0 s = true) : (Cond.exactly (tmS 4) "java/lang/String").before A0 s = true ∧ (Cond.eq (.field (tmS 4) "java/lang/String" "coder" "B") (.int 0)).before A0 s = true ∧ (Cond.arrayOf (.field (tmS 4) "java/lang/String" "value" "[B") .byte).before A0 s = true ∧ (Cond.eq (.length (.field (tmS 4) "java/lang/String" "value" "[B")) (.int (Int32.ofNat (strLen.getD 4 0)))).before A0 s = true ∧ ∀ j : Nat, j < strLen.getD 4 0 → (Cond.eq (.elem (.field (tmS 4) "java/lang/String" "value" "[B") (.int (Int32.ofNat j))) (.int ((strByt.getD 4 []).getD j 0))).before A0 s = true := by
  refine ⟨hs _ (by decide +kernel), hs _ (by decide +kernel), hs _ (by decide +kernel), hs _ (by decide +kernel), fun j hj => ?_⟩
  have hj : j < 6 := hj
  rcases (show j = 0 ∨ j = 1 ∨ j = 2 ∨ j = 3 ∨ j = 4 ∨ j = 5 by omega) with h | h | h | h | h | h
  · subst h; exact hs _ (by decide +kernel)
  · subst h; exact hs _ (by decide +kernel)
  · subst h; exact hs _ (by decide +kernel)
  · subst h; exact hs _ (by decide +kernel)
  · subst h; exact hs _ (by decide +kernel)
  · subst h; exact hs _ (by decide +kernel)
theorem sL5 {A0 : Array Value} {s : State} (hs : ∀ q ∈ flatC (Jvm.Cond.and given_1 narrow_1), q.before A0 s = true) : (Cond.exactly (tmS 5) "java/lang/String").before A0 s = true ∧ (Cond.eq (.field (tmS 5) "java/lang/String" "coder" "B") (.int 0)).before A0 s = true ∧ (Cond.arrayOf (.field (tmS 5) "java/lang/String" "value" "[B") .byte).before A0 s = true ∧ (Cond.eq (.length (.field (tmS 5) "java/lang/String" "value" "[B")) (.int (Int32.ofNat (strLen.getD 5 0)))).before A0 s = true ∧ ∀ j : Nat, j < strLen.getD 5 0 → (Cond.eq (.elem (.field (tmS 5) "java/lang/String" "value" "[B") (.int (Int32.ofNat j))) (.int ((strByt.getD 5 []).getD j 0))).before A0 s = true := by
  refine ⟨hs _ (by decide +kernel), hs _ (by decide +kernel), hs _ (by decide +kernel), hs _ (by decide +kernel), fun j hj => ?_⟩
  have hj : j < 8 := hj
  rcases (show j = 0 ∨ j = 1 ∨ j = 2 ∨ j = 3 ∨ j = 4 ∨ j = 5 ∨ j = 6 ∨ j = 7 by omega) with h | h | h | h | h | h | h | h
  · subst h; exact hs _ (by decide +kernel)
  · subst h; exact hs _ (by decide +kernel)
  · subst h; exact hs _ (by decide +kernel)
  · subst h; exact hs _ (by decide +kernel)
  · subst h; exact hs _ (by decide +kernel)
  · subst h; exact hs _ (by decide +kernel)
  · subst h; exact hs _ (by decide +kernel)
  · subst h; exact hs _ (by decide +kernel)
theorem sL6 {A0 : Array Value} {s : State} (hs : ∀ q ∈ flatC (Jvm.Cond.and given_1 narrow_1), q.before A0 s = true) : (Cond.exactly (tmS 6) "java/lang/String").before A0 s = true ∧ (Cond.eq (.field (tmS 6) "java/lang/String" "coder" "B") (.int 0)).before A0 s = true ∧ (Cond.arrayOf (.field (tmS 6) "java/lang/String" "value" "[B") .byte).before A0 s = true ∧ (Cond.eq (.length (.field (tmS 6) "java/lang/String" "value" "[B")) (.int (Int32.ofNat (strLen.getD 6 0)))).before A0 s = true ∧ ∀ j : Nat, j < strLen.getD 6 0 → (Cond.eq (.elem (.field (tmS 6) "java/lang/String" "value" "[B") (.int (Int32.ofNat j))) (.int ((strByt.getD 6 []).getD j 0))).before A0 s = true := by
  refine ⟨hs _ (by decide +kernel), hs _ (by decide +kernel), hs _ (by decide +kernel), hs _ (by decide +kernel), fun j hj => ?_⟩
  have hj : j < 4 := hj
  rcases (show j = 0 ∨ j = 1 ∨ j = 2 ∨ j = 3 by omega) with h | h | h | h
  · subst h; exact hs _ (by decide +kernel)
  · subst h; exact hs _ (by decide +kernel)
  · subst h; exact hs _ (by decide +kernel)
  · subst h; exact hs _ (by decide +kernel)
theorem sL7 {A0 : Array Value} {s : State} (hs : ∀ q ∈ flatC (Jvm.Cond.and given_1 narrow_1), q.before A0 s = true) : (Cond.exactly (tmS 7) "java/lang/String").before A0 s = true ∧ (Cond.eq (.field (tmS 7) "java/lang/String" "coder" "B") (.int 0)).before A0 s = true ∧ (Cond.arrayOf (.field (tmS 7) "java/lang/String" "value" "[B") .byte).before A0 s = true ∧ (Cond.eq (.length (.field (tmS 7) "java/lang/String" "value" "[B")) (.int (Int32.ofNat (strLen.getD 7 0)))).before A0 s = true ∧ ∀ j : Nat, j < strLen.getD 7 0 → (Cond.eq (.elem (.field (tmS 7) "java/lang/String" "value" "[B") (.int (Int32.ofNat j))) (.int ((strByt.getD 7 []).getD j 0))).before A0 s = true := by
  refine ⟨hs _ (by decide +kernel), hs _ (by decide +kernel), hs _ (by decide +kernel), hs _ (by decide +kernel), fun j hj => ?_⟩
  have hj : j < 4 := hj
  rcases (show j = 0 ∨ j = 1 ∨ j = 2 ∨ j = 3 by omega) with h | h | h | h
  · subst h; exact hs _ (by decide +kernel)
  · subst h; exact hs _ (by decide +kernel)
  · subst h; exact hs _ (by decide +kernel)
  · subst h; exact hs _ (by decide +kernel)
theorem sL8 {A0 : Array Value} {s : State} (hs : ∀ q ∈ flatC (Jvm.Cond.and given_1 narrow_1), q.before A0 s = true) : (Cond.exactly (tmS 8) "java/lang/String").before A0 s = true ∧ (Cond.eq (.field (tmS 8) "java/lang/String" "coder" "B") (.int 0)).before A0 s = true ∧ (Cond.arrayOf (.field (tmS 8) "java/lang/String" "value" "[B") .byte).before A0 s = true ∧ (Cond.eq (.length (.field (tmS 8) "java/lang/String" "value" "[B")) (.int (Int32.ofNat (strLen.getD 8 0)))).before A0 s = true ∧ ∀ j : Nat, j < strLen.getD 8 0 → (Cond.eq (.elem (.field (tmS 8) "java/lang/String" "value" "[B") (.int (Int32.ofNat j))) (.int ((strByt.getD 8 []).getD j 0))).before A0 s = true := by
  refine ⟨hs _ (by decide +kernel), hs _ (by decide +kernel), hs _ (by decide +kernel), hs _ (by decide +kernel), fun j hj => ?_⟩
  have hj : j < 4 := hj
  rcases (show j = 0 ∨ j = 1 ∨ j = 2 ∨ j = 3 by omega) with h | h | h | h
  · subst h; exact hs _ (by decide +kernel)
  · subst h; exact hs _ (by decide +kernel)
  · subst h; exact hs _ (by decide +kernel)
  · subst h; exact hs _ (by decide +kernel)
theorem sL9 {A0 : Array Value} {s : State} (hs : ∀ q ∈ flatC (Jvm.Cond.and given_1 narrow_1), q.before A0 s = true) : (Cond.exactly (tmS 9) "java/lang/String").before A0 s = true ∧ (Cond.eq (.field (tmS 9) "java/lang/String" "coder" "B") (.int 0)).before A0 s = true ∧ (Cond.arrayOf (.field (tmS 9) "java/lang/String" "value" "[B") .byte).before A0 s = true ∧ (Cond.eq (.length (.field (tmS 9) "java/lang/String" "value" "[B")) (.int (Int32.ofNat (strLen.getD 9 0)))).before A0 s = true ∧ ∀ j : Nat, j < strLen.getD 9 0 → (Cond.eq (.elem (.field (tmS 9) "java/lang/String" "value" "[B") (.int (Int32.ofNat j))) (.int ((strByt.getD 9 []).getD j 0))).before A0 s = true := by
  refine ⟨hs _ (by decide +kernel), hs _ (by decide +kernel), hs _ (by decide +kernel), hs _ (by decide +kernel), fun j hj => ?_⟩
  have hj : j < 5 := hj
  rcases (show j = 0 ∨ j = 1 ∨ j = 2 ∨ j = 3 ∨ j = 4 by omega) with h | h | h | h | h
  · subst h; exact hs _ (by decide +kernel)
  · subst h; exact hs _ (by decide +kernel)
  · subst h; exact hs _ (by decide +kernel)
  · subst h; exact hs _ (by decide +kernel)
  · subst h; exact hs _ (by decide +kernel)
theorem sN0 {A0 : Array Value} {s : State} (hs : ∀ q ∈ flatC (Jvm.Cond.and given_1 narrow_1), q.before A0 s = true) : ∀ j : Nat, 0 < j → j < 10 → (Cond.not (Cond.eq (tmS 0) (tmS j))).before A0 s = true := by
  intro j h1 h2
  rcases (show j = 1 ∨ j = 2 ∨ j = 3 ∨ j = 4 ∨ j = 5 ∨ j = 6 ∨ j = 7 ∨ j = 8 ∨ j = 9 by omega) with h | h | h | h | h | h | h | h | h
  · subst h; exact hs _ (by decide +kernel)
  · subst h; exact hs _ (by decide +kernel)
  · subst h; exact hs _ (by decide +kernel)
  · subst h; exact hs _ (by decide +kernel)
  · subst h; exact hs _ (by decide +kernel)
  · subst h; exact hs _ (by decide +kernel)
  · subst h; exact hs _ (by decide +kernel)
  · subst h; exact hs _ (by decide +kernel)
  · subst h; exact hs _ (by decide +kernel)
theorem sN1 {A0 : Array Value} {s : State} (hs : ∀ q ∈ flatC (Jvm.Cond.and given_1 narrow_1), q.before A0 s = true) : ∀ j : Nat, 1 < j → j < 10 → (Cond.not (Cond.eq (tmS 1) (tmS j))).before A0 s = true := by
  intro j h1 h2
  rcases (show j = 2 ∨ j = 3 ∨ j = 4 ∨ j = 5 ∨ j = 6 ∨ j = 7 ∨ j = 8 ∨ j = 9 by omega) with h | h | h | h | h | h | h | h
  · subst h; exact hs _ (by decide +kernel)
  · subst h; exact hs _ (by decide +kernel)
  · subst h; exact hs _ (by decide +kernel)
  · subst h; exact hs _ (by decide +kernel)
  · subst h; exact hs _ (by decide +kernel)
  · subst h; exact hs _ (by decide +kernel)
  · subst h; exact hs _ (by decide +kernel)
  · subst h; exact hs _ (by decide +kernel)
theorem sN2 {A0 : Array Value} {s : State} (hs : ∀ q ∈ flatC (Jvm.Cond.and given_1 narrow_1), q.before A0 s = true) : ∀ j : Nat, 2 < j → j < 10 → (Cond.not (Cond.eq (tmS 2) (tmS j))).before A0 s = true := by
  intro j h1 h2
  rcases (show j = 3 ∨ j = 4 ∨ j = 5 ∨ j = 6 ∨ j = 7 ∨ j = 8 ∨ j = 9 by omega) with h | h | h | h | h | h | h
  · subst h; exact hs _ (by decide +kernel)
  · subst h; exact hs _ (by decide +kernel)
  · subst h; exact hs _ (by decide +kernel)
  · subst h; exact hs _ (by decide +kernel)
  · subst h; exact hs _ (by decide +kernel)
  · subst h; exact hs _ (by decide +kernel)
  · subst h; exact hs _ (by decide +kernel)
theorem sN3 {A0 : Array Value} {s : State} (hs : ∀ q ∈ flatC (Jvm.Cond.and given_1 narrow_1), q.before A0 s = true) : ∀ j : Nat, 3 < j → j < 10 → (Cond.not (Cond.eq (tmS 3) (tmS j))).before A0 s = true := by
  intro j h1 h2
  rcases (show j = 4 ∨ j = 5 ∨ j = 6 ∨ j = 7 ∨ j = 8 ∨ j = 9 by omega) with h | h | h | h | h | h
  · subst h; exact hs _ (by decide +kernel)
  · subst h; exact hs _ (by decide +kernel)
  · subst h; exact hs _ (by decide +kernel)
  · subst h; exact hs _ (by decide +kernel)
  · subst h; exact hs _ (by decide +kernel)
  · subst h; exact hs _ (by decide +kernel)
theorem sN4 {A0 : Array Value} {s : State} (hs : ∀ q ∈ flatC (Jvm.Cond.and given_1 narrow_1), q.before A0 s = true) : ∀ j : Nat, 4 < j → j < 10 → (Cond.not (Cond.eq (tmS 4) (tmS j))).before A0 s = true := by
  intro j h1 h2
  rcases (show j = 5 ∨ j = 6 ∨ j = 7 ∨ j = 8 ∨ j = 9 by omega) with h | h | h | h | h
  · subst h; exact hs _ (by decide +kernel)
  · subst h; exact hs _ (by decide +kernel)
  · subst h; exact hs _ (by decide +kernel)
  · subst h; exact hs _ (by decide +kernel)
  · subst h; exact hs _ (by decide +kernel)
theorem sN5 {A0 : Array Value} {s : State} (hs : ∀ q ∈ flatC (Jvm.Cond.and given_1 narrow_1), q.before A0 s = true) : ∀ j : Nat, 5 < j → j < 10 → (Cond.not (Cond.eq (tmS 5) (tmS j))).before A0 s = true := by
  intro j h1 h2
  rcases (show j = 6 ∨ j = 7 ∨ j = 8 ∨ j = 9 by omega) with h | h | h | h
  · subst h; exact hs _ (by decide +kernel)
  · subst h; exact hs _ (by decide +kernel)
  · subst h; exact hs _ (by decide +kernel)
  · subst h; exact hs _ (by decide +kernel)
theorem sN6 {A0 : Array Value} {s : State} (hs : ∀ q ∈ flatC (Jvm.Cond.and given_1 narrow_1), q.before A0 s = true) : ∀ j : Nat, 6 < j → j < 10 → (Cond.not (Cond.eq (tmS 6) (tmS j))).before A0 s = true := by
  intro j h1 h2
  rcases (show j = 7 ∨ j = 8 ∨ j = 9 by omega) with h | h | h
  · subst h; exact hs _ (by decide +kernel)
  · subst h; exact hs _ (by decide +kernel)
  · subst h; exact hs _ (by decide +kernel)
theorem sN7 {A0 : Array Value} {s : State} (hs : ∀ q ∈ flatC (Jvm.Cond.and given_1 narrow_1), q.before A0 s = true) : ∀ j : Nat, 7 < j → j < 10 → (Cond.not (Cond.eq (tmS 7) (tmS j))).before A0 s = true := by
  intro j h1 h2
  rcases (show j = 8 ∨ j = 9 by omega) with h | h
  · subst h; exact hs _ (by decide +kernel)
  · subst h; exact hs _ (by decide +kernel)
theorem sN8 {A0 : Array Value} {s : State} (hs : ∀ q ∈ flatC (Jvm.Cond.and given_1 narrow_1), q.before A0 s = true) : ∀ j : Nat, 8 < j → j < 10 → (Cond.not (Cond.eq (tmS 8) (tmS j))).before A0 s = true := by
  intro j h1 h2
  have h : j = 9 := by omega
  subst h; exact hs _ (by decide +kernel)
theorem sN9 {A0 : Array Value} {s : State} (hs : ∀ q ∈ flatC (Jvm.Cond.and given_1 narrow_1), q.before A0 s = true) : ∀ j : Nat, 9 < j → j < 10 → (Cond.not (Cond.eq (tmS 9) (tmS j))).before A0 s = true := by
  intro j h1 h2
  exact absurd h2 (by omega)
theorem law_SS {s : State} {A0 : Array Value} {A : Nat → Prop} (hts : ∀ w ∈ lw_tbl, w.before A0 s = true) (hgv : (Jvm.Cond.and given_1 narrow_1).before A0 s = true) (hA : ∀ a : Nat, a < s.heap.size → ¬ A a) : ∃ adK adV : Nat → Nat, SS adK adV A s s.heap := by
  have hs := flat_of_before _ hgv
  obtain ⟨adK, adV, h1, h2⟩ := vk_Sof (args := A0) (s := s) (N := 10) (tm := tmS) (len := strLen) (byt := strByt) (A := A) (fun i hi => Nat.lt_of_le_of_lt (strLen_le i) (by decide)) (fun i hi => by
    rcases (show i = 0 ∨ i = 1 ∨ i = 2 ∨ i = 3 ∨ i = 4 ∨ i = 5 ∨ i = 6 ∨ i = 7 ∨ i = 8 ∨ i = 9 by omega) with h | h | h | h | h | h | h | h | h | h <;> subst h
    · exact (sL0 hs).1
    · exact (sL1 hs).1
    · exact (sL2 hs).1
    · exact (sL3 hs).1
    · exact (sL4 hs).1
    · exact (sL5 hs).1
    · exact (sL6 hs).1
    · exact (sL7 hs).1
    · exact (sL8 hs).1
    · exact (sL9 hs).1) (fun i hi => by
    rcases (show i = 0 ∨ i = 1 ∨ i = 2 ∨ i = 3 ∨ i = 4 ∨ i = 5 ∨ i = 6 ∨ i = 7 ∨ i = 8 ∨ i = 9 by omega) with h | h | h | h | h | h | h | h | h | h <;> subst h
    · exact (sL0 hs).2.1
    · exact (sL1 hs).2.1
    · exact (sL2 hs).2.1
    · exact (sL3 hs).2.1
    · exact (sL4 hs).2.1
    · exact (sL5 hs).2.1
    · exact (sL6 hs).2.1
    · exact (sL7 hs).2.1
    · exact (sL8 hs).2.1
    · exact (sL9 hs).2.1) (fun i hi => by
    rcases (show i = 0 ∨ i = 1 ∨ i = 2 ∨ i = 3 ∨ i = 4 ∨ i = 5 ∨ i = 6 ∨ i = 7 ∨ i = 8 ∨ i = 9 by omega) with h | h | h | h | h | h | h | h | h | h <;> subst h
    · exact (sL0 hs).2.2.1
    · exact (sL1 hs).2.2.1
    · exact (sL2 hs).2.2.1
    · exact (sL3 hs).2.2.1
    · exact (sL4 hs).2.2.1
    · exact (sL5 hs).2.2.1
    · exact (sL6 hs).2.2.1
    · exact (sL7 hs).2.2.1
    · exact (sL8 hs).2.2.1
    · exact (sL9 hs).2.2.1) (fun i hi => by
    rcases (show i = 0 ∨ i = 1 ∨ i = 2 ∨ i = 3 ∨ i = 4 ∨ i = 5 ∨ i = 6 ∨ i = 7 ∨ i = 8 ∨ i = 9 by omega) with h | h | h | h | h | h | h | h | h | h <;> subst h
    · exact (sL0 hs).2.2.2.1
    · exact (sL1 hs).2.2.2.1
    · exact (sL2 hs).2.2.2.1
    · exact (sL3 hs).2.2.2.1
    · exact (sL4 hs).2.2.2.1
    · exact (sL5 hs).2.2.2.1
    · exact (sL6 hs).2.2.2.1
    · exact (sL7 hs).2.2.2.1
    · exact (sL8 hs).2.2.2.1
    · exact (sL9 hs).2.2.2.1) (fun i hi => by
    rcases (show i = 0 ∨ i = 1 ∨ i = 2 ∨ i = 3 ∨ i = 4 ∨ i = 5 ∨ i = 6 ∨ i = 7 ∨ i = 8 ∨ i = 9 by omega) with h | h | h | h | h | h | h | h | h | h <;> subst h
    · exact (sL0 hs).2.2.2.2
    · exact (sL1 hs).2.2.2.2
    · exact (sL2 hs).2.2.2.2
    · exact (sL3 hs).2.2.2.2
    · exact (sL4 hs).2.2.2.2
    · exact (sL5 hs).2.2.2.2
    · exact (sL6 hs).2.2.2.2
    · exact (sL7 hs).2.2.2.2
    · exact (sL8 hs).2.2.2.2
    · exact (sL9 hs).2.2.2.2) (fun i j hi hj hij => by
    rcases Nat.lt_or_gt_of_ne hij with h9 | h9
    · refine Or.inl ?_
      rcases (show i = 0 ∨ i = 1 ∨ i = 2 ∨ i = 3 ∨ i = 4 ∨ i = 5 ∨ i = 6 ∨ i = 7 ∨ i = 8 ∨ i = 9 by omega) with h | h | h | h | h | h | h | h | h | h <;> subst h
      · exact sN0 hs j h9 hj
      · exact sN1 hs j h9 hj
      · exact sN2 hs j h9 hj
      · exact sN3 hs j h9 hj
      · exact sN4 hs j h9 hj
      · exact sN5 hs j h9 hj
      · exact sN6 hs j h9 hj
      · exact sN7 hs j h9 hj
      · exact sN8 hs j h9 hj
      · exact sN9 hs j h9 hj
    · refine Or.inr ?_
      rcases (show j = 0 ∨ j = 1 ∨ j = 2 ∨ j = 3 ∨ j = 4 ∨ j = 5 ∨ j = 6 ∨ j = 7 ∨ j = 8 ∨ j = 9 by omega) with h | h | h | h | h | h | h | h | h | h <;> subst h
      · exact sN0 hs i h9 hi
      · exact sN1 hs i h9 hi
      · exact sN2 hs i h9 hi
      · exact sN3 hs i h9 hi
      · exact sN4 hs i h9 hi
      · exact sN5 hs i h9 hi
      · exact sN6 hs i h9 hi
      · exact sN7 hs i h9 hi
      · exact sN8 hs i h9 hi
      · exact sN9 hs i h9 hi
    ) hA
  refine ⟨adK, adV, h1, fun i q hq => ?_, va_Zof (hts _ (List.mem_append_right _ (List.mem_of_getElem? (i := 412) (by decide +kernel)))) (hts _ (List.mem_append_right _ (List.mem_of_getElem? (i := 13) (by decide +kernel)))) (va_eqt (hs _ (by decide +kernel))) hA, va_Zqof (hts _ (List.mem_append_right _ (List.mem_of_getElem? (i := 428) (by decide +kernel)))) (hts _ (List.mem_append_right _ (List.mem_of_getElem? (i := 15) (by decide +kernel)))) (hs _ (by decide +kernel)) hA⟩
  have hi : i < 10 := (List.getElem?_eq_some_iff.mp hq).1
  have e2 := h2 i hi
  rcases (show i = 0 ∨ i = 1 ∨ i = 2 ∨ i = 3 ∨ i = 4 ∨ i = 5 ∨ i = 6 ∨ i = 7 ∨ i = 8 ∨ i = 9 by omega) with h | h | h | h | h | h | h | h | h | h <;> subst h
  · cases hq; exact vk_R.of (hts _ (List.mem_append_right _ (List.mem_of_getElem? (i := 394) (by decide +kernel)))) e2
  · cases hq; exact vk_R.of (hts _ (List.mem_append_right _ (List.mem_of_getElem? (i := 467) (by decide +kernel)))) e2
  · cases hq; exact vk_R.of (hts _ (List.mem_append_right _ (List.mem_of_getElem? (i := 476) (by decide +kernel)))) e2
  · cases hq; exact vk_R.of (hts _ (List.mem_append_right _ (List.mem_of_getElem? (i := 485) (by decide +kernel)))) e2
  · cases hq; exact vk_R.of (hts _ (List.mem_append_right _ (List.mem_of_getElem? (i := 486) (by decide +kernel)))) e2
  · cases hq; exact vk_R.of (hts _ (List.mem_append_right _ (List.mem_of_getElem? (i := 487) (by decide +kernel)))) e2
  · cases hq; exact vk_R.of (hts _ (List.mem_append_right _ (List.mem_of_getElem? (i := 488) (by decide +kernel)))) e2
  · cases hq; exact vk_R.of (hts _ (List.mem_append_right _ (List.mem_of_getElem? (i := 489) (by decide +kernel)))) e2
  · cases hq; exact vk_R.of (hts _ (List.mem_append_right _ (List.mem_of_getElem? (i := 490) (by decide +kernel)))) e2
  · cases hq; exact vk_R.of (hts _ (List.mem_append_right _ (List.mem_of_getElem? (i := 495) (by decide +kernel)))) e2

