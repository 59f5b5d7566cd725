/-! rows of rows: a block of rows rw 0 .. rw (N - 1) in the world -/
theorem blk_at {X Y : va_W} {f : Nat → Nat × va_E} {N j : Nat} (hj : j < N) : (X ++ ((List.range N).map f ++ Y))[X.length + j]? = some (f j) := by
  rw [List.getElem?_append_right (by omega), Nat.add_sub_cancel_left, List.getElem?_append_left (by simp; exact hj)]
  simp [List.getElem?_range hj]
theorem blk_set {X Y : va_W} {f : Nat → Nat × va_E} {N j : Nat} {e : Nat × va_E} (hj : j < N) : (X ++ ((List.range N).map f ++ Y)).set (X.length + j) e = X ++ ((List.range N).map (fun i => if i = j then e else f i) ++ Y) := by
  rw [List.set_append_right _ _ (by omega), Nat.add_sub_cancel_left, List.set_append_left _ _ (by simp; exact hj)]
  congr 2
  apply List.ext_getElem
  · simp
  · intro i h1 h2
    simp only [List.length_map, List.length_range] at h2
    by_cases e1 : i = j
    · subst e1; simp
    · simp [e1, Ne.symm e1]
theorem blk_P {D : va_G} {cl : List vw_C} {H : Heap} {X Y : va_W} {f : Nat → Nat × va_E} {N j : Nat} (hP : va_P D cl (X ++ ((List.range N).map f ++ Y)) H) (hj : j < N) : va_P D cl [f j] H := by
  intro k q hq
  have hk : k = 0 := by
    have := (List.getElem?_eq_some_iff.mp hq).1
    simp at this
    omega
  subst hk
  cases hq
  exact hP (X.length + j) _ (blk_at hj)
theorem blk_P2 {D : va_G} {cl : List vw_C} {H : Heap} {X B Y : va_W} {f : Nat → Nat × va_E} {N j : Nat} (hP : va_P D cl (X ++ (B ++ ((List.range N).map f ++ Y))) H) (hj : j < N) : va_P D cl [f j] H :=
  blk_P (X := X ++ B) (Y := Y) (by rw [List.append_assoc]; exact hP) hj
theorem blk_up {α : Type} {rw' : Nat → Nat} {mk : α → va_E} {F : Nat → α} {j : Nat} {g : α} : (fun i => if i = j then (rw' j, mk g) else (rw' i, mk (F i))) = (fun i => (rw' i, mk (va_up F j g i))) := by
  funext i
  by_cases e : i = j
  · subst e; simp [va_up]
  · simp [va_up, e]
theorem rowref {rw' : Nat → Nat} {N j : Nat} (h : j < N) (hN : N < 2 ^ 31) : va_rf ((fun i => if i < N then some (rw' i) else none) (nI j).toNatClampNeg) = .ref (rw' j) := by
  rw [nI_clamp (by omega)]
  simp [h, va_rf]
section VBK
variable {p : Program} {l : Launch} {e : Env} {R : Room} {s : State} {m : MethodId} {args : Array Value} {below : List Frame} {meth : Method} {c : Code} {H : Heap} {locs : List Loc} {cells slots : Nat} {Q : State → Prop}
variable {cc : ByteArray} {pc : Nat} {ls : Array Slot} {rest : List Value} {D : va_G} {cl : List vw_C} {A : Nat → Prop} {tys : List (ClassId × FieldType)} {X B Y : va_W} {H0 : Heap} {rw' : Nat → Nat} {N K j : Nat} {cA : ClassId}
theorem va_iastB {F : Nat → Nat → Int32} (hexec : p.tables.exec = Jvm.exec) (hb : c.code = cc) (hK : va_K D cl tys s) (hP : va_P D cl (X ++ ((List.range N).map (fun i => (rw' i, .inl (cA, K, .inl (F i)))) ++ Y)) H) (hD : va_D A (X ++ ((List.range N).map (fun i => (rw' i, .inl (cA, K, .inl (F i)))) ++ Y))) (hS : va_S A H0 H locs) (t0 : Nat) (hj : j < N) (ht : tys[t0]? = some (cA, .int)) {i x : Int32} (hin : vp_in i K) (hdg : decode cc pc = .ok (.iastore, 1))
    (kk : ∀ (H1 : Heap) (locs1 : List Loc), va_P D cl (X ++ ((List.range N).map (fun k => (rw' k, .inl (cA, K, .inl (va_up F j (upd (F j) i.toNatClampNeg x) k)))) ++ Y)) H1 → va_D A (X ++ ((List.range N).map (fun k => (rw' k, .inl (cA, K, .inl (va_up F j (upd (F j) i.toNatClampNeg x) k)))) ++ Y)) → va_S A H0 H1 locs1 → W p l e R s m args below meth c H1 locs1 cells slots Q (F0 m (pc + 1) ls rest)) : W p l e R s m args below meth c H locs cells slots Q (F0 m pc ls (.int x :: .int i :: .ref (rw' j) :: rest)) := by
  refine va_iast hexec hb hK hP hD hS (X.length + j) t0 (blk_at (f := fun i => (rw' i, .inl (cA, K, .inl (F i)))) hj) ht hin hdg (fun H1 locs1 h1 h2 h3 => ?_)
  rw [blk_set hj, blk_up (mk := fun g => .inl (cA, K, .inl g))] at h1 h2
  exact kk H1 locs1 h1 h2 h3
theorem va_iastB2 {F : Nat → Nat → Int32} (hexec : p.tables.exec = Jvm.exec) (hb : c.code = cc) (hK : va_K D cl tys s) (hP : va_P D cl (X ++ (B ++ ((List.range N).map (fun i => (rw' i, .inl (cA, K, .inl (F i)))) ++ Y))) H) (hD : va_D A (X ++ (B ++ ((List.range N).map (fun i => (rw' i, .inl (cA, K, .inl (F i)))) ++ Y)))) (hS : va_S A H0 H locs) (t0 : Nat) (hj : j < N) (ht : tys[t0]? = some (cA, .int)) {i x : Int32} (hin : vp_in i K) (hdg : decode cc pc = .ok (.iastore, 1))
    (kk : ∀ (H1 : Heap) (locs1 : List Loc), va_P D cl (X ++ (B ++ ((List.range N).map (fun k => (rw' k, .inl (cA, K, .inl (va_up F j (upd (F j) i.toNatClampNeg x) k)))) ++ Y))) H1 → va_D A (X ++ (B ++ ((List.range N).map (fun k => (rw' k, .inl (cA, K, .inl (va_up F j (upd (F j) i.toNatClampNeg x) k)))) ++ Y))) → va_S A H0 H1 locs1 → W p l e R s m args below meth c H1 locs1 cells slots Q (F0 m (pc + 1) ls rest)) : W p l e R s m args below meth c H locs cells slots Q (F0 m pc ls (.int x :: .int i :: .ref (rw' j) :: rest)) :=
  va_iastB (X := X ++ B) (Y := Y) hexec hb hK (by rw [List.append_assoc]; exact hP) (by rw [List.append_assoc]; exact hD) hS t0 hj ht hin hdg (fun H1 locs1 h1 h2 h3 => kk H1 locs1 (by rw [List.append_assoc] at h1; exact h1) (by rw [List.append_assoc] at h2; exact h2) h3)
theorem va_lastB {F : Nat → Nat → Int64} (hexec : p.tables.exec = Jvm.exec) (hb : c.code = cc) (hK : va_K D cl tys s) (hP : va_P D cl (X ++ ((List.range N).map (fun i => (rw' i, .inl (cA, K, .inr (.inl (F i))))) ++ Y)) H) (hD : va_D A (X ++ ((List.range N).map (fun i => (rw' i, .inl (cA, K, .inr (.inl (F i))))) ++ Y))) (hS : va_S A H0 H locs) (t0 : Nat) (hj : j < N) (ht : tys[t0]? = some (cA, .long)) {i : Int32} {x : Int64} (hin : vp_in i K) (hdg : decode cc pc = .ok (.lastore, 1))
    (kk : ∀ (H1 : Heap) (locs1 : List Loc), va_P D cl (X ++ ((List.range N).map (fun k => (rw' k, .inl (cA, K, .inr (.inl (va_up F j (vp_updL (F j) i.toNatClampNeg x) k))))) ++ Y)) H1 → va_D A (X ++ ((List.range N).map (fun k => (rw' k, .inl (cA, K, .inr (.inl (va_up F j (vp_updL (F j) i.toNatClampNeg x) k))))) ++ Y)) → va_S A H0 H1 locs1 → W p l e R s m args below meth c H1 locs1 cells slots Q (F0 m (pc + 1) ls rest)) : W p l e R s m args below meth c H locs cells slots Q (F0 m pc ls (.long x :: .int i :: .ref (rw' j) :: rest)) := by
  refine va_last hexec hb hK hP hD hS (X.length + j) t0 (blk_at (f := fun i => (rw' i, .inl (cA, K, .inr (.inl (F i))))) hj) ht hin hdg (fun H1 locs1 h1 h2 h3 => ?_)
  rw [blk_set hj, blk_up (mk := fun g => .inl (cA, K, .inr (.inl g)))] at h1 h2
  exact kk H1 locs1 h1 h2 h3
end VBK
