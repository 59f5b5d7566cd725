set_option maxHeartbeats 1000000 in
set_option maxRecDepth 100000 in
theorem c_X9_addStretch (l : Launch) (dC : Nat → ClassId) (dI : Nat → Nat → Nat) (G : Nat → ClassId) (sz : Nat) (h0 a1 a2 a3 a4 a5 a6 N B D : Nat) (x1 x2 : Int32) (f1 f2 : Nat → Int32) (hN_N : N ≤ 10) (hB_B : B ≤ 6) (hD_D : 1 ≤ D ∧ D ≤ 9) : Met l yX9_addStretch (Cond.code yX9_addStretch cX9_addStretch 3 none :: GT) ({ frames := 0, cells := 0, slots := 0, locals := 0 } : Room) (PcW [.ref h0, .int x1, .int x2] dC dI G [(h0, .inr (9, [.int (nI N), .int (nI B), .int (nI D), .ref a1, .ref a2, .ref a3, .ref a4, .ref a5, .ref a6])), (a1, .inl (G 0, 10, .inl f1)), (a2, .inl (G 0, 10, .inl f2))] sz) (va_Qv (fun (u : Nat × (Nat → Int32) × (Nat → Int32)) => match u with | (u0, u1, u2) => u0 = (if N < 10 then N + 1 else N)) (fun (u : Nat × (Nat → Int32) × (Nat → Int32)) (t : State) => match u with | (u0, u1, u2) => va_P (dC, dI) vwCl [(h0, .inr (9, [.int (nI u0), .int (nI B), .int (nI D), .ref a1, .ref a2, .ref a3, .ref a4, .ref a5, .ref a6])), (a1, .inl (G 0, 10, .inl u1)), (a2, .inl (G 0, 10, .inl u2))] t.heap ∧ va_D (va_A [(h0, .inr (9, [.int (nI N), .int (nI B), .int (nI D), .ref a1, .ref a2, .ref a3, .ref a4, .ref a5, .ref a6])), (a1, .inl (G 0, 10, .inl f1)), (a2, .inl (G 0, 10, .inl f2))] sz) [(h0, .inr (9, [.int (nI u0), .int (nI B), .int (nI D), .ref a1, .ref a2, .ref a3, .ref a4, .ref a5, .ref a6])), (a1, .inl (G 0, 10, .inl u1)), (a2, .inl (G 0, 10, .inl u2))]) (va_A [(h0, .inr (9, [.int (nI N), .int (nI B), .int (nI D), .ref a1, .ref a2, .ref a3, .ref a4, .ref a5, .ref a6])), (a1, .inl (G 0, 10, .inl f1)), (a2, .inl (G 0, 10, .inl f2))] sz)) 0 0 (va_A [(h0, .inr (9, [.int (nI N), .int (nI B), .int (nI D), .ref a1, .ref a2, .ref a3, .ref a4, .ref a5, .ref a6])), (a1, .inl (G 0, 10, .inl f1)), (a2, .inl (G 0, 10, .inl f2))] sz) := by
  refine Met.ofW (cc := cX9_addStretch) (maxL := 3) (ret := none) (by decide) rfl ?_
  intro p e s m args below meth c s₁ Bd hml hv
  obtain ⟨rfl, hsz, hP, hK, hD0⟩ := hv
  have hx := Bd.exec
  have hb := Bd.bytes
  have hr := Bd.returns
  have hg : ∀ w ∈ GT, w.before ([.ref h0, .int x1, .int x2] : List Value).toArray s = true := fun w h => atoms_spec (ws := Cond.code yX9_addStretch cX9_addStretch 3 none :: GT) Bd.pre w (List.mem_cons_of_mem _ h)
  have hown : s.vm.findClass RX9 = some m.cls := findClass_of_methodNamed Bd.named
  have hlocks := Bd.notSynchronized
  subst hsz
  have hD := hD0.self (sz := s.heap.size)
  generalize hAe : va_A [(h0, .inr (9, [.int (nI N), .int (nI B), .int (nI D), .ref a1, .ref a2, .ref a3, .ref a4, .ref a5, .ref a6])), (a1, .inl (G 0, 10, .inl f1)), (a2, .inl (G 0, 10, .inl f2))] s.heap.size = A at hD ⊢
  have hA : ∀ q : Nat, s.heap.size ≤ q → A q := fun q h => by rw [← hAe]; exact Or.inr h
  have hS : va_S A s.heap s.heap [] := va_S.rf
  have hl := lv_entry ([.ref h0, .int x1, .int x2]) (n := 3) (Nat.le_of_ble_eq_true rfl)
  rw [lg_entry_eq]
  generalize (lg_sl ([.ref h0, .int x1, .int x2]) ++ List.replicate (3 - (lg_sl ([.ref h0, .int x1, .int x2])).length) Slot.unset).toArray = ls at hl ⊢
  have hl : lv_has ls 3 [(0, .ref h0), (1, .int x1), (2, .int x2)] := hl
  refine lv_aload_n hx hb dX9_addStretch_0 rfl (lv_at hl 0 rfl) ?_
  refine va_get (D := (dC, dI)) (ci := 9) (v := .int (nI N)) (C := RX9) (T := TX9) (N := 9) hx hb hg inG9 hown hK.1 hP 0 rfl rfl 0 (by decide) (hg _ wt_56) (fun _ h9 => h9) rfl dX9_addStretch_1 ?_
  refine lv_bipush (v := 10) hx hb dX9_addStretch_4 (by decide) ?_
  refine lv_icmp_ge (tgt := 39) hx hb dX9_addStretch_6 (by decide) (fun c1 => ?_) (fun c1 => ?_)
  · skip
    have n2 : 10 ≤ N := by have t := leI c1; rw [nI_toInt (n := N) (by omega)] at t; have : (10 : Int32).toInt = 10 := (by decide); omega
    have hP9 := hP.sub (ws' := [(h0, .inr (9, [.int (nI N), .int (nI B), .int (nI D), .ref a1, .ref a2, .ref a3, .ref a4, .ref a5, .ref a6])), (a1, .inl (G 0, 10, .inl f1)), (a2, .inl (G 0, 10, .inl f2))]) [0, 1, 2] rfl
    have hD9 := hD.sub (ws' := [(h0, .inr (9, [.int (nI N), .int (nI B), .int (nI D), .ref a1, .ref a2, .ref a3, .ref a4, .ref a5, .ref a6])), (a1, .inl (G 0, 10, .inl f1)), (a2, .inl (G 0, 10, .inl f2))]) [0, 1, 2] (by decide) rfl
    refine W.widen (k := 0) (n := 0) (by omega) (by omega) ?_
    exact W.vret hx hb hr (fun t ht hW => ⟨⟨(N, f1, f2), rfl, (by have t_n2 := n2; have t_n0 : (nI N).toInt = (N : Int) := nI_toInt (by omega); have t_n1 : (nI B).toInt = (B : Int) := nI_toInt (by omega); have t_n2 : (nI D).toInt = (D : Int) := nI_toInt (by omega); split <;> omega), ⟨by rw [ht]; exact hP9, hD9⟩⟩, hS.F ht⟩) hS.2.2 dX9_addStretch_39
  · skip
    have n3 : N < 10 := by have t := nleI c1; rw [nI_toInt (n := N) (by omega)] at t; have : (10 : Int32).toInt = 10 := (by decide); omega
    refine lv_aload_n hx hb dX9_addStretch_9 rfl (lv_at hl 0 rfl) ?_
    refine va_get (D := (dC, dI)) (ci := 9) (v := .ref a1) (C := RX9) (T := TX9) (N := 9) hx hb hg inG9 hown hK.1 hP 0 rfl rfl 3 (by decide) (hg _ wt_73) (fun _ h9 => h9) rfl dX9_addStretch_10 ?_
    refine lv_aload_n hx hb dX9_addStretch_13 rfl (lv_at hl 0 rfl) ?_
    refine va_get (D := (dC, dI)) (ci := 9) (v := .int (nI N)) (C := RX9) (T := TX9) (N := 9) hx hb hg inG9 hown hK.1 hP 0 rfl rfl 0 (by decide) (hg _ wt_56) (fun _ h9 => h9) rfl dX9_addStretch_14 ?_
    refine lv_iload_n hx hb dX9_addStretch_17 rfl (lv_at hl 1 rfl) ?_
    refine va_iast hx hb hK.1 hP hD hS 1 0 rfl rfl (vp_in_nI (by have t_n3 := n3; have t_n0 : (nI N).toInt = (N : Int) := nI_toInt (by omega); have t_n1 : (nI B).toInt = (B : Int) := nI_toInt (by omega); have t_n2 : (nI D).toInt = (D : Int) := nI_toInt (by omega); omega) (by decide)) dX9_addStretch_18 (fun H locs hP hD hS => ?_)
    rw [nI_clamp (by omega)] at hP hD
    have hP : va_P (dC, dI) vwCl [(h0, .inr (9, [.int (nI N), .int (nI B), .int (nI D), .ref a1, .ref a2, .ref a3, .ref a4, .ref a5, .ref a6])), (a1, .inl (G 0, 10, .inl (upd f1 N x1))), (a2, .inl (G 0, 10, .inl f2))] H := hP
    have hD : va_D A [(h0, .inr (9, [.int (nI N), .int (nI B), .int (nI D), .ref a1, .ref a2, .ref a3, .ref a4, .ref a5, .ref a6])), (a1, .inl (G 0, 10, .inl (upd f1 N x1))), (a2, .inl (G 0, 10, .inl f2))] := hD
    refine lv_aload_n hx hb dX9_addStretch_19 rfl (lv_at hl 0 rfl) ?_
    refine va_get (D := (dC, dI)) (ci := 9) (v := .ref a2) (C := RX9) (T := TX9) (N := 9) hx hb hg inG9 hown hK.1 hP 0 rfl rfl 4 (by decide) (hg _ wt_75) (fun _ h9 => h9) rfl dX9_addStretch_20 ?_
    refine lv_aload_n hx hb dX9_addStretch_23 rfl (lv_at hl 0 rfl) ?_
    refine va_get (D := (dC, dI)) (ci := 9) (v := .int (nI N)) (C := RX9) (T := TX9) (N := 9) hx hb hg inG9 hown hK.1 hP 0 rfl rfl 0 (by decide) (hg _ wt_56) (fun _ h9 => h9) rfl dX9_addStretch_24 ?_
    refine lv_iload_n hx hb dX9_addStretch_27 rfl (lv_at hl 2 rfl) ?_
    refine va_iast hx hb hK.1 hP hD hS 2 0 rfl rfl (vp_in_nI (by have t_n3 := n3; have t_n0 : (nI N).toInt = (N : Int) := nI_toInt (by omega); have t_n1 : (nI B).toInt = (B : Int) := nI_toInt (by omega); have t_n2 : (nI D).toInt = (D : Int) := nI_toInt (by omega); omega) (by decide)) dX9_addStretch_28 (fun H locs hP hD hS => ?_)
    rw [nI_clamp (by omega)] at hP hD
    have hP : va_P (dC, dI) vwCl [(h0, .inr (9, [.int (nI N), .int (nI B), .int (nI D), .ref a1, .ref a2, .ref a3, .ref a4, .ref a5, .ref a6])), (a1, .inl (G 0, 10, .inl (upd f1 N x1))), (a2, .inl (G 0, 10, .inl (upd f2 N x2)))] H := hP
    have hD : va_D A [(h0, .inr (9, [.int (nI N), .int (nI B), .int (nI D), .ref a1, .ref a2, .ref a3, .ref a4, .ref a5, .ref a6])), (a1, .inl (G 0, 10, .inl (upd f1 N x1))), (a2, .inl (G 0, 10, .inl (upd f2 N x2)))] := hD
    refine lv_aload_n hx hb dX9_addStretch_29 rfl (lv_at hl 0 rfl) ?_
    refine lv_dup hx hb dX9_addStretch_30 rfl ?_
    refine va_get (D := (dC, dI)) (ci := 9) (v := .int (nI N)) (C := RX9) (T := TX9) (N := 9) hx hb hg inG9 hown hK.1 hP 0 rfl rfl 0 (by decide) (hg _ wt_56) (fun _ h9 => h9) rfl dX9_addStretch_31 ?_
    refine lv_iconst (v := 1) hx hb dX9_addStretch_34 (by decide) ?_
    refine lv_iadd hx hb dX9_addStretch_35 ?_
    refine lv_cg (y := nI (N + 1)) (by rw [show (1 : Int32) = nI 1 from rfl]; exact nI_add _ _) ?_
    refine va_put (D := (dC, dI)) (ci := 9) (v := .int (nI (N + 1))) (ty := .int) (C := RX9) (T := TX9) (N := 9) hx hb hg inG9 tyX9 tyX9_ok nmX9 hown hK.1 hP hD hS 0 rfl rfl 0 (by decide) (hg _ wt_56) (fun _ h9 => h9) rfl (by decide +kernel) rfl rfl (Nat.le_of_ble_eq_true rfl) dX9_addStretch_36 (fun H locs hP hD hS => ?_)
    have hP : va_P (dC, dI) vwCl [(h0, .inr (9, [.int (nI (N + 1)), .int (nI B), .int (nI D), .ref a1, .ref a2, .ref a3, .ref a4, .ref a5, .ref a6])), (a1, .inl (G 0, 10, .inl (upd f1 N x1))), (a2, .inl (G 0, 10, .inl (upd f2 N x2)))] H := hP
    have hD : va_D A [(h0, .inr (9, [.int (nI (N + 1)), .int (nI B), .int (nI D), .ref a1, .ref a2, .ref a3, .ref a4, .ref a5, .ref a6])), (a1, .inl (G 0, 10, .inl (upd f1 N x1))), (a2, .inl (G 0, 10, .inl (upd f2 N x2)))] := hD
    have hP9 := hP.sub (ws' := [(h0, .inr (9, [.int (nI (N + 1)), .int (nI B), .int (nI D), .ref a1, .ref a2, .ref a3, .ref a4, .ref a5, .ref a6])), (a1, .inl (G 0, 10, .inl (upd f1 N x1))), (a2, .inl (G 0, 10, .inl (upd f2 N x2)))]) [0, 1, 2] rfl
    have hD9 := hD.sub (ws' := [(h0, .inr (9, [.int (nI (N + 1)), .int (nI B), .int (nI D), .ref a1, .ref a2, .ref a3, .ref a4, .ref a5, .ref a6])), (a1, .inl (G 0, 10, .inl (upd f1 N x1))), (a2, .inl (G 0, 10, .inl (upd f2 N x2)))]) [0, 1, 2] (by decide) rfl
    refine W.widen (k := 0) (n := 0) (by omega) (by omega) ?_
    exact W.vret hx hb hr (fun t ht hW => ⟨⟨((N + 1), (upd f1 N x1), (upd f2 N x2)), rfl, (by have t_n3 := n3; have t_n0 : (nI N).toInt = (N : Int) := nI_toInt (by omega); have t_n1 : (nI B).toInt = (B : Int) := nI_toInt (by omega); have t_n2 : (nI D).toInt = (D : Int) := nI_toInt (by omega); split <;> omega), ⟨by rw [ht]; exact hP9, hD9⟩⟩, hS.F ht⟩) hS.2.2 dX9_addStretch_39

set_option maxHeartbeats 1000000 in
set_option maxRecDepth 100000 in
theorem c_X9_addBearer (l : Launch) (dC : Nat → ClassId) (dI : Nat → Nat → Nat) (G : Nat → ClassId) (sz : Nat) (h0 a1 a2 a3 a4 a5 a6 N B D : Nat) (x1 x2 x3 : Int32) (f4 f5 f6 : Nat → Int32) (hN_N : N ≤ 10) (hB_B : B ≤ 6) (hD_D : 1 ≤ D ∧ D ≤ 9) : Met l yX9_addBearer (Cond.code yX9_addBearer cX9_addBearer 4 none :: GT) ({ frames := 0, cells := 0, slots := 0, locals := 0 } : Room) (PcW [.ref h0, .int x1, .int x2, .int x3] dC dI G [(h0, .inr (9, [.int (nI N), .int (nI B), .int (nI D), .ref a1, .ref a2, .ref a3, .ref a4, .ref a5, .ref a6])), (a4, .inl (G 0, 6, .inl f4)), (a5, .inl (G 0, 6, .inl f5)), (a6, .inl (G 0, 6, .inl f6))] sz) (va_Qv (fun (u : Nat × (Nat → Int32) × (Nat → Int32) × (Nat → Int32)) => match u with | (u0, u1, u2, u3) => u0 = (if B < 6 then B + 1 else B)) (fun (u : Nat × (Nat → Int32) × (Nat → Int32) × (Nat → Int32)) (t : State) => match u with | (u0, u1, u2, u3) => va_P (dC, dI) vwCl [(h0, .inr (9, [.int (nI N), .int (nI u0), .int (nI D), .ref a1, .ref a2, .ref a3, .ref a4, .ref a5, .ref a6])), (a4, .inl (G 0, 6, .inl u1)), (a5, .inl (G 0, 6, .inl u2)), (a6, .inl (G 0, 6, .inl u3))] t.heap ∧ va_D (va_A [(h0, .inr (9, [.int (nI N), .int (nI B), .int (nI D), .ref a1, .ref a2, .ref a3, .ref a4, .ref a5, .ref a6])), (a4, .inl (G 0, 6, .inl f4)), (a5, .inl (G 0, 6, .inl f5)), (a6, .inl (G 0, 6, .inl f6))] sz) [(h0, .inr (9, [.int (nI N), .int (nI u0), .int (nI D), .ref a1, .ref a2, .ref a3, .ref a4, .ref a5, .ref a6])), (a4, .inl (G 0, 6, .inl u1)), (a5, .inl (G 0, 6, .inl u2)), (a6, .inl (G 0, 6, .inl u3))]) (va_A [(h0, .inr (9, [.int (nI N), .int (nI B), .int (nI D), .ref a1, .ref a2, .ref a3, .ref a4, .ref a5, .ref a6])), (a4, .inl (G 0, 6, .inl f4)), (a5, .inl (G 0, 6, .inl f5)), (a6, .inl (G 0, 6, .inl f6))] sz)) 0 0 (va_A [(h0, .inr (9, [.int (nI N), .int (nI B), .int (nI D), .ref a1, .ref a2, .ref a3, .ref a4, .ref a5, .ref a6])), (a4, .inl (G 0, 6, .inl f4)), (a5, .inl (G 0, 6, .inl f5)), (a6, .inl (G 0, 6, .inl f6))] sz) := by
  refine Met.ofW (cc := cX9_addBearer) (maxL := 4) (ret := none) (by decide) rfl ?_
  intro p e s m args below meth c s₁ Bd hml hv
  obtain ⟨rfl, hsz, hP, hK, hD0⟩ := hv
  have hx := Bd.exec
  have hb := Bd.bytes
  have hr := Bd.returns
  have hg : ∀ w ∈ GT, w.before ([.ref h0, .int x1, .int x2, .int x3] : List Value).toArray s = true := fun w h => atoms_spec (ws := Cond.code yX9_addBearer cX9_addBearer 4 none :: GT) Bd.pre w (List.mem_cons_of_mem _ h)
  have hown : s.vm.findClass RX9 = some m.cls := findClass_of_methodNamed Bd.named
  have hlocks := Bd.notSynchronized
  subst hsz
  have hD := hD0.self (sz := s.heap.size)
  generalize hAe : va_A [(h0, .inr (9, [.int (nI N), .int (nI B), .int (nI D), .ref a1, .ref a2, .ref a3, .ref a4, .ref a5, .ref a6])), (a4, .inl (G 0, 6, .inl f4)), (a5, .inl (G 0, 6, .inl f5)), (a6, .inl (G 0, 6, .inl f6))] s.heap.size = A at hD ⊢
  have hA : ∀ q : Nat, s.heap.size ≤ q → A q := fun q h => by rw [← hAe]; exact Or.inr h
  have hS : va_S A s.heap s.heap [] := va_S.rf
  have hl := lv_entry ([.ref h0, .int x1, .int x2, .int x3]) (n := 4) (Nat.le_of_ble_eq_true rfl)
  rw [lg_entry_eq]
  generalize (lg_sl ([.ref h0, .int x1, .int x2, .int x3]) ++ List.replicate (4 - (lg_sl ([.ref h0, .int x1, .int x2, .int x3])).length) Slot.unset).toArray = ls at hl ⊢
  have hl : lv_has ls 4 [(0, .ref h0), (1, .int x1), (2, .int x2), (3, .int x3)] := hl
  refine lv_aload_n hx hb dX9_addBearer_0 rfl (lv_at hl 0 rfl) ?_
  refine va_get (D := (dC, dI)) (ci := 9) (v := .int (nI B)) (C := RX9) (T := TX9) (N := 9) hx hb hg inG9 hown hK.1 hP 0 rfl rfl 1 (by decide) (hg _ wt_62) (fun _ h9 => h9) rfl dX9_addBearer_1 ?_
  refine lv_bipush (v := 6) hx hb dX9_addBearer_4 (by decide) ?_
  refine lv_icmp_ge (tgt := 49) hx hb dX9_addBearer_6 (by decide) (fun c1 => ?_) (fun c1 => ?_)
  · skip
    have n2 : 6 ≤ B := by have t := leI c1; rw [nI_toInt (n := B) (by omega)] at t; have : (6 : Int32).toInt = 6 := (by decide); omega
    have hP9 := hP.sub (ws' := [(h0, .inr (9, [.int (nI N), .int (nI B), .int (nI D), .ref a1, .ref a2, .ref a3, .ref a4, .ref a5, .ref a6])), (a4, .inl (G 0, 6, .inl f4)), (a5, .inl (G 0, 6, .inl f5)), (a6, .inl (G 0, 6, .inl f6))]) [0, 1, 2, 3] rfl
    have hD9 := hD.sub (ws' := [(h0, .inr (9, [.int (nI N), .int (nI B), .int (nI D), .ref a1, .ref a2, .ref a3, .ref a4, .ref a5, .ref a6])), (a4, .inl (G 0, 6, .inl f4)), (a5, .inl (G 0, 6, .inl f5)), (a6, .inl (G 0, 6, .inl f6))]) [0, 1, 2, 3] (by decide) rfl
    refine W.widen (k := 0) (n := 0) (by omega) (by omega) ?_
    exact W.vret hx hb hr (fun t ht hW => ⟨⟨(B, f4, f5, f6), rfl, (by have t_n2 := n2; have t_n0 : (nI N).toInt = (N : Int) := nI_toInt (by omega); have t_n1 : (nI B).toInt = (B : Int) := nI_toInt (by omega); have t_n2 : (nI D).toInt = (D : Int) := nI_toInt (by omega); split <;> omega), ⟨by rw [ht]; exact hP9, hD9⟩⟩, hS.F ht⟩) hS.2.2 dX9_addBearer_49
  · skip
    have n3 : B < 6 := by have t := nleI c1; rw [nI_toInt (n := B) (by omega)] at t; have : (6 : Int32).toInt = 6 := (by decide); omega
    refine lv_aload_n hx hb dX9_addBearer_9 rfl (lv_at hl 0 rfl) ?_
    refine va_get (D := (dC, dI)) (ci := 9) (v := .ref a4) (C := RX9) (T := TX9) (N := 9) hx hb hg inG9 hown hK.1 hP 0 rfl rfl 6 (by decide) (hg _ wt_80) (fun _ h9 => h9) rfl dX9_addBearer_10 ?_
    refine lv_aload_n hx hb dX9_addBearer_13 rfl (lv_at hl 0 rfl) ?_
    refine va_get (D := (dC, dI)) (ci := 9) (v := .int (nI B)) (C := RX9) (T := TX9) (N := 9) hx hb hg inG9 hown hK.1 hP 0 rfl rfl 1 (by decide) (hg _ wt_62) (fun _ h9 => h9) rfl dX9_addBearer_14 ?_
    refine lv_iload_n hx hb dX9_addBearer_17 rfl (lv_at hl 1 rfl) ?_
    refine va_iast hx hb hK.1 hP hD hS 1 0 rfl rfl (vp_in_nI (by have t_n3 := n3; have t_n0 : (nI N).toInt = (N : Int) := nI_toInt (by omega); have t_n1 : (nI B).toInt = (B : Int) := nI_toInt (by omega); have t_n2 : (nI D).toInt = (D : Int) := nI_toInt (by omega); omega) (by decide)) dX9_addBearer_18 (fun H locs hP hD hS => ?_)
    rw [nI_clamp (by omega)] at hP hD
    have hP : va_P (dC, dI) vwCl [(h0, .inr (9, [.int (nI N), .int (nI B), .int (nI D), .ref a1, .ref a2, .ref a3, .ref a4, .ref a5, .ref a6])), (a4, .inl (G 0, 6, .inl (upd f4 B x1))), (a5, .inl (G 0, 6, .inl f5)), (a6, .inl (G 0, 6, .inl f6))] H := hP
    have hD : va_D A [(h0, .inr (9, [.int (nI N), .int (nI B), .int (nI D), .ref a1, .ref a2, .ref a3, .ref a4, .ref a5, .ref a6])), (a4, .inl (G 0, 6, .inl (upd f4 B x1))), (a5, .inl (G 0, 6, .inl f5)), (a6, .inl (G 0, 6, .inl f6))] := hD
    refine lv_aload_n hx hb dX9_addBearer_19 rfl (lv_at hl 0 rfl) ?_
    refine va_get (D := (dC, dI)) (ci := 9) (v := .ref a5) (C := RX9) (T := TX9) (N := 9) hx hb hg inG9 hown hK.1 hP 0 rfl rfl 7 (by decide) (hg _ wt_82) (fun _ h9 => h9) rfl dX9_addBearer_20 ?_
    refine lv_aload_n hx hb dX9_addBearer_23 rfl (lv_at hl 0 rfl) ?_
    refine va_get (D := (dC, dI)) (ci := 9) (v := .int (nI B)) (C := RX9) (T := TX9) (N := 9) hx hb hg inG9 hown hK.1 hP 0 rfl rfl 1 (by decide) (hg _ wt_62) (fun _ h9 => h9) rfl dX9_addBearer_24 ?_
    refine lv_iload_n hx hb dX9_addBearer_27 rfl (lv_at hl 2 rfl) ?_
    refine va_iast hx hb hK.1 hP hD hS 2 0 rfl rfl (vp_in_nI (by have t_n3 := n3; have t_n0 : (nI N).toInt = (N : Int) := nI_toInt (by omega); have t_n1 : (nI B).toInt = (B : Int) := nI_toInt (by omega); have t_n2 : (nI D).toInt = (D : Int) := nI_toInt (by omega); omega) (by decide)) dX9_addBearer_28 (fun H locs hP hD hS => ?_)
    rw [nI_clamp (by omega)] at hP hD
    have hP : va_P (dC, dI) vwCl [(h0, .inr (9, [.int (nI N), .int (nI B), .int (nI D), .ref a1, .ref a2, .ref a3, .ref a4, .ref a5, .ref a6])), (a4, .inl (G 0, 6, .inl (upd f4 B x1))), (a5, .inl (G 0, 6, .inl (upd f5 B x2))), (a6, .inl (G 0, 6, .inl f6))] H := hP
    have hD : va_D A [(h0, .inr (9, [.int (nI N), .int (nI B), .int (nI D), .ref a1, .ref a2, .ref a3, .ref a4, .ref a5, .ref a6])), (a4, .inl (G 0, 6, .inl (upd f4 B x1))), (a5, .inl (G 0, 6, .inl (upd f5 B x2))), (a6, .inl (G 0, 6, .inl f6))] := hD
    refine lv_aload_n hx hb dX9_addBearer_29 rfl (lv_at hl 0 rfl) ?_
    refine va_get (D := (dC, dI)) (ci := 9) (v := .ref a6) (C := RX9) (T := TX9) (N := 9) hx hb hg inG9 hown hK.1 hP 0 rfl rfl 8 (by decide) (hg _ wt_84) (fun _ h9 => h9) rfl dX9_addBearer_30 ?_
    refine lv_aload_n hx hb dX9_addBearer_33 rfl (lv_at hl 0 rfl) ?_
    refine va_get (D := (dC, dI)) (ci := 9) (v := .int (nI B)) (C := RX9) (T := TX9) (N := 9) hx hb hg inG9 hown hK.1 hP 0 rfl rfl 1 (by decide) (hg _ wt_62) (fun _ h9 => h9) rfl dX9_addBearer_34 ?_
    refine lv_iload_n hx hb dX9_addBearer_37 rfl (lv_at hl 3 rfl) ?_
    refine va_iast hx hb hK.1 hP hD hS 3 0 rfl rfl (vp_in_nI (by have t_n3 := n3; have t_n0 : (nI N).toInt = (N : Int) := nI_toInt (by omega); have t_n1 : (nI B).toInt = (B : Int) := nI_toInt (by omega); have t_n2 : (nI D).toInt = (D : Int) := nI_toInt (by omega); omega) (by decide)) dX9_addBearer_38 (fun H locs hP hD hS => ?_)
    rw [nI_clamp (by omega)] at hP hD
    have hP : va_P (dC, dI) vwCl [(h0, .inr (9, [.int (nI N), .int (nI B), .int (nI D), .ref a1, .ref a2, .ref a3, .ref a4, .ref a5, .ref a6])), (a4, .inl (G 0, 6, .inl (upd f4 B x1))), (a5, .inl (G 0, 6, .inl (upd f5 B x2))), (a6, .inl (G 0, 6, .inl (upd f6 B x3)))] H := hP
    have hD : va_D A [(h0, .inr (9, [.int (nI N), .int (nI B), .int (nI D), .ref a1, .ref a2, .ref a3, .ref a4, .ref a5, .ref a6])), (a4, .inl (G 0, 6, .inl (upd f4 B x1))), (a5, .inl (G 0, 6, .inl (upd f5 B x2))), (a6, .inl (G 0, 6, .inl (upd f6 B x3)))] := hD
    refine lv_aload_n hx hb dX9_addBearer_39 rfl (lv_at hl 0 rfl) ?_
    refine lv_dup hx hb dX9_addBearer_40 rfl ?_
    refine va_get (D := (dC, dI)) (ci := 9) (v := .int (nI B)) (C := RX9) (T := TX9) (N := 9) hx hb hg inG9 hown hK.1 hP 0 rfl rfl 1 (by decide) (hg _ wt_62) (fun _ h9 => h9) rfl dX9_addBearer_41 ?_
    refine lv_iconst (v := 1) hx hb dX9_addBearer_44 (by decide) ?_
    refine lv_iadd hx hb dX9_addBearer_45 ?_
    refine lv_cg (y := nI (B + 1)) (by rw [show (1 : Int32) = nI 1 from rfl]; exact nI_add _ _) ?_
    refine va_put (D := (dC, dI)) (ci := 9) (v := .int (nI (B + 1))) (ty := .int) (C := RX9) (T := TX9) (N := 9) hx hb hg inG9 tyX9 tyX9_ok nmX9 hown hK.1 hP hD hS 0 rfl rfl 1 (by decide) (hg _ wt_62) (fun _ h9 => h9) rfl (by decide +kernel) rfl rfl (Nat.le_of_ble_eq_true rfl) dX9_addBearer_46 (fun H locs hP hD hS => ?_)
    have hP : va_P (dC, dI) vwCl [(h0, .inr (9, [.int (nI N), .int (nI (B + 1)), .int (nI D), .ref a1, .ref a2, .ref a3, .ref a4, .ref a5, .ref a6])), (a4, .inl (G 0, 6, .inl (upd f4 B x1))), (a5, .inl (G 0, 6, .inl (upd f5 B x2))), (a6, .inl (G 0, 6, .inl (upd f6 B x3)))] H := hP
    have hD : va_D A [(h0, .inr (9, [.int (nI N), .int (nI (B + 1)), .int (nI D), .ref a1, .ref a2, .ref a3, .ref a4, .ref a5, .ref a6])), (a4, .inl (G 0, 6, .inl (upd f4 B x1))), (a5, .inl (G 0, 6, .inl (upd f5 B x2))), (a6, .inl (G 0, 6, .inl (upd f6 B x3)))] := hD
    have hP9 := hP.sub (ws' := [(h0, .inr (9, [.int (nI N), .int (nI (B + 1)), .int (nI D), .ref a1, .ref a2, .ref a3, .ref a4, .ref a5, .ref a6])), (a4, .inl (G 0, 6, .inl (upd f4 B x1))), (a5, .inl (G 0, 6, .inl (upd f5 B x2))), (a6, .inl (G 0, 6, .inl (upd f6 B x3)))]) [0, 1, 2, 3] rfl
    have hD9 := hD.sub (ws' := [(h0, .inr (9, [.int (nI N), .int (nI (B + 1)), .int (nI D), .ref a1, .ref a2, .ref a3, .ref a4, .ref a5, .ref a6])), (a4, .inl (G 0, 6, .inl (upd f4 B x1))), (a5, .inl (G 0, 6, .inl (upd f5 B x2))), (a6, .inl (G 0, 6, .inl (upd f6 B x3)))]) [0, 1, 2, 3] (by decide) rfl
    refine W.widen (k := 0) (n := 0) (by omega) (by omega) ?_
    exact W.vret hx hb hr (fun t ht hW => ⟨⟨((B + 1), (upd f4 B x1), (upd f5 B x2), (upd f6 B x3)), rfl, (by have t_n3 := n3; have t_n0 : (nI N).toInt = (N : Int) := nI_toInt (by omega); have t_n1 : (nI B).toInt = (B : Int) := nI_toInt (by omega); have t_n2 : (nI D).toInt = (D : Int) := nI_toInt (by omega); split <;> omega), ⟨by rw [ht]; exact hP9, hD9⟩⟩, hS.F ht⟩) hS.2.2 dX9_addBearer_49

set_option maxHeartbeats 1000000 in
set_option maxRecDepth 100000 in
theorem c_X9_clear (l : Launch) (dC : Nat → ClassId) (dI : Nat → Nat → Nat) (G : Nat → ClassId) (sz : Nat) (h0 a1 a2 a3 a4 a5 a6 : Nat) (x1 x2 x3 : Int32) (f3 : Nat → Int32)  : Met l yX9_clear (Cond.code yX9_clear cX9_clear 2 none :: GT) ({ frames := 0, cells := 0, slots := 0, locals := 0 } : Room) (PcW [.ref h0] dC dI G [(h0, .inr (9, [.int x1, .int x2, .int x3, .ref a1, .ref a2, .ref a3, .ref a4, .ref a5, .ref a6])), (a3, .inl (G 0, 10, .inl f3))] sz) (va_Qv (fun (u : (Nat → Int32)) => match u with | u0 => True) (fun (u : (Nat → Int32)) (t : State) => match u with | u0 => va_P (dC, dI) vwCl [(h0, .inr (9, [.int 0, .int 0, .int 5, .ref a1, .ref a2, .ref a3, .ref a4, .ref a5, .ref a6])), (a3, .inl (G 0, 10, .inl u0))] t.heap ∧ va_D (va_A [(h0, .inr (9, [.int x1, .int x2, .int x3, .ref a1, .ref a2, .ref a3, .ref a4, .ref a5, .ref a6])), (a3, .inl (G 0, 10, .inl f3))] sz) [(h0, .inr (9, [.int 0, .int 0, .int 5, .ref a1, .ref a2, .ref a3, .ref a4, .ref a5, .ref a6])), (a3, .inl (G 0, 10, .inl u0))]) (va_A [(h0, .inr (9, [.int x1, .int x2, .int x3, .ref a1, .ref a2, .ref a3, .ref a4, .ref a5, .ref a6])), (a3, .inl (G 0, 10, .inl f3))] sz)) 0 0 (va_A [(h0, .inr (9, [.int x1, .int x2, .int x3, .ref a1, .ref a2, .ref a3, .ref a4, .ref a5, .ref a6])), (a3, .inl (G 0, 10, .inl f3))] sz) := by
  refine Met.ofW (cc := cX9_clear) (maxL := 2) (ret := none) (by decide) rfl ?_
  intro p e s m args below meth c s₁ Bd hml hv
  obtain ⟨rfl, hsz, hP, hK, hD0⟩ := hv
  have hx := Bd.exec
  have hb := Bd.bytes
  have hr := Bd.returns
  have hg : ∀ w ∈ GT, w.before ([.ref h0] : List Value).toArray s = true := fun w h => atoms_spec (ws := Cond.code yX9_clear cX9_clear 2 none :: GT) Bd.pre w (List.mem_cons_of_mem _ h)
  have hown : s.vm.findClass RX9 = some m.cls := findClass_of_methodNamed Bd.named
  have hlocks := Bd.notSynchronized
  subst hsz
  have hD := hD0.self (sz := s.heap.size)
  generalize hAe : va_A [(h0, .inr (9, [.int x1, .int x2, .int x3, .ref a1, .ref a2, .ref a3, .ref a4, .ref a5, .ref a6])), (a3, .inl (G 0, 10, .inl f3))] s.heap.size = A at hD ⊢
  have hA : ∀ q : Nat, s.heap.size ≤ q → A q := fun q h => by rw [← hAe]; exact Or.inr h
  have hS : va_S A s.heap s.heap [] := va_S.rf
  have hl := lv_entry ([.ref h0]) (n := 2) (Nat.le_of_ble_eq_true rfl)
  rw [lg_entry_eq]
  generalize (lg_sl ([.ref h0]) ++ List.replicate (2 - (lg_sl ([.ref h0])).length) Slot.unset).toArray = ls at hl ⊢
  have hl : lv_has ls 2 [(0, .ref h0)] := hl
  refine lv_aload_n hx hb dX9_clear_0 rfl (lv_at hl 0 rfl) ?_
  refine lv_iconst (v := 0) hx hb dX9_clear_1 (by decide) ?_
  refine va_put (D := (dC, dI)) (ci := 9) (v := .int 0) (ty := .int) (C := RX9) (T := TX9) (N := 9) hx hb hg inG9 tyX9 tyX9_ok nmX9 hown hK.1 hP hD hS 0 rfl rfl 0 (by decide) (hg _ wt_56) (fun _ h9 => h9) rfl (by decide +kernel) rfl rfl (Nat.le_of_ble_eq_true rfl) dX9_clear_2 (fun H locs hP hD hS => ?_)
  have hP : va_P (dC, dI) vwCl [(h0, .inr (9, [.int 0, .int x2, .int x3, .ref a1, .ref a2, .ref a3, .ref a4, .ref a5, .ref a6])), (a3, .inl (G 0, 10, .inl f3))] H := hP
  have hD : va_D A [(h0, .inr (9, [.int 0, .int x2, .int x3, .ref a1, .ref a2, .ref a3, .ref a4, .ref a5, .ref a6])), (a3, .inl (G 0, 10, .inl f3))] := hD
  refine lv_aload_n hx hb dX9_clear_5 rfl (lv_at hl 0 rfl) ?_
  refine lv_iconst (v := 0) hx hb dX9_clear_6 (by decide) ?_
  refine va_put (D := (dC, dI)) (ci := 9) (v := .int 0) (ty := .int) (C := RX9) (T := TX9) (N := 9) hx hb hg inG9 tyX9 tyX9_ok nmX9 hown hK.1 hP hD hS 0 rfl rfl 1 (by decide) (hg _ wt_62) (fun _ h9 => h9) rfl (by decide +kernel) rfl rfl (Nat.le_of_ble_eq_true rfl) dX9_clear_7 (fun H locs hP hD hS => ?_)
  have hP : va_P (dC, dI) vwCl [(h0, .inr (9, [.int 0, .int 0, .int x3, .ref a1, .ref a2, .ref a3, .ref a4, .ref a5, .ref a6])), (a3, .inl (G 0, 10, .inl f3))] H := hP
  have hD : va_D A [(h0, .inr (9, [.int 0, .int 0, .int x3, .ref a1, .ref a2, .ref a3, .ref a4, .ref a5, .ref a6])), (a3, .inl (G 0, 10, .inl f3))] := hD
  refine lv_aload_n hx hb dX9_clear_10 rfl (lv_at hl 0 rfl) ?_
  refine lv_iconst (v := 5) hx hb dX9_clear_11 (by decide) ?_
  refine va_put (D := (dC, dI)) (ci := 9) (v := .int 5) (ty := .int) (C := RX9) (T := TX9) (N := 9) hx hb hg inG9 tyX9 tyX9_ok nmX9 hown hK.1 hP hD hS 0 rfl rfl 2 (by decide) (hg _ wt_66) (fun _ h9 => h9) rfl (by decide +kernel) rfl rfl (Nat.le_of_ble_eq_true rfl) dX9_clear_12 (fun H locs hP hD hS => ?_)
  have hP : va_P (dC, dI) vwCl [(h0, .inr (9, [.int 0, .int 0, .int 5, .ref a1, .ref a2, .ref a3, .ref a4, .ref a5, .ref a6])), (a3, .inl (G 0, 10, .inl f3))] H := hP
  have hD : va_D A [(h0, .inr (9, [.int 0, .int 0, .int 5, .ref a1, .ref a2, .ref a3, .ref a4, .ref a5, .ref a6])), (a3, .inl (G 0, 10, .inl f3))] := hD
  refine lv_iconst (v := 0) hx hb dX9_clear_15 (by decide) ?_
  refine lv_istore_n (lv' := [(1, .int 0), (0, .ref h0)]) hx hb dX9_clear_16 rfl hl (by decide) rfl (fun ls hl => ?_)
  have loop17_3 : ∀ (nf j1 : Nat), 10 + 1 ≤ j1 + nf → j1 ≤ 10 → ∀ (g2 : Nat → Int32) (H : Heap) (locs : List Loc), va_P (dC, dI) vwCl [(h0, .inr (9, [.int 0, .int 0, .int 5, .ref a1, .ref a2, .ref a3, .ref a4, .ref a5, .ref a6])), (a3, .inl (G 0, 10, .inl g2))] H → va_D A [(h0, .inr (9, [.int 0, .int 0, .int 5, .ref a1, .ref a2, .ref a3, .ref a4, .ref a5, .ref a6])), (a3, .inl (G 0, 10, .inl g2))] → va_S A s.heap H locs → ∀ (ls : Array Slot), lv_has ls 2 [(1, .int (nI j1)), (0, .ref h0)] → W p l e (headSpec (Cond.code yX9_clear cX9_clear 2 none :: GT) ({ frames := 0, cells := 0, slots := 0, locals := 0 } : Room)).room s m ([.ref h0] : List Value).toArray below meth c H locs 0 0 (MQ below (va_Qv (fun (u : (Nat → Int32)) => match u with | u0 => True) (fun (u : (Nat → Int32)) (t : State) => match u with | u0 => va_P (dC, dI) vwCl [(h0, .inr (9, [.int 0, .int 0, .int 5, .ref a1, .ref a2, .ref a3, .ref a4, .ref a5, .ref a6])), (a3, .inl (G 0, 10, .inl u0))] t.heap ∧ va_D A [(h0, .inr (9, [.int 0, .int 0, .int 5, .ref a1, .ref a2, .ref a3, .ref a4, .ref a5, .ref a6])), (a3, .inl (G 0, 10, .inl u0))]) A) ([.ref h0] : List Value).toArray s 0 0 A) (F0 m 17 ls []) := by
    intro nf
    induction nf with
    | zero => intro j1 h1 h2; exact absurd h1 (by omega)
    | succ nf ih17_3 =>
      intro j1 hn4 hj5 g2 H locs hP hD hS ls hl
      refine lv_iload_n hx hb dX9_clear_17 rfl (lv_at hl 0 rfl) ?_
      refine lv_bipush (v := 10) hx hb dX9_clear_18 (by decide) ?_
      refine lv_icmp_ge (tgt := 36) hx hb dX9_clear_20 (by decide) (fun c6 => ?_) (fun c6 => ?_)
      · skip
        have n7 : 10 ≤ j1 := by have t := leI c6; rw [nI_toInt (n := j1) (by omega)] at t; have : (10 : Int32).toInt = 10 := (by decide); omega
        have hP9 := hP.sub (ws' := [(h0, .inr (9, [.int 0, .int 0, .int 5, .ref a1, .ref a2, .ref a3, .ref a4, .ref a5, .ref a6])), (a3, .inl (G 0, 10, .inl g2))]) [0, 1] rfl
        have hD9 := hD.sub (ws' := [(h0, .inr (9, [.int 0, .int 0, .int 5, .ref a1, .ref a2, .ref a3, .ref a4, .ref a5, .ref a6])), (a3, .inl (G 0, 10, .inl g2))]) [0, 1] (by decide) rfl
        refine W.widen (k := 0) (n := 0) (by omega) (by omega) ?_
        exact W.vret hx hb hr (fun t ht hW => ⟨⟨g2, rfl, trivial, ⟨by rw [ht]; exact hP9, hD9⟩⟩, hS.F ht⟩) hS.2.2 dX9_clear_36
      · skip
        have n8 : j1 < 10 := by have t := nleI c6; rw [nI_toInt (n := j1) (by omega)] at t; have : (10 : Int32).toInt = 10 := (by decide); omega
        refine lv_aload_n hx hb dX9_clear_23 rfl (lv_at hl 1 rfl) ?_
        refine va_get (D := (dC, dI)) (ci := 9) (v := .ref a3) (C := RX9) (T := TX9) (N := 9) hx hb hg inG9 hown hK.1 hP 0 rfl rfl 5 (by decide) (hg _ wt_77) (fun _ h9 => h9) rfl dX9_clear_24 ?_
        refine lv_iload_n hx hb dX9_clear_27 rfl (lv_at hl 0 rfl) ?_
        refine lv_iconst (v := 0) hx hb dX9_clear_28 (by decide) ?_
        refine va_iast hx hb hK.1 hP hD hS 1 0 rfl rfl (vp_in_nI (by have t_hj5 := hj5; have t_n8 := n8; have t_n0 : (nI j1).toInt = (j1 : Int) := nI_toInt (by omega); omega) (by decide)) dX9_clear_29 (fun H locs hP hD hS => ?_)
        rw [nI_clamp (by omega)] at hP hD
        have hP : va_P (dC, dI) vwCl [(h0, .inr (9, [.int 0, .int 0, .int 5, .ref a1, .ref a2, .ref a3, .ref a4, .ref a5, .ref a6])), (a3, .inl (G 0, 10, .inl (upd g2 j1 0)))] H := hP
        have hD : va_D A [(h0, .inr (9, [.int 0, .int 0, .int 5, .ref a1, .ref a2, .ref a3, .ref a4, .ref a5, .ref a6])), (a3, .inl (G 0, 10, .inl (upd g2 j1 0)))] := hD
        refine lv_iinc (v := nI (j1 + 1)) (lv' := [(1, .int (nI (j1 + 1))), (0, .ref h0)]) hx hb dX9_clear_30 hl (k := 0) rfl (by rw [show Int32.ofInt 1 = nI 1 from by decide]; exact nI_add _ _) (by decide) rfl (fun ls hl => ?_)
        refine lv_goto (tgt := 17) hx hb dX9_clear_33 (by decide) ?_
        exact ih17_3 (j1 + 1) (by omega) (by omega) (upd g2 j1 0) _ _ hP hD hS ls (lv_sub hl [0, 1] rfl)
  exact loop17_3 (10 + 1) 0 (by omega) (by omega) f3 _ _ hP hD hS ls (lv_sub hl [0, 1] rfl)

set_option maxHeartbeats 1000000 in
set_option maxRecDepth 100000 in
theorem c_X9_copyOf (l : Launch) (dC : Nat → ClassId) (dI : Nat → Nat → Nat) (G : Nat → ClassId) (sz : Nat) (h0 o0 a1 a2 a3 a4 a5 a6 c1 c2 c3 c4 c5 c6 : Nat) (x1 x2 x3 y1 y2 y3 : Int32) (f1 f2 f3 f4 f5 f6 z1 z2 z3 z4 z5 z6 : Nat → Int32)  : Met l yX9_copyOf (Cond.code yX9_copyOf cX9_copyOf 2 none :: GT) ({ frames := 1, cells := 0, slots := 0, locals := 100 } : Room) (PcW [.ref h0, .ref o0] dC dI G [(h0, .inr (9, [.int x1, .int x2, .int x3, .ref a1, .ref a2, .ref a3, .ref a4, .ref a5, .ref a6])), (a1, .inl (G 0, 10, .inl f1)), (a2, .inl (G 0, 10, .inl f2)), (a3, .inl (G 0, 10, .inl f3)), (a4, .inl (G 0, 6, .inl f4)), (a5, .inl (G 0, 6, .inl f5)), (a6, .inl (G 0, 6, .inl f6)), (o0, .inr (9, [.int y1, .int y2, .int y3, .ref c1, .ref c2, .ref c3, .ref c4, .ref c5, .ref c6])), (c1, .inl (G 0, 10, .inl z1)), (c2, .inl (G 0, 10, .inl z2)), (c3, .inl (G 0, 10, .inl z3)), (c4, .inl (G 0, 6, .inl z4)), (c5, .inl (G 0, 6, .inl z5)), (c6, .inl (G 0, 6, .inl z6))] sz) (va_Qv (fun (u : (Nat → Int32) × (Nat → Int32) × (Nat → Int32) × (Nat → Int32) × (Nat → Int32) × (Nat → Int32)) => match u with | (u1, u2, u3, u4, u5, u6) => True) (fun (u : (Nat → Int32) × (Nat → Int32) × (Nat → Int32) × (Nat → Int32) × (Nat → Int32) × (Nat → Int32)) (t : State) => match u with | (u1, u2, u3, u4, u5, u6) => va_P (dC, dI) vwCl [(h0, .inr (9, [.int y1, .int y2, .int y3, .ref a1, .ref a2, .ref a3, .ref a4, .ref a5, .ref a6])), (a1, .inl (G 0, 10, .inl u1)), (a2, .inl (G 0, 10, .inl u2)), (a3, .inl (G 0, 10, .inl u3)), (a4, .inl (G 0, 6, .inl u4)), (a5, .inl (G 0, 6, .inl u5)), (a6, .inl (G 0, 6, .inl u6)), (o0, .inr (9, [.int y1, .int y2, .int y3, .ref c1, .ref c2, .ref c3, .ref c4, .ref c5, .ref c6])), (c1, .inl (G 0, 10, .inl z1)), (c2, .inl (G 0, 10, .inl z2)), (c3, .inl (G 0, 10, .inl z3)), (c4, .inl (G 0, 6, .inl z4)), (c5, .inl (G 0, 6, .inl z5)), (c6, .inl (G 0, 6, .inl z6))] t.heap ∧ va_D (va_A [(h0, .inr (9, [.int x1, .int x2, .int x3, .ref a1, .ref a2, .ref a3, .ref a4, .ref a5, .ref a6])), (a1, .inl (G 0, 10, .inl f1)), (a2, .inl (G 0, 10, .inl f2)), (a3, .inl (G 0, 10, .inl f3)), (a4, .inl (G 0, 6, .inl f4)), (a5, .inl (G 0, 6, .inl f5)), (a6, .inl (G 0, 6, .inl f6)), (o0, .inr (9, [.int y1, .int y2, .int y3, .ref c1, .ref c2, .ref c3, .ref c4, .ref c5, .ref c6])), (c1, .inl (G 0, 10, .inl z1)), (c2, .inl (G 0, 10, .inl z2)), (c3, .inl (G 0, 10, .inl z3)), (c4, .inl (G 0, 6, .inl z4)), (c5, .inl (G 0, 6, .inl z5)), (c6, .inl (G 0, 6, .inl z6))] sz) [(h0, .inr (9, [.int y1, .int y2, .int y3, .ref a1, .ref a2, .ref a3, .ref a4, .ref a5, .ref a6])), (a1, .inl (G 0, 10, .inl u1)), (a2, .inl (G 0, 10, .inl u2)), (a3, .inl (G 0, 10, .inl u3)), (a4, .inl (G 0, 6, .inl u4)), (a5, .inl (G 0, 6, .inl u5)), (a6, .inl (G 0, 6, .inl u6)), (o0, .inr (9, [.int y1, .int y2, .int y3, .ref c1, .ref c2, .ref c3, .ref c4, .ref c5, .ref c6])), (c1, .inl (G 0, 10, .inl z1)), (c2, .inl (G 0, 10, .inl z2)), (c3, .inl (G 0, 10, .inl z3)), (c4, .inl (G 0, 6, .inl z4)), (c5, .inl (G 0, 6, .inl z5)), (c6, .inl (G 0, 6, .inl z6))]) (va_A [(h0, .inr (9, [.int x1, .int x2, .int x3, .ref a1, .ref a2, .ref a3, .ref a4, .ref a5, .ref a6])), (a1, .inl (G 0, 10, .inl f1)), (a2, .inl (G 0, 10, .inl f2)), (a3, .inl (G 0, 10, .inl f3)), (a4, .inl (G 0, 6, .inl f4)), (a5, .inl (G 0, 6, .inl f5)), (a6, .inl (G 0, 6, .inl f6)), (o0, .inr (9, [.int y1, .int y2, .int y3, .ref c1, .ref c2, .ref c3, .ref c4, .ref c5, .ref c6])), (c1, .inl (G 0, 10, .inl z1)), (c2, .inl (G 0, 10, .inl z2)), (c3, .inl (G 0, 10, .inl z3)), (c4, .inl (G 0, 6, .inl z4)), (c5, .inl (G 0, 6, .inl z5)), (c6, .inl (G 0, 6, .inl z6))] sz)) 0 0 (va_A [(h0, .inr (9, [.int x1, .int x2, .int x3, .ref a1, .ref a2, .ref a3, .ref a4, .ref a5, .ref a6])), (a1, .inl (G 0, 10, .inl f1)), (a2, .inl (G 0, 10, .inl f2)), (a3, .inl (G 0, 10, .inl f3)), (a4, .inl (G 0, 6, .inl f4)), (a5, .inl (G 0, 6, .inl f5)), (a6, .inl (G 0, 6, .inl f6)), (o0, .inr (9, [.int y1, .int y2, .int y3, .ref c1, .ref c2, .ref c3, .ref c4, .ref c5, .ref c6])), (c1, .inl (G 0, 10, .inl z1)), (c2, .inl (G 0, 10, .inl z2)), (c3, .inl (G 0, 10, .inl z3)), (c4, .inl (G 0, 6, .inl z4)), (c5, .inl (G 0, 6, .inl z5)), (c6, .inl (G 0, 6, .inl z6))] sz) := by
  refine Met.ofW (cc := cX9_copyOf) (maxL := 2) (ret := none) (by decide) rfl ?_
  intro p e s m args below meth c s₁ Bd hml hv
  obtain ⟨rfl, hsz, hP, hK, hD0⟩ := hv
  have hx := Bd.exec
  have hb := Bd.bytes
  have hr := Bd.returns
  have hg : ∀ w ∈ GT, w.before ([.ref h0, .ref o0] : List Value).toArray s = true := fun w h => atoms_spec (ws := Cond.code yX9_copyOf cX9_copyOf 2 none :: GT) Bd.pre w (List.mem_cons_of_mem _ h)
  have hown : s.vm.findClass RX9 = some m.cls := findClass_of_methodNamed Bd.named
  have hlocks := Bd.notSynchronized
  subst hsz
  have hD := hD0.self (sz := s.heap.size)
  generalize hAe : va_A [(h0, .inr (9, [.int x1, .int x2, .int x3, .ref a1, .ref a2, .ref a3, .ref a4, .ref a5, .ref a6])), (a1, .inl (G 0, 10, .inl f1)), (a2, .inl (G 0, 10, .inl f2)), (a3, .inl (G 0, 10, .inl f3)), (a4, .inl (G 0, 6, .inl f4)), (a5, .inl (G 0, 6, .inl f5)), (a6, .inl (G 0, 6, .inl f6)), (o0, .inr (9, [.int y1, .int y2, .int y3, .ref c1, .ref c2, .ref c3, .ref c4, .ref c5, .ref c6])), (c1, .inl (G 0, 10, .inl z1)), (c2, .inl (G 0, 10, .inl z2)), (c3, .inl (G 0, 10, .inl z3)), (c4, .inl (G 0, 6, .inl z4)), (c5, .inl (G 0, 6, .inl z5)), (c6, .inl (G 0, 6, .inl z6))] s.heap.size = A at hD ⊢
  have hA : ∀ q : Nat, s.heap.size ≤ q → A q := fun q h => by rw [← hAe]; exact Or.inr h
  have hS : va_S A s.heap s.heap [] := va_S.rf
  have hl := lv_entry ([.ref h0, .ref o0]) (n := 2) (Nat.le_of_ble_eq_true rfl)
  rw [lg_entry_eq]
  generalize (lg_sl ([.ref h0, .ref o0]) ++ List.replicate (2 - (lg_sl ([.ref h0, .ref o0])).length) Slot.unset).toArray = ls at hl ⊢
  have hl : lv_has ls 2 [(0, .ref h0), (1, .ref o0)] := hl
  refine lv_aload_n hx hb dX9_copyOf_0 rfl (lv_at hl 0 rfl) ?_
  refine lv_aload_n hx hb dX9_copyOf_1 rfl (lv_at hl 1 rfl) ?_
  refine va_get (D := (dC, dI)) (ci := 9) (v := .int y1) (C := RX9) (T := TX9) (N := 9) hx hb hg inG9 hown hK.1 hP 7 rfl rfl 0 (by decide) (hg _ wt_56) (fun _ h9 => h9) rfl dX9_copyOf_2 ?_
  refine va_put (D := (dC, dI)) (ci := 9) (v := .int y1) (ty := .int) (C := RX9) (T := TX9) (N := 9) hx hb hg inG9 tyX9 tyX9_ok nmX9 hown hK.1 hP hD hS 0 rfl rfl 0 (by decide) (hg _ wt_56) (fun _ h9 => h9) rfl (by decide +kernel) rfl rfl (Nat.le_of_ble_eq_true rfl) dX9_copyOf_5 (fun H locs hP hD hS => ?_)
  have hP : va_P (dC, dI) vwCl [(h0, .inr (9, [.int y1, .int x2, .int x3, .ref a1, .ref a2, .ref a3, .ref a4, .ref a5, .ref a6])), (a1, .inl (G 0, 10, .inl f1)), (a2, .inl (G 0, 10, .inl f2)), (a3, .inl (G 0, 10, .inl f3)), (a4, .inl (G 0, 6, .inl f4)), (a5, .inl (G 0, 6, .inl f5)), (a6, .inl (G 0, 6, .inl f6)), (o0, .inr (9, [.int y1, .int y2, .int y3, .ref c1, .ref c2, .ref c3, .ref c4, .ref c5, .ref c6])), (c1, .inl (G 0, 10, .inl z1)), (c2, .inl (G 0, 10, .inl z2)), (c3, .inl (G 0, 10, .inl z3)), (c4, .inl (G 0, 6, .inl z4)), (c5, .inl (G 0, 6, .inl z5)), (c6, .inl (G 0, 6, .inl z6))] H := hP
  have hD : va_D A [(h0, .inr (9, [.int y1, .int x2, .int x3, .ref a1, .ref a2, .ref a3, .ref a4, .ref a5, .ref a6])), (a1, .inl (G 0, 10, .inl f1)), (a2, .inl (G 0, 10, .inl f2)), (a3, .inl (G 0, 10, .inl f3)), (a4, .inl (G 0, 6, .inl f4)), (a5, .inl (G 0, 6, .inl f5)), (a6, .inl (G 0, 6, .inl f6)), (o0, .inr (9, [.int y1, .int y2, .int y3, .ref c1, .ref c2, .ref c3, .ref c4, .ref c5, .ref c6])), (c1, .inl (G 0, 10, .inl z1)), (c2, .inl (G 0, 10, .inl z2)), (c3, .inl (G 0, 10, .inl z3)), (c4, .inl (G 0, 6, .inl z4)), (c5, .inl (G 0, 6, .inl z5)), (c6, .inl (G 0, 6, .inl z6))] := hD
  refine lv_aload_n hx hb dX9_copyOf_8 rfl (lv_at hl 0 rfl) ?_
  refine lv_aload_n hx hb dX9_copyOf_9 rfl (lv_at hl 1 rfl) ?_
  refine va_get (D := (dC, dI)) (ci := 9) (v := .int y2) (C := RX9) (T := TX9) (N := 9) hx hb hg inG9 hown hK.1 hP 7 rfl rfl 1 (by decide) (hg _ wt_62) (fun _ h9 => h9) rfl dX9_copyOf_10 ?_
  refine va_put (D := (dC, dI)) (ci := 9) (v := .int y2) (ty := .int) (C := RX9) (T := TX9) (N := 9) hx hb hg inG9 tyX9 tyX9_ok nmX9 hown hK.1 hP hD hS 0 rfl rfl 1 (by decide) (hg _ wt_62) (fun _ h9 => h9) rfl (by decide +kernel) rfl rfl (Nat.le_of_ble_eq_true rfl) dX9_copyOf_13 (fun H locs hP hD hS => ?_)
  have hP : va_P (dC, dI) vwCl [(h0, .inr (9, [.int y1, .int y2, .int x3, .ref a1, .ref a2, .ref a3, .ref a4, .ref a5, .ref a6])), (a1, .inl (G 0, 10, .inl f1)), (a2, .inl (G 0, 10, .inl f2)), (a3, .inl (G 0, 10, .inl f3)), (a4, .inl (G 0, 6, .inl f4)), (a5, .inl (G 0, 6, .inl f5)), (a6, .inl (G 0, 6, .inl f6)), (o0, .inr (9, [.int y1, .int y2, .int y3, .ref c1, .ref c2, .ref c3, .ref c4, .ref c5, .ref c6])), (c1, .inl (G 0, 10, .inl z1)), (c2, .inl (G 0, 10, .inl z2)), (c3, .inl (G 0, 10, .inl z3)), (c4, .inl (G 0, 6, .inl z4)), (c5, .inl (G 0, 6, .inl z5)), (c6, .inl (G 0, 6, .inl z6))] H := hP
  have hD : va_D A [(h0, .inr (9, [.int y1, .int y2, .int x3, .ref a1, .ref a2, .ref a3, .ref a4, .ref a5, .ref a6])), (a1, .inl (G 0, 10, .inl f1)), (a2, .inl (G 0, 10, .inl f2)), (a3, .inl (G 0, 10, .inl f3)), (a4, .inl (G 0, 6, .inl f4)), (a5, .inl (G 0, 6, .inl f5)), (a6, .inl (G 0, 6, .inl f6)), (o0, .inr (9, [.int y1, .int y2, .int y3, .ref c1, .ref c2, .ref c3, .ref c4, .ref c5, .ref c6])), (c1, .inl (G 0, 10, .inl z1)), (c2, .inl (G 0, 10, .inl z2)), (c3, .inl (G 0, 10, .inl z3)), (c4, .inl (G 0, 6, .inl z4)), (c5, .inl (G 0, 6, .inl z5)), (c6, .inl (G 0, 6, .inl z6))] := hD
  refine lv_aload_n hx hb dX9_copyOf_16 rfl (lv_at hl 0 rfl) ?_
  refine lv_aload_n hx hb dX9_copyOf_17 rfl (lv_at hl 1 rfl) ?_
  refine va_get (D := (dC, dI)) (ci := 9) (v := .int y3) (C := RX9) (T := TX9) (N := 9) hx hb hg inG9 hown hK.1 hP 7 rfl rfl 2 (by decide) (hg _ wt_66) (fun _ h9 => h9) rfl dX9_copyOf_18 ?_
  refine va_put (D := (dC, dI)) (ci := 9) (v := .int y3) (ty := .int) (C := RX9) (T := TX9) (N := 9) hx hb hg inG9 tyX9 tyX9_ok nmX9 hown hK.1 hP hD hS 0 rfl rfl 2 (by decide) (hg _ wt_66) (fun _ h9 => h9) rfl (by decide +kernel) rfl rfl (Nat.le_of_ble_eq_true rfl) dX9_copyOf_21 (fun H locs hP hD hS => ?_)
  have hP : va_P (dC, dI) vwCl [(h0, .inr (9, [.int y1, .int y2, .int y3, .ref a1, .ref a2, .ref a3, .ref a4, .ref a5, .ref a6])), (a1, .inl (G 0, 10, .inl f1)), (a2, .inl (G 0, 10, .inl f2)), (a3, .inl (G 0, 10, .inl f3)), (a4, .inl (G 0, 6, .inl f4)), (a5, .inl (G 0, 6, .inl f5)), (a6, .inl (G 0, 6, .inl f6)), (o0, .inr (9, [.int y1, .int y2, .int y3, .ref c1, .ref c2, .ref c3, .ref c4, .ref c5, .ref c6])), (c1, .inl (G 0, 10, .inl z1)), (c2, .inl (G 0, 10, .inl z2)), (c3, .inl (G 0, 10, .inl z3)), (c4, .inl (G 0, 6, .inl z4)), (c5, .inl (G 0, 6, .inl z5)), (c6, .inl (G 0, 6, .inl z6))] H := hP
  have hD : va_D A [(h0, .inr (9, [.int y1, .int y2, .int y3, .ref a1, .ref a2, .ref a3, .ref a4, .ref a5, .ref a6])), (a1, .inl (G 0, 10, .inl f1)), (a2, .inl (G 0, 10, .inl f2)), (a3, .inl (G 0, 10, .inl f3)), (a4, .inl (G 0, 6, .inl f4)), (a5, .inl (G 0, 6, .inl f5)), (a6, .inl (G 0, 6, .inl f6)), (o0, .inr (9, [.int y1, .int y2, .int y3, .ref c1, .ref c2, .ref c3, .ref c4, .ref c5, .ref c6])), (c1, .inl (G 0, 10, .inl z1)), (c2, .inl (G 0, 10, .inl z2)), (c3, .inl (G 0, 10, .inl z3)), (c4, .inl (G 0, 6, .inl z4)), (c5, .inl (G 0, 6, .inl z5)), (c6, .inl (G 0, 6, .inl z6))] := hD
  refine lv_aload_n hx hb dX9_copyOf_24 rfl (lv_at hl 1 rfl) ?_
  refine va_get (D := (dC, dI)) (ci := 9) (v := .ref c1) (C := RX9) (T := TX9) (N := 9) hx hb hg inG9 hown hK.1 hP 7 rfl rfl 3 (by decide) (hg _ wt_73) (fun _ h9 => h9) rfl dX9_copyOf_25 ?_
  refine lv_iconst (v := 0) hx hb dX9_copyOf_28 (by decide) ?_
  refine lv_aload_n hx hb dX9_copyOf_29 rfl (lv_at hl 0 rfl) ?_
  refine va_get (D := (dC, dI)) (ci := 9) (v := .ref a1) (C := RX9) (T := TX9) (N := 9) hx hb hg inG9 hown hK.1 hP 0 rfl rfl 3 (by decide) (hg _ wt_73) (fun _ h9 => h9) rfl dX9_copyOf_30 ?_
  refine lv_iconst (v := 0) hx hb dX9_copyOf_33 (by decide) ?_
  refine lv_bipush (v := 10) hx hb dX9_copyOf_34 (by decide) ?_
  refine va_copyi hx hb (by rw [hml]; exact hl.1.symm) hown (hg _ wt_511) (hg _ wt_513) (hg _ wt_512) (hg _ wt_18) hK.1 hP hD hS 8 1 0 0 rfl rfl rfl rfl rfl (by decide) (by decide) (by decide) (by decide) (by decide) (fun _ _ => rfl) (Nat.le_of_ble_eq_true rfl) (Nat.le_of_ble_eq_true rfl) dX9_copyOf_36 (fun H locs hP hD hS => ?_)
  have hP : va_P (dC, dI) vwCl [(h0, .inr (9, [.int y1, .int y2, .int y3, .ref a1, .ref a2, .ref a3, .ref a4, .ref a5, .ref a6])), (a1, .inl (G 0, 10, .inl (va_cpy z1 f1 0 0 10))), (a2, .inl (G 0, 10, .inl f2)), (a3, .inl (G 0, 10, .inl f3)), (a4, .inl (G 0, 6, .inl f4)), (a5, .inl (G 0, 6, .inl f5)), (a6, .inl (G 0, 6, .inl f6)), (o0, .inr (9, [.int y1, .int y2, .int y3, .ref c1, .ref c2, .ref c3, .ref c4, .ref c5, .ref c6])), (c1, .inl (G 0, 10, .inl z1)), (c2, .inl (G 0, 10, .inl z2)), (c3, .inl (G 0, 10, .inl z3)), (c4, .inl (G 0, 6, .inl z4)), (c5, .inl (G 0, 6, .inl z5)), (c6, .inl (G 0, 6, .inl z6))] H := hP
  have hD : va_D A [(h0, .inr (9, [.int y1, .int y2, .int y3, .ref a1, .ref a2, .ref a3, .ref a4, .ref a5, .ref a6])), (a1, .inl (G 0, 10, .inl (va_cpy z1 f1 0 0 10))), (a2, .inl (G 0, 10, .inl f2)), (a3, .inl (G 0, 10, .inl f3)), (a4, .inl (G 0, 6, .inl f4)), (a5, .inl (G 0, 6, .inl f5)), (a6, .inl (G 0, 6, .inl f6)), (o0, .inr (9, [.int y1, .int y2, .int y3, .ref c1, .ref c2, .ref c3, .ref c4, .ref c5, .ref c6])), (c1, .inl (G 0, 10, .inl z1)), (c2, .inl (G 0, 10, .inl z2)), (c3, .inl (G 0, 10, .inl z3)), (c4, .inl (G 0, 6, .inl z4)), (c5, .inl (G 0, 6, .inl z5)), (c6, .inl (G 0, 6, .inl z6))] := hD
  refine lv_aload_n hx hb dX9_copyOf_39 rfl (lv_at hl 1 rfl) ?_
  refine va_get (D := (dC, dI)) (ci := 9) (v := .ref c2) (C := RX9) (T := TX9) (N := 9) hx hb hg inG9 hown hK.1 hP 7 rfl rfl 4 (by decide) (hg _ wt_75) (fun _ h9 => h9) rfl dX9_copyOf_40 ?_
  refine lv_iconst (v := 0) hx hb dX9_copyOf_43 (by decide) ?_
  refine lv_aload_n hx hb dX9_copyOf_44 rfl (lv_at hl 0 rfl) ?_
  refine va_get (D := (dC, dI)) (ci := 9) (v := .ref a2) (C := RX9) (T := TX9) (N := 9) hx hb hg inG9 hown hK.1 hP 0 rfl rfl 4 (by decide) (hg _ wt_75) (fun _ h9 => h9) rfl dX9_copyOf_45 ?_
  refine lv_iconst (v := 0) hx hb dX9_copyOf_48 (by decide) ?_
  refine lv_bipush (v := 10) hx hb dX9_copyOf_49 (by decide) ?_
  refine va_copyi hx hb (by rw [hml]; exact hl.1.symm) hown (hg _ wt_511) (hg _ wt_513) (hg _ wt_512) (hg _ wt_18) hK.1 hP hD hS 9 2 0 0 rfl rfl rfl rfl rfl (by decide) (by decide) (by decide) (by decide) (by decide) (fun _ _ => rfl) (Nat.le_of_ble_eq_true rfl) (Nat.le_of_ble_eq_true rfl) dX9_copyOf_51 (fun H locs hP hD hS => ?_)
  have hP : va_P (dC, dI) vwCl [(h0, .inr (9, [.int y1, .int y2, .int y3, .ref a1, .ref a2, .ref a3, .ref a4, .ref a5, .ref a6])), (a1, .inl (G 0, 10, .inl (va_cpy z1 f1 0 0 10))), (a2, .inl (G 0, 10, .inl (va_cpy z2 f2 0 0 10))), (a3, .inl (G 0, 10, .inl f3)), (a4, .inl (G 0, 6, .inl f4)), (a5, .inl (G 0, 6, .inl f5)), (a6, .inl (G 0, 6, .inl f6)), (o0, .inr (9, [.int y1, .int y2, .int y3, .ref c1, .ref c2, .ref c3, .ref c4, .ref c5, .ref c6])), (c1, .inl (G 0, 10, .inl z1)), (c2, .inl (G 0, 10, .inl z2)), (c3, .inl (G 0, 10, .inl z3)), (c4, .inl (G 0, 6, .inl z4)), (c5, .inl (G 0, 6, .inl z5)), (c6, .inl (G 0, 6, .inl z6))] H := hP
  have hD : va_D A [(h0, .inr (9, [.int y1, .int y2, .int y3, .ref a1, .ref a2, .ref a3, .ref a4, .ref a5, .ref a6])), (a1, .inl (G 0, 10, .inl (va_cpy z1 f1 0 0 10))), (a2, .inl (G 0, 10, .inl (va_cpy z2 f2 0 0 10))), (a3, .inl (G 0, 10, .inl f3)), (a4, .inl (G 0, 6, .inl f4)), (a5, .inl (G 0, 6, .inl f5)), (a6, .inl (G 0, 6, .inl f6)), (o0, .inr (9, [.int y1, .int y2, .int y3, .ref c1, .ref c2, .ref c3, .ref c4, .ref c5, .ref c6])), (c1, .inl (G 0, 10, .inl z1)), (c2, .inl (G 0, 10, .inl z2)), (c3, .inl (G 0, 10, .inl z3)), (c4, .inl (G 0, 6, .inl z4)), (c5, .inl (G 0, 6, .inl z5)), (c6, .inl (G 0, 6, .inl z6))] := hD
  refine lv_aload_n hx hb dX9_copyOf_54 rfl (lv_at hl 1 rfl) ?_
  refine va_get (D := (dC, dI)) (ci := 9) (v := .ref c3) (C := RX9) (T := TX9) (N := 9) hx hb hg inG9 hown hK.1 hP 7 rfl rfl 5 (by decide) (hg _ wt_77) (fun _ h9 => h9) rfl dX9_copyOf_55 ?_
  refine lv_iconst (v := 0) hx hb dX9_copyOf_58 (by decide) ?_
  refine lv_aload_n hx hb dX9_copyOf_59 rfl (lv_at hl 0 rfl) ?_
  refine va_get (D := (dC, dI)) (ci := 9) (v := .ref a3) (C := RX9) (T := TX9) (N := 9) hx hb hg inG9 hown hK.1 hP 0 rfl rfl 5 (by decide) (hg _ wt_77) (fun _ h9 => h9) rfl dX9_copyOf_60 ?_
  refine lv_iconst (v := 0) hx hb dX9_copyOf_63 (by decide) ?_
  refine lv_bipush (v := 10) hx hb dX9_copyOf_64 (by decide) ?_
  refine va_copyi hx hb (by rw [hml]; exact hl.1.symm) hown (hg _ wt_511) (hg _ wt_513) (hg _ wt_512) (hg _ wt_18) hK.1 hP hD hS 10 3 0 0 rfl rfl rfl rfl rfl (by decide) (by decide) (by decide) (by decide) (by decide) (fun _ _ => rfl) (Nat.le_of_ble_eq_true rfl) (Nat.le_of_ble_eq_true rfl) dX9_copyOf_66 (fun H locs hP hD hS => ?_)
  have hP : va_P (dC, dI) vwCl [(h0, .inr (9, [.int y1, .int y2, .int y3, .ref a1, .ref a2, .ref a3, .ref a4, .ref a5, .ref a6])), (a1, .inl (G 0, 10, .inl (va_cpy z1 f1 0 0 10))), (a2, .inl (G 0, 10, .inl (va_cpy z2 f2 0 0 10))), (a3, .inl (G 0, 10, .inl (va_cpy z3 f3 0 0 10))), (a4, .inl (G 0, 6, .inl f4)), (a5, .inl (G 0, 6, .inl f5)), (a6, .inl (G 0, 6, .inl f6)), (o0, .inr (9, [.int y1, .int y2, .int y3, .ref c1, .ref c2, .ref c3, .ref c4, .ref c5, .ref c6])), (c1, .inl (G 0, 10, .inl z1)), (c2, .inl (G 0, 10, .inl z2)), (c3, .inl (G 0, 10, .inl z3)), (c4, .inl (G 0, 6, .inl z4)), (c5, .inl (G 0, 6, .inl z5)), (c6, .inl (G 0, 6, .inl z6))] H := hP
  have hD : va_D A [(h0, .inr (9, [.int y1, .int y2, .int y3, .ref a1, .ref a2, .ref a3, .ref a4, .ref a5, .ref a6])), (a1, .inl (G 0, 10, .inl (va_cpy z1 f1 0 0 10))), (a2, .inl (G 0, 10, .inl (va_cpy z2 f2 0 0 10))), (a3, .inl (G 0, 10, .inl (va_cpy z3 f3 0 0 10))), (a4, .inl (G 0, 6, .inl f4)), (a5, .inl (G 0, 6, .inl f5)), (a6, .inl (G 0, 6, .inl f6)), (o0, .inr (9, [.int y1, .int y2, .int y3, .ref c1, .ref c2, .ref c3, .ref c4, .ref c5, .ref c6])), (c1, .inl (G 0, 10, .inl z1)), (c2, .inl (G 0, 10, .inl z2)), (c3, .inl (G 0, 10, .inl z3)), (c4, .inl (G 0, 6, .inl z4)), (c5, .inl (G 0, 6, .inl z5)), (c6, .inl (G 0, 6, .inl z6))] := hD
  refine lv_aload_n hx hb dX9_copyOf_69 rfl (lv_at hl 1 rfl) ?_
  refine va_get (D := (dC, dI)) (ci := 9) (v := .ref c4) (C := RX9) (T := TX9) (N := 9) hx hb hg inG9 hown hK.1 hP 7 rfl rfl 6 (by decide) (hg _ wt_80) (fun _ h9 => h9) rfl dX9_copyOf_70 ?_
  refine lv_iconst (v := 0) hx hb dX9_copyOf_73 (by decide) ?_
  refine lv_aload_n hx hb dX9_copyOf_74 rfl (lv_at hl 0 rfl) ?_
  refine va_get (D := (dC, dI)) (ci := 9) (v := .ref a4) (C := RX9) (T := TX9) (N := 9) hx hb hg inG9 hown hK.1 hP 0 rfl rfl 6 (by decide) (hg _ wt_80) (fun _ h9 => h9) rfl dX9_copyOf_75 ?_
  refine lv_iconst (v := 0) hx hb dX9_copyOf_78 (by decide) ?_
  refine lv_bipush (v := 6) hx hb dX9_copyOf_79 (by decide) ?_
  refine va_copyi hx hb (by rw [hml]; exact hl.1.symm) hown (hg _ wt_511) (hg _ wt_513) (hg _ wt_512) (hg _ wt_18) hK.1 hP hD hS 11 4 0 0 rfl rfl rfl rfl rfl (by decide) (by decide) (by decide) (by decide) (by decide) (fun _ _ => rfl) (Nat.le_of_ble_eq_true rfl) (Nat.le_of_ble_eq_true rfl) dX9_copyOf_81 (fun H locs hP hD hS => ?_)
  have hP : va_P (dC, dI) vwCl [(h0, .inr (9, [.int y1, .int y2, .int y3, .ref a1, .ref a2, .ref a3, .ref a4, .ref a5, .ref a6])), (a1, .inl (G 0, 10, .inl (va_cpy z1 f1 0 0 10))), (a2, .inl (G 0, 10, .inl (va_cpy z2 f2 0 0 10))), (a3, .inl (G 0, 10, .inl (va_cpy z3 f3 0 0 10))), (a4, .inl (G 0, 6, .inl (va_cpy z4 f4 0 0 6))), (a5, .inl (G 0, 6, .inl f5)), (a6, .inl (G 0, 6, .inl f6)), (o0, .inr (9, [.int y1, .int y2, .int y3, .ref c1, .ref c2, .ref c3, .ref c4, .ref c5, .ref c6])), (c1, .inl (G 0, 10, .inl z1)), (c2, .inl (G 0, 10, .inl z2)), (c3, .inl (G 0, 10, .inl z3)), (c4, .inl (G 0, 6, .inl z4)), (c5, .inl (G 0, 6, .inl z5)), (c6, .inl (G 0, 6, .inl z6))] H := hP
  have hD : va_D A [(h0, .inr (9, [.int y1, .int y2, .int y3, .ref a1, .ref a2, .ref a3, .ref a4, .ref a5, .ref a6])), (a1, .inl (G 0, 10, .inl (va_cpy z1 f1 0 0 10))), (a2, .inl (G 0, 10, .inl (va_cpy z2 f2 0 0 10))), (a3, .inl (G 0, 10, .inl (va_cpy z3 f3 0 0 10))), (a4, .inl (G 0, 6, .inl (va_cpy z4 f4 0 0 6))), (a5, .inl (G 0, 6, .inl f5)), (a6, .inl (G 0, 6, .inl f6)), (o0, .inr (9, [.int y1, .int y2, .int y3, .ref c1, .ref c2, .ref c3, .ref c4, .ref c5, .ref c6])), (c1, .inl (G 0, 10, .inl z1)), (c2, .inl (G 0, 10, .inl z2)), (c3, .inl (G 0, 10, .inl z3)), (c4, .inl (G 0, 6, .inl z4)), (c5, .inl (G 0, 6, .inl z5)), (c6, .inl (G 0, 6, .inl z6))] := hD
  refine lv_aload_n hx hb dX9_copyOf_84 rfl (lv_at hl 1 rfl) ?_
  refine va_get (D := (dC, dI)) (ci := 9) (v := .ref c5) (C := RX9) (T := TX9) (N := 9) hx hb hg inG9 hown hK.1 hP 7 rfl rfl 7 (by decide) (hg _ wt_82) (fun _ h9 => h9) rfl dX9_copyOf_85 ?_
  refine lv_iconst (v := 0) hx hb dX9_copyOf_88 (by decide) ?_
  refine lv_aload_n hx hb dX9_copyOf_89 rfl (lv_at hl 0 rfl) ?_
  refine va_get (D := (dC, dI)) (ci := 9) (v := .ref a5) (C := RX9) (T := TX9) (N := 9) hx hb hg inG9 hown hK.1 hP 0 rfl rfl 7 (by decide) (hg _ wt_82) (fun _ h9 => h9) rfl dX9_copyOf_90 ?_
  refine lv_iconst (v := 0) hx hb dX9_copyOf_93 (by decide) ?_
  refine lv_bipush (v := 6) hx hb dX9_copyOf_94 (by decide) ?_
  refine va_copyi hx hb (by rw [hml]; exact hl.1.symm) hown (hg _ wt_511) (hg _ wt_513) (hg _ wt_512) (hg _ wt_18) hK.1 hP hD hS 12 5 0 0 rfl rfl rfl rfl rfl (by decide) (by decide) (by decide) (by decide) (by decide) (fun _ _ => rfl) (Nat.le_of_ble_eq_true rfl) (Nat.le_of_ble_eq_true rfl) dX9_copyOf_96 (fun H locs hP hD hS => ?_)
  have hP : va_P (dC, dI) vwCl [(h0, .inr (9, [.int y1, .int y2, .int y3, .ref a1, .ref a2, .ref a3, .ref a4, .ref a5, .ref a6])), (a1, .inl (G 0, 10, .inl (va_cpy z1 f1 0 0 10))), (a2, .inl (G 0, 10, .inl (va_cpy z2 f2 0 0 10))), (a3, .inl (G 0, 10, .inl (va_cpy z3 f3 0 0 10))), (a4, .inl (G 0, 6, .inl (va_cpy z4 f4 0 0 6))), (a5, .inl (G 0, 6, .inl (va_cpy z5 f5 0 0 6))), (a6, .inl (G 0, 6, .inl f6)), (o0, .inr (9, [.int y1, .int y2, .int y3, .ref c1, .ref c2, .ref c3, .ref c4, .ref c5, .ref c6])), (c1, .inl (G 0, 10, .inl z1)), (c2, .inl (G 0, 10, .inl z2)), (c3, .inl (G 0, 10, .inl z3)), (c4, .inl (G 0, 6, .inl z4)), (c5, .inl (G 0, 6, .inl z5)), (c6, .inl (G 0, 6, .inl z6))] H := hP
  have hD : va_D A [(h0, .inr (9, [.int y1, .int y2, .int y3, .ref a1, .ref a2, .ref a3, .ref a4, .ref a5, .ref a6])), (a1, .inl (G 0, 10, .inl (va_cpy z1 f1 0 0 10))), (a2, .inl (G 0, 10, .inl (va_cpy z2 f2 0 0 10))), (a3, .inl (G 0, 10, .inl (va_cpy z3 f3 0 0 10))), (a4, .inl (G 0, 6, .inl (va_cpy z4 f4 0 0 6))), (a5, .inl (G 0, 6, .inl (va_cpy z5 f5 0 0 6))), (a6, .inl (G 0, 6, .inl f6)), (o0, .inr (9, [.int y1, .int y2, .int y3, .ref c1, .ref c2, .ref c3, .ref c4, .ref c5, .ref c6])), (c1, .inl (G 0, 10, .inl z1)), (c2, .inl (G 0, 10, .inl z2)), (c3, .inl (G 0, 10, .inl z3)), (c4, .inl (G 0, 6, .inl z4)), (c5, .inl (G 0, 6, .inl z5)), (c6, .inl (G 0, 6, .inl z6))] := hD
  refine lv_aload_n hx hb dX9_copyOf_99 rfl (lv_at hl 1 rfl) ?_
  refine va_get (D := (dC, dI)) (ci := 9) (v := .ref c6) (C := RX9) (T := TX9) (N := 9) hx hb hg inG9 hown hK.1 hP 7 rfl rfl 8 (by decide) (hg _ wt_84) (fun _ h9 => h9) rfl dX9_copyOf_100 ?_
  refine lv_iconst (v := 0) hx hb dX9_copyOf_103 (by decide) ?_
  refine lv_aload_n hx hb dX9_copyOf_104 rfl (lv_at hl 0 rfl) ?_
  refine va_get (D := (dC, dI)) (ci := 9) (v := .ref a6) (C := RX9) (T := TX9) (N := 9) hx hb hg inG9 hown hK.1 hP 0 rfl rfl 8 (by decide) (hg _ wt_84) (fun _ h9 => h9) rfl dX9_copyOf_105 ?_
  refine lv_iconst (v := 0) hx hb dX9_copyOf_108 (by decide) ?_
  refine lv_bipush (v := 6) hx hb dX9_copyOf_109 (by decide) ?_
  refine va_copyi hx hb (by rw [hml]; exact hl.1.symm) hown (hg _ wt_511) (hg _ wt_513) (hg _ wt_512) (hg _ wt_18) hK.1 hP hD hS 13 6 0 0 rfl rfl rfl rfl rfl (by decide) (by decide) (by decide) (by decide) (by decide) (fun _ _ => rfl) (Nat.le_of_ble_eq_true rfl) (Nat.le_of_ble_eq_true rfl) dX9_copyOf_111 (fun H locs hP hD hS => ?_)
  have hP : va_P (dC, dI) vwCl [(h0, .inr (9, [.int y1, .int y2, .int y3, .ref a1, .ref a2, .ref a3, .ref a4, .ref a5, .ref a6])), (a1, .inl (G 0, 10, .inl (va_cpy z1 f1 0 0 10))), (a2, .inl (G 0, 10, .inl (va_cpy z2 f2 0 0 10))), (a3, .inl (G 0, 10, .inl (va_cpy z3 f3 0 0 10))), (a4, .inl (G 0, 6, .inl (va_cpy z4 f4 0 0 6))), (a5, .inl (G 0, 6, .inl (va_cpy z5 f5 0 0 6))), (a6, .inl (G 0, 6, .inl (va_cpy z6 f6 0 0 6))), (o0, .inr (9, [.int y1, .int y2, .int y3, .ref c1, .ref c2, .ref c3, .ref c4, .ref c5, .ref c6])), (c1, .inl (G 0, 10, .inl z1)), (c2, .inl (G 0, 10, .inl z2)), (c3, .inl (G 0, 10, .inl z3)), (c4, .inl (G 0, 6, .inl z4)), (c5, .inl (G 0, 6, .inl z5)), (c6, .inl (G 0, 6, .inl z6))] H := hP
  have hD : va_D A [(h0, .inr (9, [.int y1, .int y2, .int y3, .ref a1, .ref a2, .ref a3, .ref a4, .ref a5, .ref a6])), (a1, .inl (G 0, 10, .inl (va_cpy z1 f1 0 0 10))), (a2, .inl (G 0, 10, .inl (va_cpy z2 f2 0 0 10))), (a3, .inl (G 0, 10, .inl (va_cpy z3 f3 0 0 10))), (a4, .inl (G 0, 6, .inl (va_cpy z4 f4 0 0 6))), (a5, .inl (G 0, 6, .inl (va_cpy z5 f5 0 0 6))), (a6, .inl (G 0, 6, .inl (va_cpy z6 f6 0 0 6))), (o0, .inr (9, [.int y1, .int y2, .int y3, .ref c1, .ref c2, .ref c3, .ref c4, .ref c5, .ref c6])), (c1, .inl (G 0, 10, .inl z1)), (c2, .inl (G 0, 10, .inl z2)), (c3, .inl (G 0, 10, .inl z3)), (c4, .inl (G 0, 6, .inl z4)), (c5, .inl (G 0, 6, .inl z5)), (c6, .inl (G 0, 6, .inl z6))] := hD
  have hP9 := hP.sub (ws' := [(h0, .inr (9, [.int y1, .int y2, .int y3, .ref a1, .ref a2, .ref a3, .ref a4, .ref a5, .ref a6])), (a1, .inl (G 0, 10, .inl (va_cpy z1 f1 0 0 10))), (a2, .inl (G 0, 10, .inl (va_cpy z2 f2 0 0 10))), (a3, .inl (G 0, 10, .inl (va_cpy z3 f3 0 0 10))), (a4, .inl (G 0, 6, .inl (va_cpy z4 f4 0 0 6))), (a5, .inl (G 0, 6, .inl (va_cpy z5 f5 0 0 6))), (a6, .inl (G 0, 6, .inl (va_cpy z6 f6 0 0 6))), (o0, .inr (9, [.int y1, .int y2, .int y3, .ref c1, .ref c2, .ref c3, .ref c4, .ref c5, .ref c6])), (c1, .inl (G 0, 10, .inl z1)), (c2, .inl (G 0, 10, .inl z2)), (c3, .inl (G 0, 10, .inl z3)), (c4, .inl (G 0, 6, .inl z4)), (c5, .inl (G 0, 6, .inl z5)), (c6, .inl (G 0, 6, .inl z6))]) [0, 1, 2, 3, 4, 5, 6, 7, 8, 9, 10, 11, 12, 13] rfl
  have hD9 := hD.sub (ws' := [(h0, .inr (9, [.int y1, .int y2, .int y3, .ref a1, .ref a2, .ref a3, .ref a4, .ref a5, .ref a6])), (a1, .inl (G 0, 10, .inl (va_cpy z1 f1 0 0 10))), (a2, .inl (G 0, 10, .inl (va_cpy z2 f2 0 0 10))), (a3, .inl (G 0, 10, .inl (va_cpy z3 f3 0 0 10))), (a4, .inl (G 0, 6, .inl (va_cpy z4 f4 0 0 6))), (a5, .inl (G 0, 6, .inl (va_cpy z5 f5 0 0 6))), (a6, .inl (G 0, 6, .inl (va_cpy z6 f6 0 0 6))), (o0, .inr (9, [.int y1, .int y2, .int y3, .ref c1, .ref c2, .ref c3, .ref c4, .ref c5, .ref c6])), (c1, .inl (G 0, 10, .inl z1)), (c2, .inl (G 0, 10, .inl z2)), (c3, .inl (G 0, 10, .inl z3)), (c4, .inl (G 0, 6, .inl z4)), (c5, .inl (G 0, 6, .inl z5)), (c6, .inl (G 0, 6, .inl z6))]) [0, 1, 2, 3, 4, 5, 6, 7, 8, 9, 10, 11, 12, 13] (by decide) rfl
  refine W.widen (k := 0) (n := 0) (by omega) (by omega) ?_
  exact W.vret hx hb hr (fun t ht hW => ⟨⟨((va_cpy z1 f1 0 0 10), (va_cpy z2 f2 0 0 10), (va_cpy z3 f3 0 0 10), (va_cpy z4 f4 0 0 6), (va_cpy z5 f5 0 0 6), (va_cpy z6 f6 0 0 6)), rfl, trivial, ⟨by rw [ht]; exact hP9, hD9⟩⟩, hS.F ht⟩) hS.2.2 dX9_copyOf_114

set_option maxHeartbeats 1000000 in
set_option maxRecDepth 100000 in
theorem c_X9_exchange (l : Launch) (dC : Nat → ClassId) (dI : Nat → Nat → Nat) (G : Nat → ClassId) (sz : Nat) (h0 a1 a2 a3 a4 a5 a6 N B D : Nat) (i k : Int32) (f3 : Nat → Int32) (hN_N : N ≤ 10) (hB_B : B ≤ 6) (hD_D : 1 ≤ D ∧ D ≤ 9) : Met l yX9_exchange (Cond.code yX9_exchange cX9_exchange 4 none :: GT) ({ frames := 1, cells := 0, slots := 0, locals := 21 } : Room) (PcW [.ref h0, .int i, .int k] dC dI G [(h0, .inr (9, [.int (nI N), .int (nI B), .int (nI D), .ref a1, .ref a2, .ref a3, .ref a4, .ref a5, .ref a6])), (a3, .inl (G 0, 10, .inl f3))] sz) (va_Qv (fun (u : (Nat → Int32)) => match u with | u0 => True) (fun (u : (Nat → Int32)) (t : State) => match u with | u0 => va_P (dC, dI) vwCl [(h0, .inr (9, [.int (nI N), .int (nI B), .int (nI D), .ref a1, .ref a2, .ref a3, .ref a4, .ref a5, .ref a6])), (a3, .inl (G 0, 10, .inl u0))] t.heap ∧ va_D (va_A [(h0, .inr (9, [.int (nI N), .int (nI B), .int (nI D), .ref a1, .ref a2, .ref a3, .ref a4, .ref a5, .ref a6])), (a3, .inl (G 0, 10, .inl f3))] sz) [(h0, .inr (9, [.int (nI N), .int (nI B), .int (nI D), .ref a1, .ref a2, .ref a3, .ref a4, .ref a5, .ref a6])), (a3, .inl (G 0, 10, .inl u0))]) (va_A [(h0, .inr (9, [.int (nI N), .int (nI B), .int (nI D), .ref a1, .ref a2, .ref a3, .ref a4, .ref a5, .ref a6])), (a3, .inl (G 0, 10, .inl f3))] sz)) 0 0 (va_A [(h0, .inr (9, [.int (nI N), .int (nI B), .int (nI D), .ref a1, .ref a2, .ref a3, .ref a4, .ref a5, .ref a6])), (a3, .inl (G 0, 10, .inl f3))] sz) := by
  refine Met.ofW (cc := cX9_exchange) (maxL := 4) (ret := none) (by decide) rfl ?_
  intro p e s m args below meth c s₁ Bd hml hv
  obtain ⟨rfl, hsz, hP, hK, hD0⟩ := hv
  have hx := Bd.exec
  have hb := Bd.bytes
  have hr := Bd.returns
  have hg : ∀ w ∈ GT, w.before ([.ref h0, .int i, .int k] : List Value).toArray s = true := fun w h => atoms_spec (ws := Cond.code yX9_exchange cX9_exchange 4 none :: GT) Bd.pre w (List.mem_cons_of_mem _ h)
  have hown : s.vm.findClass RX9 = some m.cls := findClass_of_methodNamed Bd.named
  have hlocks := Bd.notSynchronized
  subst hsz
  have hD := hD0.self (sz := s.heap.size)
  generalize hAe : va_A [(h0, .inr (9, [.int (nI N), .int (nI B), .int (nI D), .ref a1, .ref a2, .ref a3, .ref a4, .ref a5, .ref a6])), (a3, .inl (G 0, 10, .inl f3))] s.heap.size = A at hD ⊢
  have hA : ∀ q : Nat, s.heap.size ≤ q → A q := fun q h => by rw [← hAe]; exact Or.inr h
  have hS : va_S A s.heap s.heap [] := va_S.rf
  have hl := lv_entry ([.ref h0, .int i, .int k]) (n := 4) (Nat.le_of_ble_eq_true rfl)
  rw [lg_entry_eq]
  generalize (lg_sl ([.ref h0, .int i, .int k]) ++ List.replicate (4 - (lg_sl ([.ref h0, .int i, .int k])).length) Slot.unset).toArray = ls at hl ⊢
  have hl : lv_has ls 4 [(0, .ref h0), (1, .int i), (2, .int k)] := hl
  refine lv_aload_n hx hb dX9_exchange_0 rfl (lv_at hl 0 rfl) ?_
  refine lv_iload_n hx hb dX9_exchange_1 rfl (lv_at hl 1 rfl) ?_
  have hPc := hP.sub (ws' := [(h0, .inr (9, [.int (nI N), .int (nI B), .int (nI D), .ref a1, .ref a2, .ref a3, .ref a4, .ref a5, .ref a6]))]) [0] rfl
  refine va_calli (va_runV (As := [.int i]) (rest := []) ⟨hx, hb, hml, hown, hg⟩ (c_X9_hasStretch l dC dI G _ h0 a1 a2 a3 a4 a5 a6 N B D i (by have t_n0 : (nI N).toInt = (N : Int) := nI_toInt (by omega); have t_n1 : (nI B).toInt = (B : Int) := nI_toInt (by omega); have t_n2 : (nI D).toInt = (D : Int) := nI_toInt (by omega); omega) (by have t_n0 : (nI N).toInt = (N : Int) := nI_toInt (by omega); have t_n1 : (nI B).toInt = (B : Int) := nI_toInt (by omega); have t_n2 : (nI D).toInt = (D : Int) := nI_toInt (by omega); omega) (by have t_n0 : (nI N).toInt = (N : Int) := nI_toInt (by omega); have t_n1 : (nI B).toInt = (B : Int) := nI_toInt (by omega); have t_n2 : (nI D).toInt = (D : Int) := nI_toInt (by omega); omega)) (kwV hg mfX9_hasStretch wt_574 ⟨Nat.le_of_ble_eq_true rfl, Nat.le_of_ble_eq_true rfl⟩) (preVR hK hPc (ci := 9) rfl rfl) rfl rfl hl.1 rfl (lv_room (Nat.le_of_ble_eq_true rfl)) dX9_exchange_2 ⟨Nat.le_of_ble_eq_true rfl, Nat.le_of_ble_eq_true rfl⟩) hS (fun q h1 h2 => absurd h2 (Nat.not_le.mpr h1)) (fun q h => hA q (Nat.le_trans hS.1 h)) (fun r1 ur1 t H1 locs ht hvm w2 hB hz1 hk1 hS => ?_)
  have hP := keepR hP hk1
  obtain ⟨w2, w2x⟩ := w2
  try simp only [l_ii, show (0 : Int32).toInt = 0 from by decide] at w2
  try rw [nI_toInt (n := N) (by omega)] at w2
  subst w2
  refine lv_if_eq (tgt := 42) hx hb dX9_exchange_5 (by decide) (fun c3 => ?_) (fun c3 => ?_)
  · skip
    have b4 := if10_n c3
    have hP9 := hP.sub (ws' := [(h0, .inr (9, [.int (nI N), .int (nI B), .int (nI D), .ref a1, .ref a2, .ref a3, .ref a4, .ref a5, .ref a6])), (a3, .inl (G 0, 10, .inl f3))]) [0, 1] rfl
    have hD9 := hD.sub (ws' := [(h0, .inr (9, [.int (nI N), .int (nI B), .int (nI D), .ref a1, .ref a2, .ref a3, .ref a4, .ref a5, .ref a6])), (a3, .inl (G 0, 10, .inl f3))]) [0, 1] (by decide) rfl
    refine W.widen (k := 0) (n := 0) (by omega) (by omega) ?_
    exact W.vret hx hb hr (fun t ht hW => ⟨⟨f3, rfl, trivial, ⟨by rw [ht]; exact hP9, hD9⟩⟩, hS.F ht⟩) hS.2.2 dX9_exchange_42
  · skip
    have b5 := if10_p c3
    refine lv_aload_n hx hb dX9_exchange_8 rfl (lv_at hl 0 rfl) ?_
    refine lv_iload_n hx hb dX9_exchange_9 rfl (lv_at hl 2 rfl) ?_
    have hPc := hP.sub (ws' := [(h0, .inr (9, [.int (nI N), .int (nI B), .int (nI D), .ref a1, .ref a2, .ref a3, .ref a4, .ref a5, .ref a6]))]) [0] rfl
    refine va_calli (va_runV (As := [.int k]) (rest := []) ⟨hx, hb, hml, hown, hg⟩ (c_X9_hasStretch l dC dI G _ h0 a1 a2 a3 a4 a5 a6 N B D k (by have t_b5 := b5; have t_n0 : (nI N).toInt = (N : Int) := nI_toInt (by omega); have t_n1 : (nI B).toInt = (B : Int) := nI_toInt (by omega); have t_n2 : (nI D).toInt = (D : Int) := nI_toInt (by omega); omega) (by have t_b5 := b5; have t_n0 : (nI N).toInt = (N : Int) := nI_toInt (by omega); have t_n1 : (nI B).toInt = (B : Int) := nI_toInt (by omega); have t_n2 : (nI D).toInt = (D : Int) := nI_toInt (by omega); omega) (by have t_b5 := b5; have t_n0 : (nI N).toInt = (N : Int) := nI_toInt (by omega); have t_n1 : (nI B).toInt = (B : Int) := nI_toInt (by omega); have t_n2 : (nI D).toInt = (D : Int) := nI_toInt (by omega); omega)) (kwV hg mfX9_hasStretch wt_574 ⟨Nat.le_of_ble_eq_true rfl, Nat.le_of_ble_eq_true rfl⟩) (preVR hK hPc (ci := 9) rfl rfl) rfl rfl hl.1 rfl (lv_room (Nat.le_of_ble_eq_true rfl)) dX9_exchange_10 ⟨Nat.le_of_ble_eq_true rfl, Nat.le_of_ble_eq_true rfl⟩) hS (fun q h1 h2 => absurd h2 (Nat.not_le.mpr h1)) (fun q h => hA q (Nat.le_trans hS.1 h)) (fun r6 ur6 t H1 locs ht hvm w7 hB hz1 hk1 hS => ?_)
    have hP := keepR hP hk1
    obtain ⟨w7, w7x⟩ := w7
    try simp only [l_ii, show (0 : Int32).toInt = 0 from by decide] at w7
    try rw [nI_toInt (n := N) (by omega)] at w7
    subst w7
    refine lv_if_eq (tgt := 42) hx hb dX9_exchange_13 (by decide) (fun c8 => ?_) (fun c8 => ?_)
    · skip
      have b9 := if10_n c8
      have hP9 := hP.sub (ws' := [(h0, .inr (9, [.int (nI N), .int (nI B), .int (nI D), .ref a1, .ref a2, .ref a3, .ref a4, .ref a5, .ref a6])), (a3, .inl (G 0, 10, .inl f3))]) [0, 1] rfl
      have hD9 := hD.sub (ws' := [(h0, .inr (9, [.int (nI N), .int (nI B), .int (nI D), .ref a1, .ref a2, .ref a3, .ref a4, .ref a5, .ref a6])), (a3, .inl (G 0, 10, .inl f3))]) [0, 1] (by decide) rfl
      refine W.widen (k := 0) (n := 0) (by omega) (by omega) ?_
      exact W.vret hx hb hr (fun t ht hW => ⟨⟨f3, rfl, trivial, ⟨by rw [ht]; exact hP9, hD9⟩⟩, hS.F ht⟩) hS.2.2 dX9_exchange_42
    · skip
      have b10 := if10_p c8
      refine lv_aload_n hx hb dX9_exchange_16 rfl (lv_at hl 0 rfl) ?_
      refine va_get (D := (dC, dI)) (ci := 9) (v := .ref a3) (C := RX9) (T := TX9) (N := 9) hx hb hg inG9 hown hK.1 hP 0 rfl rfl 5 (by decide) (hg _ wt_77) (fun _ h9 => h9) rfl dX9_exchange_17 ?_
      refine lv_iload_n hx hb dX9_exchange_20 rfl (lv_at hl 1 rfl) ?_
      refine va_iald hx hb hK.1 hP 1 0 rfl rfl (vp_in_iff.mpr (by have t_b5 := b5; have t_b10 := b10; have t_n0 : (nI N).toInt = (N : Int) := nI_toInt (by omega); have t_n1 : (nI B).toInt = (B : Int) := nI_toInt (by omega); have t_n2 : (nI D).toInt = (D : Int) := nI_toInt (by omega); constructor <;> omega)) dX9_exchange_21 ?_
      refine lv_istore_n (lv' := [(3, .int (f3 i.toNatClampNeg)), (0, .ref h0), (1, .int i), (2, .int k)]) hx hb dX9_exchange_22 rfl hl (by decide) rfl (fun ls hl => ?_)
      refine lv_aload_n hx hb dX9_exchange_23 rfl (lv_at hl 1 rfl) ?_
      refine va_get (D := (dC, dI)) (ci := 9) (v := .ref a3) (C := RX9) (T := TX9) (N := 9) hx hb hg inG9 hown hK.1 hP 0 rfl rfl 5 (by decide) (hg _ wt_77) (fun _ h9 => h9) rfl dX9_exchange_24 ?_
      refine lv_iload_n hx hb dX9_exchange_27 rfl (lv_at hl 2 rfl) ?_
      refine lv_aload_n hx hb dX9_exchange_28 rfl (lv_at hl 1 rfl) ?_
      refine va_get (D := (dC, dI)) (ci := 9) (v := .ref a3) (C := RX9) (T := TX9) (N := 9) hx hb hg inG9 hown hK.1 hP 0 rfl rfl 5 (by decide) (hg _ wt_77) (fun _ h9 => h9) rfl dX9_exchange_29 ?_
      refine lv_iload_n hx hb dX9_exchange_32 rfl (lv_at hl 3 rfl) ?_
      refine va_iald hx hb hK.1 hP 1 0 rfl rfl (vp_in_iff.mpr (by have t_b5 := b5; have t_b10 := b10; have t_n0 : (nI N).toInt = (N : Int) := nI_toInt (by omega); have t_n1 : (nI B).toInt = (B : Int) := nI_toInt (by omega); have t_n2 : (nI D).toInt = (D : Int) := nI_toInt (by omega); constructor <;> omega)) dX9_exchange_33 ?_
      refine va_iast hx hb hK.1 hP hD hS 1 0 rfl rfl (vp_in_iff.mpr (by have t_b5 := b5; have t_b10 := b10; have t_n0 : (nI N).toInt = (N : Int) := nI_toInt (by omega); have t_n1 : (nI B).toInt = (B : Int) := nI_toInt (by omega); have t_n2 : (nI D).toInt = (D : Int) := nI_toInt (by omega); constructor <;> omega)) dX9_exchange_34 (fun H locs hP hD hS => ?_)
      have hP : va_P (dC, dI) vwCl [(h0, .inr (9, [.int (nI N), .int (nI B), .int (nI D), .ref a1, .ref a2, .ref a3, .ref a4, .ref a5, .ref a6])), (a3, .inl (G 0, 10, .inl (upd f3 i.toNatClampNeg (f3 k.toNatClampNeg))))] H := hP
      have hD : va_D A [(h0, .inr (9, [.int (nI N), .int (nI B), .int (nI D), .ref a1, .ref a2, .ref a3, .ref a4, .ref a5, .ref a6])), (a3, .inl (G 0, 10, .inl (upd f3 i.toNatClampNeg (f3 k.toNatClampNeg))))] := hD
      refine lv_aload_n hx hb dX9_exchange_35 rfl (lv_at hl 1 rfl) ?_
      refine va_get (D := (dC, dI)) (ci := 9) (v := .ref a3) (C := RX9) (T := TX9) (N := 9) hx hb hg inG9 hown hK.1 hP 0 rfl rfl 5 (by decide) (hg _ wt_77) (fun _ h9 => h9) rfl dX9_exchange_36 ?_
      refine lv_iload_n hx hb dX9_exchange_39 rfl (lv_at hl 3 rfl) ?_
      refine lv_iload_n hx hb dX9_exchange_40 rfl (lv_at hl 0 rfl) ?_
      refine va_iast hx hb hK.1 hP hD hS 1 0 rfl rfl (vp_in_iff.mpr (by have t_b5 := b5; have t_b10 := b10; have t_n0 : (nI N).toInt = (N : Int) := nI_toInt (by omega); have t_n1 : (nI B).toInt = (B : Int) := nI_toInt (by omega); have t_n2 : (nI D).toInt = (D : Int) := nI_toInt (by omega); constructor <;> omega)) dX9_exchange_41 (fun H locs hP hD hS => ?_)
      have hP : va_P (dC, dI) vwCl [(h0, .inr (9, [.int (nI N), .int (nI B), .int (nI D), .ref a1, .ref a2, .ref a3, .ref a4, .ref a5, .ref a6])), (a3, .inl (G 0, 10, .inl (upd (upd f3 i.toNatClampNeg (f3 k.toNatClampNeg)) k.toNatClampNeg (f3 i.toNatClampNeg))))] H := hP
      have hD : va_D A [(h0, .inr (9, [.int (nI N), .int (nI B), .int (nI D), .ref a1, .ref a2, .ref a3, .ref a4, .ref a5, .ref a6])), (a3, .inl (G 0, 10, .inl (upd (upd f3 i.toNatClampNeg (f3 k.toNatClampNeg)) k.toNatClampNeg (f3 i.toNatClampNeg))))] := hD
      have hP9 := hP.sub (ws' := [(h0, .inr (9, [.int (nI N), .int (nI B), .int (nI D), .ref a1, .ref a2, .ref a3, .ref a4, .ref a5, .ref a6])), (a3, .inl (G 0, 10, .inl (upd (upd f3 i.toNatClampNeg (f3 k.toNatClampNeg)) k.toNatClampNeg (f3 i.toNatClampNeg))))]) [0, 1] rfl
      have hD9 := hD.sub (ws' := [(h0, .inr (9, [.int (nI N), .int (nI B), .int (nI D), .ref a1, .ref a2, .ref a3, .ref a4, .ref a5, .ref a6])), (a3, .inl (G 0, 10, .inl (upd (upd f3 i.toNatClampNeg (f3 k.toNatClampNeg)) k.toNatClampNeg (f3 i.toNatClampNeg))))]) [0, 1] (by decide) rfl
      refine W.widen (k := 0) (n := 0) (by omega) (by omega) ?_
      exact W.vret hx hb hr (fun t ht hW => ⟨⟨(upd (upd f3 i.toNatClampNeg (f3 k.toNatClampNeg)) k.toNatClampNeg (f3 i.toNatClampNeg)), rfl, trivial, ⟨by rw [ht]; exact hP9, hD9⟩⟩, hS.F ht⟩) hS.2.2 dX9_exchange_42

set_option maxHeartbeats 1000000 in
set_option maxRecDepth 100000 in
theorem c_X9_handOvers (l : Launch) (dC : Nat → ClassId) (dI : Nat → Nat → Nat) (G : Nat → ClassId) (sz : Nat) (h0 a1 a2 a3 a4 a5 a6 N B D : Nat) (f3 : Nat → Int32) (hN_N : N ≤ 10) (hB_B : B ≤ 6) (hD_D : 1 ≤ D ∧ D ≤ 9) : Met l yX9_handOvers (Cond.code yX9_handOvers cX9_handOvers 3 (some .int) :: GT) ({ frames := 0, cells := 0, slots := 0, locals := 0 } : Room) (PcR [.ref h0] dC dI G [(h0, .inr (9, [.int (nI N), .int (nI B), .int (nI D), .ref a1, .ref a2, .ref a3, .ref a4, .ref a5, .ref a6])), (a3, .inl (G 0, 10, .inl f3))] sz) (va_Qi (fun (r : Int32) (u : Unit) => match u with | _ => (True) ∧ True) (fun _ _ => True) (fun q : Nat => sz ≤ q)) 0 0 (fun q : Nat => sz ≤ q) := by
  refine Met.ofW (cc := cX9_handOvers) (maxL := 3) (ret := (some .int)) (by decide) rfl ?_
  intro p e s m args below meth c s₁ Bd hml hv
  obtain ⟨rfl, hsz, hP, hK⟩ := hv
  have hx := Bd.exec
  have hb := Bd.bytes
  have hr := Bd.returns
  have hg : ∀ w ∈ GT, w.before ([.ref h0] : List Value).toArray s = true := fun w h => atoms_spec (ws := Cond.code yX9_handOvers cX9_handOvers 3 (some .int) :: GT) Bd.pre w (List.mem_cons_of_mem _ h)
  have hown : s.vm.findClass RX9 = some m.cls := findClass_of_methodNamed Bd.named
  have hlocks := Bd.notSynchronized
  subst hsz
  have hA : ∀ q : Nat, s.heap.size ≤ q → (fun q : Nat => s.heap.size ≤ q) q := fun _ h => h
  have hS : va_S (fun q : Nat => s.heap.size ≤ q) s.heap s.heap [] := va_S.rf
  have hl := lv_entry ([.ref h0]) (n := 3) (Nat.le_of_ble_eq_true rfl)
  rw [lg_entry_eq]
  generalize (lg_sl ([.ref h0]) ++ List.replicate (3 - (lg_sl ([.ref h0])).length) Slot.unset).toArray = ls at hl ⊢
  have hl : lv_has ls 3 [(0, .ref h0)] := hl
  refine lv_iconst (v := 0) hx hb dX9_handOvers_0 (by decide) ?_
  refine lv_istore_n (lv' := [(1, .int 0), (0, .ref h0)]) hx hb dX9_handOvers_1 rfl hl (by decide) rfl (fun ls hl => ?_)
  refine lv_iconst (v := 1) hx hb dX9_handOvers_2 (by decide) ?_
  refine lv_istore_n (lv' := [(2, .int 1), (1, .int 0), (0, .ref h0)]) hx hb dX9_handOvers_3 rfl hl (by decide) rfl (fun ls hl => ?_)
  have loop4_3 : ∀ (nf j1 : Nat), 10 + 1 ≤ j1 + nf → j1 ≤ 10 → 1 ≤ j1 → ∀ (y2 : Int32) (H : Heap) (locs : List Loc), va_P (dC, dI) vwCl [(h0, .inr (9, [.int (nI N), .int (nI B), .int (nI D), .ref a1, .ref a2, .ref a3, .ref a4, .ref a5, .ref a6])), (a3, .inl (G 0, 10, .inl f3))] H → va_S (fun q : Nat => s.heap.size ≤ q) s.heap H locs → ∀ (ls : Array Slot), lv_has ls 3 [(2, .int (nI j1)), (1, .int y2), (0, .ref h0)] → W p l e (headSpec (Cond.code yX9_handOvers cX9_handOvers 3 (some .int) :: GT) ({ frames := 0, cells := 0, slots := 0, locals := 0 } : Room)).room s m ([.ref h0] : List Value).toArray below meth c H locs 0 0 (MQ below (va_Qi (fun (r : Int32) (u : Unit) => match u with | _ => (True) ∧ True) (fun _ _ => True) (fun q : Nat => s.heap.size ≤ q)) ([.ref h0] : List Value).toArray s 0 0 (fun q : Nat => s.heap.size ≤ q)) (F0 m 4 ls []) := by
    intro nf
    induction nf with
    | zero => intro j1 h1 h2; exact absurd h1 (by omega)
    | succ nf ih4_3 =>
      intro j1 hn4 hj5 hlo_j1 y2 H locs hP hS ls hl
      refine lv_iload_n hx hb dX9_handOvers_4 rfl (lv_at hl 0 rfl) ?_
      refine lv_aload_n hx hb dX9_handOvers_5 rfl (lv_at hl 2 rfl) ?_
      refine va_get (D := (dC, dI)) (ci := 9) (v := .int (nI N)) (C := RX9) (T := TX9) (N := 9) hx hb hg inG9 hown hK.1 hP 0 rfl rfl 0 (by decide) (hg _ wt_56) (fun _ h9 => h9) rfl dX9_handOvers_6 ?_
      refine lv_icmp_ge (tgt := 38) hx hb dX9_handOvers_9 (by decide) (fun c6 => ?_) (fun c6 => ?_)
      · skip
        have n7 : N ≤ j1 := by have t := leI c6; rw [nI_toInt (n := j1) (by omega)] at t; rw [nI_toInt (n := N) (by omega)] at t; omega
        refine lv_iload_n hx hb dX9_handOvers_38 rfl (lv_at hl 1 rfl) ?_
        have hpost : True := by
          trivial
        refine W.widen (k := 0) (n := 0) (by omega) (by omega) ?_
        exact W.iret (v := y2) hx hb hr (fun t ht hW => ⟨⟨y2, (), rfl, ⟨hpost, trivial⟩, trivial⟩, hS.F ht⟩) hS.2.2 dX9_handOvers_39
      · skip
        have n8 : j1 < N := by have t := nleI c6; rw [nI_toInt (n := j1) (by omega)] at t; rw [nI_toInt (n := N) (by omega)] at t; omega
        refine lv_aload_n hx hb dX9_handOvers_12 rfl (lv_at hl 2 rfl) ?_
        refine va_get (D := (dC, dI)) (ci := 9) (v := .ref a3) (C := RX9) (T := TX9) (N := 9) hx hb hg inG9 hown hK.1 hP 0 rfl rfl 5 (by decide) (hg _ wt_77) (fun _ h9 => h9) rfl dX9_handOvers_13 ?_
        refine lv_iload_n hx hb dX9_handOvers_16 rfl (lv_at hl 0 rfl) ?_
        refine va_iald hx hb hK.1 hP 1 0 rfl rfl (vp_in_nI (by have t_hj5 := hj5; have t_hlo_j1 := hlo_j1; have t_n8 := n8; have t_n0 : (nI N).toInt = (N : Int) := nI_toInt (by omega); have t_n1 : (nI B).toInt = (B : Int) := nI_toInt (by omega); have t_n2 : (nI D).toInt = (D : Int) := nI_toInt (by omega); have t_n3 : (nI j1).toInt = (j1 : Int) := nI_toInt (by omega); omega) (by decide)) dX9_handOvers_17 ?_
        refine lv_cg (y := f3 j1) (by rw [nI_clamp (by omega)]) ?_
        refine lv_aload_n hx hb dX9_handOvers_18 rfl (lv_at hl 2 rfl) ?_
        refine va_get (D := (dC, dI)) (ci := 9) (v := .ref a3) (C := RX9) (T := TX9) (N := 9) hx hb hg inG9 hown hK.1 hP 0 rfl rfl 5 (by decide) (hg _ wt_77) (fun _ h9 => h9) rfl dX9_handOvers_19 ?_
        refine lv_iload_n hx hb dX9_handOvers_22 rfl (lv_at hl 0 rfl) ?_
        refine lv_iconst (v := 1) hx hb dX9_handOvers_23 (by decide) ?_
        refine lv_isub hx hb dX9_handOvers_24 ?_
        refine lv_cg (y := nI (j1 - 1)) (by rw [show (1 : Int32) = nI 1 from rfl]; exact pk_sub (by have t_hj5 := hj5; have t_hlo_j1 := hlo_j1; have t_n8 := n8; have t_n0 : (nI N).toInt = (N : Int) := nI_toInt (by omega); have t_n1 : (nI B).toInt = (B : Int) := nI_toInt (by omega); have t_n2 : (nI D).toInt = (D : Int) := nI_toInt (by omega); have t_n3 : (nI j1).toInt = (j1 : Int) := nI_toInt (by omega); omega)) ?_
        refine va_iald hx hb hK.1 hP 1 0 rfl rfl (vp_in_nI (by have t_hj5 := hj5; have t_hlo_j1 := hlo_j1; have t_n8 := n8; have t_n0 : (nI N).toInt = (N : Int) := nI_toInt (by omega); have t_n1 : (nI B).toInt = (B : Int) := nI_toInt (by omega); have t_n2 : (nI D).toInt = (D : Int) := nI_toInt (by omega); have t_n3 : (nI j1).toInt = (j1 : Int) := nI_toInt (by omega); omega) (by decide)) dX9_handOvers_25 ?_
        refine lv_cg (y := f3 (j1 - 1)) (by rw [nI_clamp (by omega)]) ?_
        have cut32_10 : ∀ (y9 : Int32) (H : Heap) (locs : List Loc), va_P (dC, dI) vwCl [(h0, .inr (9, [.int (nI N), .int (nI B), .int (nI D), .ref a1, .ref a2, .ref a3, .ref a4, .ref a5, .ref a6])), (a3, .inl (G 0, 10, .inl f3))] H → va_S (fun q : Nat => s.heap.size ≤ q) s.heap H locs → ∀ (ls : Array Slot), lv_has ls 3 [(2, .int (nI j1)), (1, .int y9), (0, .ref h0)] → W p l e (headSpec (Cond.code yX9_handOvers cX9_handOvers 3 (some .int) :: GT) ({ frames := 0, cells := 0, slots := 0, locals := 0 } : Room)).room s m ([.ref h0] : List Value).toArray below meth c H locs 0 0 (MQ below (va_Qi (fun (r : Int32) (u : Unit) => match u with | _ => (True) ∧ True) (fun _ _ => True) (fun q : Nat => s.heap.size ≤ q)) ([.ref h0] : List Value).toArray s 0 0 (fun q : Nat => s.heap.size ≤ q)) (F0 m 32 ls []) := by
          intro y9 H locs hP hS ls hl
          refine lv_iinc (v := nI (j1 + 1)) (lv' := [(2, .int (nI (j1 + 1))), (1, .int y9), (0, .ref h0)]) hx hb dX9_handOvers_32 hl (k := 0) rfl (by rw [show Int32.ofInt 1 = nI 1 from by decide]; exact nI_add _ _) (by decide) rfl (fun ls hl => ?_)
          refine lv_goto (tgt := 4) hx hb dX9_handOvers_35 (by decide) ?_
          exact ih4_3 (j1 + 1) (by omega) (by omega) (by omega) y9 _ _ hP hS ls (lv_sub hl [0, 1, 2] rfl)
        refine lv_icmp_eq (tgt := 32) hx hb dX9_handOvers_26 (by decide) (fun c11 => ?_) (fun c11 => ?_)
        · skip
          exact cut32_10 y2 _ _ hP hS ls (lv_sub hl [0, 1, 2] rfl)
        · skip
          refine lv_iinc (v := y2 + 1) (lv' := [(1, .int (y2 + 1)), (2, .int (nI j1)), (0, .ref h0)]) hx hb dX9_handOvers_29 hl (k := 1) rfl (rfl) (by decide) rfl (fun ls hl => ?_)
          exact cut32_10 (y2 + 1) _ _ hP hS ls (lv_sub hl [1, 0, 2] rfl)
  exact loop4_3 (10 + 1) 1 (by omega) (by omega) (by omega) 0 _ _ hP hS ls (lv_sub hl [0, 1, 2] rfl)

set_option maxHeartbeats 1000000 in
set_option maxRecDepth 100000 in
theorem c_X6_fill (l : Launch) (dC : Nat → ClassId) (dI : Nat → Nat → Nat) (G : Nat → ClassId) (sz : Nat) (h0 la si ce fi se k : Nat) (x8 x9 i x1 : Int32) (fl fz : Nat → Int32) (rc : Nat → Nat) (F : Nat → Nat → Int32) (hk : k < 4) (hz : ∀ q : Nat, q < 4 → 0 ≤ (fz q).toInt ∧ (fz q).toInt ≤ 40) : Met l yX6_fill (Cond.code yX6_fill cX6_fill 4 none :: GT) ({ frames := 1, cells := 0, slots := 0, locals := 23 } : Room) (PcW [.ref h0, .int (nI k), .int i, .int x1] dC dI G (([(h0, .inr (6, [.ref la, .ref si, .ref ce, .int x8, .int x9, .ref fi, .ref se])), (la, .inl (G 0, 4, .inl fl)), (si, .inl (G 0, 4, .inl fz)), (ce, .inl (G 4, 4, .inr (.inr (.inr (.inr (fun ir => if ir < 4 then some (rc ir) else none))))))] : va_W) ++ ((((List.range 4).map (fun iq => (rc iq, .inl (G 0, 40, .inl (F iq))))) : va_W) ++ [])) sz) (va_Qv (fun (u : (Nat → Nat → Int32)) => match u with | u0 => True) (fun (u : (Nat → Nat → Int32)) (t : State) => match u with | u0 => va_P (dC, dI) vwCl (([(h0, .inr (6, [.ref la, .ref si, .ref ce, .int x8, .int x9, .ref fi, .ref se])), (la, .inl (G 0, 4, .inl fl)), (si, .inl (G 0, 4, .inl fz)), (ce, .inl (G 4, 4, .inr (.inr (.inr (.inr (fun ir => if ir < 4 then some (rc ir) else none))))))] : va_W) ++ ((((List.range 4).map (fun iq => (rc iq, .inl (G 0, 40, .inl (u0 iq))))) : va_W) ++ [])) t.heap ∧ va_D (va_A (([(h0, .inr (6, [.ref la, .ref si, .ref ce, .int x8, .int x9, .ref fi, .ref se])), (la, .inl (G 0, 4, .inl fl)), (si, .inl (G 0, 4, .inl fz)), (ce, .inl (G 4, 4, .inr (.inr (.inr (.inr (fun ir => if ir < 4 then some (rc ir) else none))))))] : va_W) ++ ((((List.range 4).map (fun iq => (rc iq, .inl (G 0, 40, .inl (F iq))))) : va_W) ++ [])) sz) (([(h0, .inr (6, [.ref la, .ref si, .ref ce, .int x8, .int x9, .ref fi, .ref se])), (la, .inl (G 0, 4, .inl fl)), (si, .inl (G 0, 4, .inl fz)), (ce, .inl (G 4, 4, .inr (.inr (.inr (.inr (fun ir => if ir < 4 then some (rc ir) else none))))))] : va_W) ++ ((((List.range 4).map (fun iq => (rc iq, .inl (G 0, 40, .inl (u0 iq))))) : va_W) ++ []))) (va_A (([(h0, .inr (6, [.ref la, .ref si, .ref ce, .int x8, .int x9, .ref fi, .ref se])), (la, .inl (G 0, 4, .inl fl)), (si, .inl (G 0, 4, .inl fz)), (ce, .inl (G 4, 4, .inr (.inr (.inr (.inr (fun ir => if ir < 4 then some (rc ir) else none))))))] : va_W) ++ ((((List.range 4).map (fun iq => (rc iq, .inl (G 0, 40, .inl (F iq))))) : va_W) ++ [])) sz)) 0 0 (va_A (([(h0, .inr (6, [.ref la, .ref si, .ref ce, .int x8, .int x9, .ref fi, .ref se])), (la, .inl (G 0, 4, .inl fl)), (si, .inl (G 0, 4, .inl fz)), (ce, .inl (G 4, 4, .inr (.inr (.inr (.inr (fun ir => if ir < 4 then some (rc ir) else none))))))] : va_W) ++ ((((List.range 4).map (fun iq => (rc iq, .inl (G 0, 40, .inl (F iq))))) : va_W) ++ [])) sz) := by
  refine Met.ofW (cc := cX6_fill) (maxL := 4) (ret := none) (by decide) rfl ?_
  intro p e s m args below meth c s₁ Bd hml hv
  obtain ⟨rfl, hsz, hP, hK, hD0⟩ := hv
  have hx := Bd.exec
  have hb := Bd.bytes
  have hr := Bd.returns
  have hg : ∀ w ∈ GT, w.before ([.ref h0, .int (nI k), .int i, .int x1] : List Value).toArray s = true := fun w h => atoms_spec (ws := Cond.code yX6_fill cX6_fill 4 none :: GT) Bd.pre w (List.mem_cons_of_mem _ h)
  have hown : s.vm.findClass RX6 = some m.cls := findClass_of_methodNamed Bd.named
  have hlocks := Bd.notSynchronized
  subst hsz
  have hD := hD0.self (sz := s.heap.size)
  generalize hAe : va_A (([(h0, .inr (6, [.ref la, .ref si, .ref ce, .int x8, .int x9, .ref fi, .ref se])), (la, .inl (G 0, 4, .inl fl)), (si, .inl (G 0, 4, .inl fz)), (ce, .inl (G 4, 4, .inr (.inr (.inr (.inr (fun ir => if ir < 4 then some (rc ir) else none))))))] : va_W) ++ ((((List.range 4).map (fun iq => (rc iq, .inl (G 0, 40, .inl (F iq))))) : va_W) ++ [])) s.heap.size = A at hD ⊢
  have hA : ∀ q : Nat, s.heap.size ≤ q → A q := fun q h => by rw [← hAe]; exact Or.inr h
  have hS : va_S A s.heap s.heap [] := va_S.rf
  have hl := lv_entry ([.ref h0, .int (nI k), .int i, .int x1]) (n := 4) (Nat.le_of_ble_eq_true rfl)
  rw [lg_entry_eq]
  generalize (lg_sl ([.ref h0, .int (nI k), .int i, .int x1]) ++ List.replicate (4 - (lg_sl ([.ref h0, .int (nI k), .int i, .int x1])).length) Slot.unset).toArray = ls at hl ⊢
  have hl : lv_has ls 4 [(0, .ref h0), (1, .int (nI k)), (2, .int i), (3, .int x1)] := hl
  have hzk := hz k hk
  have lii := l_ii i
  refine lv_aload_n hx hb dX6_fill_0 rfl (lv_at hl 0 rfl) ?_
  refine lv_iload_n hx hb dX6_fill_1 rfl (lv_at hl 1 rfl) ?_
  refine lv_iload_n hx hb dX6_fill_2 rfl (lv_at hl 2 rfl) ?_
  refine lv_i2l (v := i.toInt64) hx hb dX6_fill_3 rfl ?_
  have hPc := hP.sub (ws' := [(h0, .inr (6, [.ref la, .ref si, .ref ce, .int x8, .int x9, .ref fi, .ref se])), (la, .inl (G 0, 4, .inl fl)), (si, .inl (G 0, 4, .inl fz))]) [0, 1, 2] rfl
  refine va_calli (va_runV (As := [.int (nI k), .long i.toInt64]) (rest := []) ⟨hx, hb, hml, hown, hg⟩ (c_X6_faultAt l dC dI G _ h0 la si ce fi se k x8 x9 i.toInt64 fl fz (by have t_n0 : (nI k).toInt = (k : Int) := nI_toInt (by omega); omega)) (kwV hg mfX6_faultAt wt_846 ⟨Nat.le_of_ble_eq_true rfl, Nat.le_of_ble_eq_true rfl⟩) (preVR hK hPc (ci := 6) rfl rfl) rfl rfl hl.1 rfl (lv_room (Nat.le_of_ble_eq_true rfl)) dX6_fill_4 ⟨Nat.le_of_ble_eq_true rfl, Nat.le_of_ble_eq_true rfl⟩) hS (fun q h1 h2 => absurd h2 (Nat.not_le.mpr h1)) (fun q h => hA q (Nat.le_trans hS.1 h)) (fun r1 ur1 t H1 locs ht hvm w2 hB hz1 hk1 hS => ?_)
  have hP := keepR hP hk1
  obtain ⟨w2, w2x⟩ := w2
  have cut48_4 : ∀ (g3 : Nat → Nat → Int32) (H : Heap) (locs : List Loc), va_P (dC, dI) vwCl (([(h0, .inr (6, [.ref la, .ref si, .ref ce, .int x8, .int x9, .ref fi, .ref se])), (la, .inl (G 0, 4, .inl fl)), (si, .inl (G 0, 4, .inl fz)), (ce, .inl (G 4, 4, .inr (.inr (.inr (.inr (fun ir => if ir < 4 then some (rc ir) else none))))))] : va_W) ++ ((((List.range 4).map (fun iq => (rc iq, .inl (G 0, 40, .inl (g3 iq))))) : va_W) ++ [])) H → va_D A (([(h0, .inr (6, [.ref la, .ref si, .ref ce, .int x8, .int x9, .ref fi, .ref se])), (la, .inl (G 0, 4, .inl fl)), (si, .inl (G 0, 4, .inl fz)), (ce, .inl (G 4, 4, .inr (.inr (.inr (.inr (fun ir => if ir < 4 then some (rc ir) else none))))))] : va_W) ++ ((((List.range 4).map (fun iq => (rc iq, .inl (G 0, 40, .inl (g3 iq))))) : va_W) ++ [])) → va_S A s.heap H locs → ∀ (ls : Array Slot), lv_has ls 4 [(0, .ref h0), (1, .int (nI k)), (2, .int i), (3, .int x1)] → W p l e (headSpec (Cond.code yX6_fill cX6_fill 4 none :: GT) ({ frames := 1, cells := 0, slots := 0, locals := 23 } : Room)).room s m ([.ref h0, .int (nI k), .int i, .int x1] : List Value).toArray below meth c H locs 0 0 (MQ below (va_Qv (fun (u : (Nat → Nat → Int32)) => match u with | u0 => True) (fun (u : (Nat → Nat → Int32)) (t : State) => match u with | u0 => va_P (dC, dI) vwCl (([(h0, .inr (6, [.ref la, .ref si, .ref ce, .int x8, .int x9, .ref fi, .ref se])), (la, .inl (G 0, 4, .inl fl)), (si, .inl (G 0, 4, .inl fz)), (ce, .inl (G 4, 4, .inr (.inr (.inr (.inr (fun ir => if ir < 4 then some (rc ir) else none))))))] : va_W) ++ ((((List.range 4).map (fun iq => (rc iq, .inl (G 0, 40, .inl (u0 iq))))) : va_W) ++ [])) t.heap ∧ va_D A (([(h0, .inr (6, [.ref la, .ref si, .ref ce, .int x8, .int x9, .ref fi, .ref se])), (la, .inl (G 0, 4, .inl fl)), (si, .inl (G 0, 4, .inl fz)), (ce, .inl (G 4, 4, .inr (.inr (.inr (.inr (fun ir => if ir < 4 then some (rc ir) else none))))))] : va_W) ++ ((((List.range 4).map (fun iq => (rc iq, .inl (G 0, 40, .inl (u0 iq))))) : va_W) ++ []))) A) ([.ref h0, .int (nI k), .int i, .int x1] : List Value).toArray s 0 0 A) (F0 m 48 ls []) := by
    intro g3 H locs hP hD hS ls hl
    have hP9 := hP.sub (ws' := (([(h0, .inr (6, [.ref la, .ref si, .ref ce, .int x8, .int x9, .ref fi, .ref se])), (la, .inl (G 0, 4, .inl fl)), (si, .inl (G 0, 4, .inl fz)), (ce, .inl (G 4, 4, .inr (.inr (.inr (.inr (fun ir => if ir < 4 then some (rc ir) else none))))))] : va_W) ++ ((((List.range 4).map (fun iq => (rc iq, .inl (G 0, 40, .inl (g3 iq))))) : va_W) ++ []))) [0, 1, 2, 3, 4, 5, 6, 7] rfl
    have hD9 := hD.sub (ws' := (([(h0, .inr (6, [.ref la, .ref si, .ref ce, .int x8, .int x9, .ref fi, .ref se])), (la, .inl (G 0, 4, .inl fl)), (si, .inl (G 0, 4, .inl fz)), (ce, .inl (G 4, 4, .inr (.inr (.inr (.inr (fun ir => if ir < 4 then some (rc ir) else none))))))] : va_W) ++ ((((List.range 4).map (fun iq => (rc iq, .inl (G 0, 40, .inl (g3 iq))))) : va_W) ++ []))) [0, 1, 2, 3, 4, 5, 6, 7] (by decide) rfl
    refine W.widen (k := 0) (n := 0) (by omega) (by omega) ?_
    exact W.vret hx hb hr (fun t ht hW => ⟨⟨g3, rfl, trivial, ⟨by rw [ht]; exact hP9, hD9⟩⟩, hS.F ht⟩) hS.2.2 dX6_fill_48
  refine lv_if_ne (tgt := 48) hx hb dX6_fill_7 (by decide) (fun c5 => ?_) (fun c5 => ?_)
  · skip
    exact cut48_4 F _ _ hP hD hS ls (lv_sub hl [0, 1, 2, 3] rfl)
  · skip
    have b6 := fz0 w2 c5
    refine lv_aload_n hx hb dX6_fill_10 rfl (lv_at hl 0 rfl) ?_
    refine va_get (D := (dC, dI)) (ci := 6) (v := .ref ce) (C := RX6) (T := TX6) (N := 7) hx hb hg inG6 hown hK.1 hP 0 rfl rfl 2 (by decide) (hg _ wt_278) (fun _ h9 => h9) rfl dX6_fill_11 ?_
    refine lv_iload_n hx hb dX6_fill_14 rfl (lv_at hl 1 rfl) ?_
    refine va_aldA hx hb hK.1 hP 3 4 rfl rfl (vp_in_nI (by have t_b6 := b6; have t_n0 : (nI k).toInt = (k : Int) := nI_toInt (by omega); omega) (by decide)) dX6_fill_15 ?_
    refine lv_cgv (y := .ref (rc k)) (rowref (by have t_b6 := b6; have t_n0 : (nI k).toInt = (k : Int) := nI_toInt (by omega); omega) (by decide)) ?_
    refine lv_iload_n hx hb dX6_fill_16 rfl (lv_at hl 2 rfl) ?_
    refine lv_aload_n hx hb dX6_fill_17 rfl (lv_at hl 0 rfl) ?_
    refine va_get (D := (dC, dI)) (ci := 6) (v := .ref la) (C := RX6) (T := TX6) (N := 7) hx hb hg inG6 hown hK.1 hP 0 rfl rfl 0 (by decide) (hg _ wt_276) (fun _ h9 => h9) rfl dX6_fill_18 ?_
    refine lv_iload_n hx hb dX6_fill_21 rfl (lv_at hl 1 rfl) ?_
    refine va_iald hx hb hK.1 hP 1 0 rfl rfl (vp_in_nI (by have t_b6 := b6; have t_n0 : (nI k).toInt = (k : Int) := nI_toInt (by omega); omega) (by decide)) dX6_fill_22 ?_
    refine lv_cg (y := fl k) (by rw [nI_clamp (by omega)]) ?_
    have cut47_8 : ∀ (y7 : Int32) (H : Heap) (locs : List Loc), va_P (dC, dI) vwCl (([(h0, .inr (6, [.ref la, .ref si, .ref ce, .int x8, .int x9, .ref fi, .ref se])), (la, .inl (G 0, 4, .inl fl)), (si, .inl (G 0, 4, .inl fz)), (ce, .inl (G 4, 4, .inr (.inr (.inr (.inr (fun ir => if ir < 4 then some (rc ir) else none))))))] : va_W) ++ ((((List.range 4).map (fun iq => (rc iq, .inl (G 0, 40, .inl (F iq))))) : va_W) ++ [])) H → va_D A (([(h0, .inr (6, [.ref la, .ref si, .ref ce, .int x8, .int x9, .ref fi, .ref se])), (la, .inl (G 0, 4, .inl fl)), (si, .inl (G 0, 4, .inl fz)), (ce, .inl (G 4, 4, .inr (.inr (.inr (.inr (fun ir => if ir < 4 then some (rc ir) else none))))))] : va_W) ++ ((((List.range 4).map (fun iq => (rc iq, .inl (G 0, 40, .inl (F iq))))) : va_W) ++ [])) → va_S A s.heap H locs → ∀ (ls : Array Slot), lv_has ls 4 [(0, .ref h0), (1, .int (nI k)), (2, .int i), (3, .int x1)] → W p l e (headSpec (Cond.code yX6_fill cX6_fill 4 none :: GT) ({ frames := 1, cells := 0, slots := 0, locals := 23 } : Room)).room s m ([.ref h0, .int (nI k), .int i, .int x1] : List Value).toArray below meth c H locs 0 0 (MQ below (va_Qv (fun (u : (Nat → Nat → Int32)) => match u with | u0 => True) (fun (u : (Nat → Nat → Int32)) (t : State) => match u with | u0 => va_P (dC, dI) vwCl (([(h0, .inr (6, [.ref la, .ref si, .ref ce, .int x8, .int x9, .ref fi, .ref se])), (la, .inl (G 0, 4, .inl fl)), (si, .inl (G 0, 4, .inl fz)), (ce, .inl (G 4, 4, .inr (.inr (.inr (.inr (fun ir => if ir < 4 then some (rc ir) else none))))))] : va_W) ++ ((((List.range 4).map (fun iq => (rc iq, .inl (G 0, 40, .inl (u0 iq))))) : va_W) ++ [])) t.heap ∧ va_D A (([(h0, .inr (6, [.ref la, .ref si, .ref ce, .int x8, .int x9, .ref fi, .ref se])), (la, .inl (G 0, 4, .inl fl)), (si, .inl (G 0, 4, .inl fz)), (ce, .inl (G 4, 4, .inr (.inr (.inr (.inr (fun ir => if ir < 4 then some (rc ir) else none))))))] : va_W) ++ ((((List.range 4).map (fun iq => (rc iq, .inl (G 0, 40, .inl (u0 iq))))) : va_W) ++ []))) A) ([.ref h0, .int (nI k), .int i, .int x1] : List Value).toArray s 0 0 A) (F0 m 47 ls [.int y7, .int i, .ref (rc k)]) := by
      intro y7 H locs hP hD hS ls hl
      refine va_iastB (j := k) hx hb hK.1 hP hD hS 0 (by have t_b6 := b6; have t_n0 : (nI k).toInt = (k : Int) := nI_toInt (by omega); omega) rfl (vp_in_iff.mpr (by have t_b6 := b6; have t_n0 : (nI k).toInt = (k : Int) := nI_toInt (by omega); constructor <;> omega)) dX6_fill_47 (fun H locs hP hD hS => ?_)
      have hP : va_P (dC, dI) vwCl (([(h0, .inr (6, [.ref la, .ref si, .ref ce, .int x8, .int x9, .ref fi, .ref se])), (la, .inl (G 0, 4, .inl fl)), (si, .inl (G 0, 4, .inl fz)), (ce, .inl (G 4, 4, .inr (.inr (.inr (.inr (fun ir => if ir < 4 then some (rc ir) else none))))))] : va_W) ++ ((((List.range 4).map (fun iq => (rc iq, .inl (G 0, 40, .inl ((va_up F k (upd (F k) i.toNatClampNeg y7)) iq))))) : va_W) ++ [])) H := hP
      have hD : va_D A (([(h0, .inr (6, [.ref la, .ref si, .ref ce, .int x8, .int x9, .ref fi, .ref se])), (la, .inl (G 0, 4, .inl fl)), (si, .inl (G 0, 4, .inl fz)), (ce, .inl (G 4, 4, .inr (.inr (.inr (.inr (fun ir => if ir < 4 then some (rc ir) else none))))))] : va_W) ++ ((((List.range 4).map (fun iq => (rc iq, .inl (G 0, 40, .inl ((va_up F k (upd (F k) i.toNatClampNeg y7)) iq))))) : va_W) ++ [])) := hD
      exact cut48_4 (va_up F k (upd (F k) i.toNatClampNeg y7)) _ _ hP hD hS ls (lv_sub hl [0, 1, 2, 3] rfl)
    refine lv_if_ne (tgt := 31) hx hb dX6_fill_23 (by decide) (fun c9 => ?_) (fun c9 => ?_)
    · skip
      refine lv_aload_n hx hb dX6_fill_31 rfl (lv_at hl 0 rfl) ?_
      refine va_get (D := (dC, dI)) (ci := 6) (v := .ref la) (C := RX6) (T := TX6) (N := 7) hx hb hg inG6 hown hK.1 hP 0 rfl rfl 0 (by decide) (hg _ wt_276) (fun _ h9 => h9) rfl dX6_fill_32 ?_
      refine lv_iload_n hx hb dX6_fill_35 rfl (lv_at hl 1 rfl) ?_
      refine va_iald hx hb hK.1 hP 1 0 rfl rfl (vp_in_nI (by have t_b6 := b6; have t_c9 := neI c9; have : (0 : Int32).toInt = 0 := (by decide); have t_n0 : (nI k).toInt = (k : Int) := nI_toInt (by omega); omega) (by decide)) dX6_fill_36 ?_
      refine lv_cg (y := fl k) (by rw [nI_clamp (by omega)]) ?_
      refine lv_iconst (v := 1) hx hb dX6_fill_37 (by decide) ?_
      refine lv_icmp_ne (tgt := 46) hx hb dX6_fill_38 (by decide) (fun c10 => ?_) (fun c10 => ?_)
      · skip
        refine lv_iload_n hx hb dX6_fill_46 rfl (lv_at hl 3 rfl) ?_
        exact cut47_8 x1 _ _ hP hD hS ls (lv_sub hl [0, 1, 2, 3] rfl)
      · skip
        refine lv_iload_n hx hb dX6_fill_41 rfl (lv_at hl 3 rfl) ?_
        refine lv_i2s (v := _) hx hb dX6_fill_42 rfl ?_
        refine lv_topi (fun v11 ev11 => ?_)
        refine lv_goto (tgt := 47) hx hb dX6_fill_43 (by decide) ?_
        exact cut47_8 v11 _ _ hP hD hS ls (lv_sub hl [0, 1, 2, 3] rfl)
    · skip
      refine lv_iload_n hx hb dX6_fill_26 rfl (lv_at hl 3 rfl) ?_
      refine lv_i2b (v := _) hx hb dX6_fill_27 rfl ?_
      refine lv_topi (fun v12 ev12 => ?_)
      refine lv_goto (tgt := 47) hx hb dX6_fill_28 (by decide) ?_
      exact cut47_8 v12 _ _ hP hD hS ls (lv_sub hl [0, 1, 2, 3] rfl)

set_option maxHeartbeats 1000000 in
set_option maxRecDepth 100000 in
theorem c_X6_renew (l : Launch) (dC : Nat → ClassId) (dI : Nat → Nat → Nat) (G : Nat → ClassId) (sz : Nat) (h0 la si ce fi se k nn : Nat) (x8 x9 x1 : Int32) (fl fz : Nat → Int32) (rc : Nat → Nat) (F : Nat → Nat → Int32) (hk : k < 4) (hnn : nn ≤ 40) : Met l yX6_renew (Cond.code yX6_renew cX6_renew 5 none :: GT) ({ frames := 1, cells := 0, slots := 0, locals := 20 } : Room) (PcW [.ref h0, .int (nI k), .int x1, .int (nI nn)] dC dI G (([(h0, .inr (6, [.ref la, .ref si, .ref ce, .int x8, .int x9, .ref fi, .ref se])), (la, .inl (G 0, 4, .inl fl)), (si, .inl (G 0, 4, .inl fz)), (ce, .inl (G 4, 4, .inr (.inr (.inr (.inr (fun ir => if ir < 4 then some (rc ir) else none))))))] : va_W) ++ ((((List.range 4).map (fun iq => (rc iq, .inl (G 0, 40, .inl (F iq))))) : va_W) ++ [])) sz) (va_Qv (fun (u : (Nat → Nat → Int32) × (Nat → Int32) × (Nat → Int32)) => match u with | (u0, u1, u2) => u1 = upd fl k x1 ∧ u2 = upd fz k (nI nn)) (fun (u : (Nat → Nat → Int32) × (Nat → Int32) × (Nat → Int32)) (t : State) => match u with | (u0, u1, u2) => va_P (dC, dI) vwCl (([(h0, .inr (6, [.ref la, .ref si, .ref ce, .int x8, .int x9, .ref fi, .ref se])), (la, .inl (G 0, 4, .inl u1)), (si, .inl (G 0, 4, .inl u2)), (ce, .inl (G 4, 4, .inr (.inr (.inr (.inr (fun ir => if ir < 4 then some (rc ir) else none))))))] : va_W) ++ ((((List.range 4).map (fun iq => (rc iq, .inl (G 0, 40, .inl (u0 iq))))) : va_W) ++ [])) t.heap ∧ va_D (va_A (([(h0, .inr (6, [.ref la, .ref si, .ref ce, .int x8, .int x9, .ref fi, .ref se])), (la, .inl (G 0, 4, .inl fl)), (si, .inl (G 0, 4, .inl fz)), (ce, .inl (G 4, 4, .inr (.inr (.inr (.inr (fun ir => if ir < 4 then some (rc ir) else none))))))] : va_W) ++ ((((List.range 4).map (fun iq => (rc iq, .inl (G 0, 40, .inl (F iq))))) : va_W) ++ [])) sz) (([(h0, .inr (6, [.ref la, .ref si, .ref ce, .int x8, .int x9, .ref fi, .ref se])), (la, .inl (G 0, 4, .inl u1)), (si, .inl (G 0, 4, .inl u2)), (ce, .inl (G 4, 4, .inr (.inr (.inr (.inr (fun ir => if ir < 4 then some (rc ir) else none))))))] : va_W) ++ ((((List.range 4).map (fun iq => (rc iq, .inl (G 0, 40, .inl (u0 iq))))) : va_W) ++ []))) (va_A (([(h0, .inr (6, [.ref la, .ref si, .ref ce, .int x8, .int x9, .ref fi, .ref se])), (la, .inl (G 0, 4, .inl fl)), (si, .inl (G 0, 4, .inl fz)), (ce, .inl (G 4, 4, .inr (.inr (.inr (.inr (fun ir => if ir < 4 then some (rc ir) else none))))))] : va_W) ++ ((((List.range 4).map (fun iq => (rc iq, .inl (G 0, 40, .inl (F iq))))) : va_W) ++ [])) sz)) 0 0 (va_A (([(h0, .inr (6, [.ref la, .ref si, .ref ce, .int x8, .int x9, .ref fi, .ref se])), (la, .inl (G 0, 4, .inl fl)), (si, .inl (G 0, 4, .inl fz)), (ce, .inl (G 4, 4, .inr (.inr (.inr (.inr (fun ir => if ir < 4 then some (rc ir) else none))))))] : va_W) ++ ((((List.range 4).map (fun iq => (rc iq, .inl (G 0, 40, .inl (F iq))))) : va_W) ++ [])) sz) := by
  refine Met.ofW (cc := cX6_renew) (maxL := 5) (ret := none) (by decide) rfl ?_
  intro p e s m args below meth c s₁ Bd hml hv
  obtain ⟨rfl, hsz, hP, hK, hD0⟩ := hv
  have hx := Bd.exec
  have hb := Bd.bytes
  have hr := Bd.returns
  have hg : ∀ w ∈ GT, w.before ([.ref h0, .int (nI k), .int x1, .int (nI nn)] : List Value).toArray s = true := fun w h => atoms_spec (ws := Cond.code yX6_renew cX6_renew 5 none :: GT) Bd.pre w (List.mem_cons_of_mem _ h)
  have hown : s.vm.findClass RX6 = some m.cls := findClass_of_methodNamed Bd.named
  have hlocks := Bd.notSynchronized
  subst hsz
  have hD := hD0.self (sz := s.heap.size)
  generalize hAe : va_A (([(h0, .inr (6, [.ref la, .ref si, .ref ce, .int x8, .int x9, .ref fi, .ref se])), (la, .inl (G 0, 4, .inl fl)), (si, .inl (G 0, 4, .inl fz)), (ce, .inl (G 4, 4, .inr (.inr (.inr (.inr (fun ir => if ir < 4 then some (rc ir) else none))))))] : va_W) ++ ((((List.range 4).map (fun iq => (rc iq, .inl (G 0, 40, .inl (F iq))))) : va_W) ++ [])) s.heap.size = A at hD ⊢
  have hA : ∀ q : Nat, s.heap.size ≤ q → A q := fun q h => by rw [← hAe]; exact Or.inr h
  have hS : va_S A s.heap s.heap [] := va_S.rf
  have hl := lv_entry ([.ref h0, .int (nI k), .int x1, .int (nI nn)]) (n := 5) (Nat.le_of_ble_eq_true rfl)
  rw [lg_entry_eq]
  generalize (lg_sl ([.ref h0, .int (nI k), .int x1, .int (nI nn)]) ++ List.replicate (5 - (lg_sl ([.ref h0, .int (nI k), .int x1, .int (nI nn)])).length) Slot.unset).toArray = ls at hl ⊢
  have hl : lv_has ls 5 [(0, .ref h0), (1, .int (nI k)), (2, .int x1), (3, .int (nI nn))] := hl
  refine lv_iload_n hx hb dX6_renew_0 rfl (lv_at hl 1 rfl) ?_
  have hPc := hP.sub (ws' := []) [] rfl
  refine va_calli (va_runS (As := [.int (nI k)]) (rest := []) ⟨hx, hb, hml, hown, hg⟩ (c_X6_isSheet l dC dI G _ (nI k) ) (kwS hg mfX6_isSheet wt_833 ⟨Nat.le_of_ble_eq_true rfl, Nat.le_of_ble_eq_true rfl⟩) (preSR hK hPc) rfl rfl hl.1 rfl (lv_room (Nat.le_of_ble_eq_true rfl)) dX6_renew_1 ⟨Nat.le_of_ble_eq_true rfl, Nat.le_of_ble_eq_true rfl⟩) hS (fun q h1 h2 => absurd h2 (Nat.not_le.mpr h1)) (fun q h => hA q (Nat.le_trans hS.1 h)) (fun r1 ur1 t H1 locs ht hvm w2 hB hz1 hk1 hS => ?_)
  have hP := keepR hP hk1
  obtain ⟨w2, w2x⟩ := w2
  try simp only [l_ii, show (0 : Int32).toInt = 0 from by decide, show (4 : Int32).toInt = 4 from by decide] at w2
  try rw [nI_toInt (n := k) (by omega)] at w2
  have w2 : r1 = 1 := w2.trans (if_pos (by have t_n0 : (nI k).toInt = (k : Int) := nI_toInt (by omega); have t_n1 : (nI nn).toInt = (nn : Int) := nI_toInt (by omega); omega))
  subst w2
  refine lv_if_eq (tgt := 17) hx hb dX6_renew_4 (by decide) (fun c3 => ?_) (fun c3 => ?_)
  · skip
    exact absurd c3 (by decide)
  · skip
    refine lv_iload_n hx hb dX6_renew_7 rfl (lv_at hl 3 rfl) ?_
    refine lv_if_lt (tgt := 17) hx hb dX6_renew_8 (by decide) (fun c4 => ?_) (fun c4 => ?_)
    · skip
      have t_c3 := neI c3
      have t_c4 := ltI c4
      have : (0 : Int32).toInt = 0 := (by decide)
      have : (1 : Int32).toInt = 1 := (by decide)
      have t_n0 : (nI k).toInt = (k : Int) := nI_toInt (by omega)
      have t_n1 : (nI nn).toInt = (nn : Int) := nI_toInt (by omega)
      have t_n0 : (nI k).toInt = (k : Int) := nI_toInt (by omega)
      have t_n1 : (nI nn).toInt = (nn : Int) := nI_toInt (by omega)
      exfalso; omega
    · skip
      have n5 : 0 ≤ nn := by have t := nltI c4; rw [nI_toInt (n := nn) (by omega)] at t; have : (0 : Int32).toInt = 0 := (by decide); omega
      refine lv_iload_n hx hb dX6_renew_11 rfl (lv_at hl 3 rfl) ?_
      refine lv_bipush (v := 40) hx hb dX6_renew_12 (by decide) ?_
      refine lv_icmp_le (tgt := 18) hx hb dX6_renew_14 (by decide) (fun c6 => ?_) (fun c6 => ?_)
      · skip
        have n7 : nn ≤ 40 := by have t := leI c6; rw [nI_toInt (n := nn) (by omega)] at t; have : (40 : Int32).toInt = 40 := (by decide); omega
        refine lv_aload_n hx hb dX6_renew_18 rfl (lv_at hl 0 rfl) ?_
        refine va_get (D := (dC, dI)) (ci := 6) (v := .ref la) (C := RX6) (T := TX6) (N := 7) hx hb hg inG6 hown hK.1 hP 0 rfl rfl 0 (by decide) (hg _ wt_276) (fun _ h9 => h9) rfl dX6_renew_19 ?_
        refine lv_iload_n hx hb dX6_renew_22 rfl (lv_at hl 1 rfl) ?_
        refine lv_iload_n hx hb dX6_renew_23 rfl (lv_at hl 2 rfl) ?_
        refine va_iast hx hb hK.1 hP hD hS 1 0 rfl rfl (vp_in_nI (by have t_c3 := neI c3; have t_n5 := n5; have t_n7 := n7; have : (0 : Int32).toInt = 0 := (by decide); have : (1 : Int32).toInt = 1 := (by decide); have t_n0 : (nI k).toInt = (k : Int) := nI_toInt (by omega); have t_n1 : (nI nn).toInt = (nn : Int) := nI_toInt (by omega); omega) (by decide)) dX6_renew_24 (fun H locs hP hD hS => ?_)
        rw [nI_clamp (by omega)] at hP hD
        have hP : va_P (dC, dI) vwCl (([(h0, .inr (6, [.ref la, .ref si, .ref ce, .int x8, .int x9, .ref fi, .ref se])), (la, .inl (G 0, 4, .inl (upd fl k x1))), (si, .inl (G 0, 4, .inl fz)), (ce, .inl (G 4, 4, .inr (.inr (.inr (.inr (fun ir => if ir < 4 then some (rc ir) else none))))))] : va_W) ++ ((((List.range 4).map (fun iq => (rc iq, .inl (G 0, 40, .inl (F iq))))) : va_W) ++ [])) H := hP
        have hD : va_D A (([(h0, .inr (6, [.ref la, .ref si, .ref ce, .int x8, .int x9, .ref fi, .ref se])), (la, .inl (G 0, 4, .inl (upd fl k x1))), (si, .inl (G 0, 4, .inl fz)), (ce, .inl (G 4, 4, .inr (.inr (.inr (.inr (fun ir => if ir < 4 then some (rc ir) else none))))))] : va_W) ++ ((((List.range 4).map (fun iq => (rc iq, .inl (G 0, 40, .inl (F iq))))) : va_W) ++ [])) := hD
        refine lv_aload_n hx hb dX6_renew_25 rfl (lv_at hl 0 rfl) ?_
        refine va_get (D := (dC, dI)) (ci := 6) (v := .ref si) (C := RX6) (T := TX6) (N := 7) hx hb hg inG6 hown hK.1 hP 0 rfl rfl 1 (by decide) (hg _ wt_277) (fun _ h9 => h9) rfl dX6_renew_26 ?_
        refine lv_iload_n hx hb dX6_renew_29 rfl (lv_at hl 1 rfl) ?_
        refine lv_iload_n hx hb dX6_renew_30 rfl (lv_at hl 3 rfl) ?_
        refine va_iast hx hb hK.1 hP hD hS 2 0 rfl rfl (vp_in_nI (by have t_c3 := neI c3; have t_n5 := n5; have t_n7 := n7; have : (0 : Int32).toInt = 0 := (by decide); have : (1 : Int32).toInt = 1 := (by decide); have t_n0 : (nI k).toInt = (k : Int) := nI_toInt (by omega); have t_n1 : (nI nn).toInt = (nn : Int) := nI_toInt (by omega); omega) (by decide)) dX6_renew_31 (fun H locs hP hD hS => ?_)
        rw [nI_clamp (by omega)] at hP hD
        have hP : va_P (dC, dI) vwCl (([(h0, .inr (6, [.ref la, .ref si, .ref ce, .int x8, .int x9, .ref fi, .ref se])), (la, .inl (G 0, 4, .inl (upd fl k x1))), (si, .inl (G 0, 4, .inl (upd fz k (nI nn)))), (ce, .inl (G 4, 4, .inr (.inr (.inr (.inr (fun ir => if ir < 4 then some (rc ir) else none))))))] : va_W) ++ ((((List.range 4).map (fun iq => (rc iq, .inl (G 0, 40, .inl (F iq))))) : va_W) ++ [])) H := hP
        have hD : va_D A (([(h0, .inr (6, [.ref la, .ref si, .ref ce, .int x8, .int x9, .ref fi, .ref se])), (la, .inl (G 0, 4, .inl (upd fl k x1))), (si, .inl (G 0, 4, .inl (upd fz k (nI nn)))), (ce, .inl (G 4, 4, .inr (.inr (.inr (.inr (fun ir => if ir < 4 then some (rc ir) else none))))))] : va_W) ++ ((((List.range 4).map (fun iq => (rc iq, .inl (G 0, 40, .inl (F iq))))) : va_W) ++ [])) := hD
        refine lv_iconst (v := 0) hx hb dX6_renew_32 (by decide) ?_
        refine lv_istore (lv' := [(4, .int 0), (0, .ref h0), (1, .int (nI k)), (2, .int x1), (3, .int (nI nn))]) hx hb dX6_renew_33 hl (by decide) rfl (fun ls hl => ?_)
        have loop35_10 : ∀ (nf j8 : Nat), nn + 1 ≤ j8 + nf → j8 ≤ nn → ∀ (g9 : Nat → Nat → Int32) (H : Heap) (locs : List Loc), va_P (dC, dI) vwCl (([(h0, .inr (6, [.ref la, .ref si, .ref ce, .int x8, .int x9, .ref fi, .ref se])), (la, .inl (G 0, 4, .inl (upd fl k x1))), (si, .inl (G 0, 4, .inl (upd fz k (nI nn)))), (ce, .inl (G 4, 4, .inr (.inr (.inr (.inr (fun ir => if ir < 4 then some (rc ir) else none))))))] : va_W) ++ ((((List.range 4).map (fun iq => (rc iq, .inl (G 0, 40, .inl (g9 iq))))) : va_W) ++ [])) H → va_D A (([(h0, .inr (6, [.ref la, .ref si, .ref ce, .int x8, .int x9, .ref fi, .ref se])), (la, .inl (G 0, 4, .inl (upd fl k x1))), (si, .inl (G 0, 4, .inl (upd fz k (nI nn)))), (ce, .inl (G 4, 4, .inr (.inr (.inr (.inr (fun ir => if ir < 4 then some (rc ir) else none))))))] : va_W) ++ ((((List.range 4).map (fun iq => (rc iq, .inl (G 0, 40, .inl (g9 iq))))) : va_W) ++ [])) → va_S A s.heap H locs → ∀ (ls : Array Slot), lv_has ls 5 [(4, .int (nI j8)), (0, .ref h0), (1, .int (nI k)), (2, .int x1), (3, .int (nI nn))] → W p l e (headSpec (Cond.code yX6_renew cX6_renew 5 none :: GT) ({ frames := 1, cells := 0, slots := 0, locals := 20 } : Room)).room s m ([.ref h0, .int (nI k), .int x1, .int (nI nn)] : List Value).toArray below meth c H locs 0 0 (MQ below (va_Qv (fun (u : (Nat → Nat → Int32) × (Nat → Int32) × (Nat → Int32)) => match u with | (u0, u1, u2) => u1 = upd fl k x1 ∧ u2 = upd fz k (nI nn)) (fun (u : (Nat → Nat → Int32) × (Nat → Int32) × (Nat → Int32)) (t : State) => match u with | (u0, u1, u2) => va_P (dC, dI) vwCl (([(h0, .inr (6, [.ref la, .ref si, .ref ce, .int x8, .int x9, .ref fi, .ref se])), (la, .inl (G 0, 4, .inl u1)), (si, .inl (G 0, 4, .inl u2)), (ce, .inl (G 4, 4, .inr (.inr (.inr (.inr (fun ir => if ir < 4 then some (rc ir) else none))))))] : va_W) ++ ((((List.range 4).map (fun iq => (rc iq, .inl (G 0, 40, .inl (u0 iq))))) : va_W) ++ [])) t.heap ∧ va_D A (([(h0, .inr (6, [.ref la, .ref si, .ref ce, .int x8, .int x9, .ref fi, .ref se])), (la, .inl (G 0, 4, .inl u1)), (si, .inl (G 0, 4, .inl u2)), (ce, .inl (G 4, 4, .inr (.inr (.inr (.inr (fun ir => if ir < 4 then some (rc ir) else none))))))] : va_W) ++ ((((List.range 4).map (fun iq => (rc iq, .inl (G 0, 40, .inl (u0 iq))))) : va_W) ++ []))) A) ([.ref h0, .int (nI k), .int x1, .int (nI nn)] : List Value).toArray s 0 0 A) (F0 m 35 ls []) := by
          intro nf
          induction nf with
          | zero => intro j8 h1 h2; exact absurd h1 (by omega)
          | succ nf ih35_10 =>
            intro j8 hn11 hj12 g9 H locs hP hD hS ls hl
            refine lv_iload hx hb dX6_renew_35 (lv_at hl 0 rfl) ?_
            refine lv_iload_n hx hb dX6_renew_37 rfl (lv_at hl 4 rfl) ?_
            refine lv_icmp_ge (tgt := 57) hx hb dX6_renew_38 (by decide) (fun c13 => ?_) (fun c13 => ?_)
            · skip
              have n14 : nn ≤ j8 := by have t := leI c13; rw [nI_toInt (n := j8) (by omega)] at t; rw [nI_toInt (n := nn) (by omega)] at t; omega
              have hP9 := hP.sub (ws' := (([(h0, .inr (6, [.ref la, .ref si, .ref ce, .int x8, .int x9, .ref fi, .ref se])), (la, .inl (G 0, 4, .inl (upd fl k x1))), (si, .inl (G 0, 4, .inl (upd fz k (nI nn)))), (ce, .inl (G 4, 4, .inr (.inr (.inr (.inr (fun ir => if ir < 4 then some (rc ir) else none))))))] : va_W) ++ ((((List.range 4).map (fun iq => (rc iq, .inl (G 0, 40, .inl (g9 iq))))) : va_W) ++ []))) [0, 1, 2, 3, 4, 5, 6, 7] rfl
              have hD9 := hD.sub (ws' := (([(h0, .inr (6, [.ref la, .ref si, .ref ce, .int x8, .int x9, .ref fi, .ref se])), (la, .inl (G 0, 4, .inl (upd fl k x1))), (si, .inl (G 0, 4, .inl (upd fz k (nI nn)))), (ce, .inl (G 4, 4, .inr (.inr (.inr (.inr (fun ir => if ir < 4 then some (rc ir) else none))))))] : va_W) ++ ((((List.range 4).map (fun iq => (rc iq, .inl (G 0, 40, .inl (g9 iq))))) : va_W) ++ []))) [0, 1, 2, 3, 4, 5, 6, 7] (by decide) rfl
              refine W.widen (k := 0) (n := 0) (by omega) (by omega) ?_
              exact W.vret hx hb hr (fun t ht hW => ⟨⟨(g9, (upd fl k x1), (upd fz k (nI nn))), rfl, ⟨rfl, rfl⟩, ⟨by rw [ht]; exact hP9, hD9⟩⟩, hS.F ht⟩) hS.2.2 dX6_renew_57
            · skip
              have n15 : j8 < nn := by have t := nleI c13; rw [nI_toInt (n := j8) (by omega)] at t; rw [nI_toInt (n := nn) (by omega)] at t; omega
              refine lv_aload_n hx hb dX6_renew_41 rfl (lv_at hl 1 rfl) ?_
              refine va_get (D := (dC, dI)) (ci := 6) (v := .ref ce) (C := RX6) (T := TX6) (N := 7) hx hb hg inG6 hown hK.1 hP 0 rfl rfl 2 (by decide) (hg _ wt_278) (fun _ h9 => h9) rfl dX6_renew_42 ?_
              refine lv_iload_n hx hb dX6_renew_45 rfl (lv_at hl 2 rfl) ?_
              refine va_aldA hx hb hK.1 hP 3 4 rfl rfl (vp_in_nI (by have t_c3 := neI c3; have t_n5 := n5; have t_n7 := n7; have t_hj12 := hj12; have t_n15 := n15; have : (0 : Int32).toInt = 0 := (by decide); have : (1 : Int32).toInt = 1 := (by decide); have t_n0 : (nI k).toInt = (k : Int) := nI_toInt (by omega); have t_n1 : (nI nn).toInt = (nn : Int) := nI_toInt (by omega); have t_n2 : (nI j8).toInt = (j8 : Int) := nI_toInt (by omega); omega) (by decide)) dX6_renew_46 ?_
              refine lv_cgv (y := .ref (rc k)) (rowref (by have t_c3 := neI c3; have t_n5 := n5; have t_n7 := n7; have t_hj12 := hj12; have t_n15 := n15; have : (0 : Int32).toInt = 0 := (by decide); have : (1 : Int32).toInt = 1 := (by decide); have t_n0 : (nI k).toInt = (k : Int) := nI_toInt (by omega); have t_n1 : (nI nn).toInt = (nn : Int) := nI_toInt (by omega); have t_n2 : (nI j8).toInt = (j8 : Int) := nI_toInt (by omega); omega) (by decide)) ?_
              refine lv_iload hx hb dX6_renew_47 (lv_at hl 0 rfl) ?_
              refine lv_iconst (v := 0) hx hb dX6_renew_49 (by decide) ?_
              refine va_iastB (j := k) hx hb hK.1 hP hD hS 0 (by have t_c3 := neI c3; have t_n5 := n5; have t_n7 := n7; have t_hj12 := hj12; have t_n15 := n15; have : (0 : Int32).toInt = 0 := (by decide); have : (1 : Int32).toInt = 1 := (by decide); have t_n0 : (nI k).toInt = (k : Int) := nI_toInt (by omega); have t_n1 : (nI nn).toInt = (nn : Int) := nI_toInt (by omega); have t_n2 : (nI j8).toInt = (j8 : Int) := nI_toInt (by omega); omega) rfl (vp_in_nI (by have t_c3 := neI c3; have t_n5 := n5; have t_n7 := n7; have t_hj12 := hj12; have t_n15 := n15; have : (0 : Int32).toInt = 0 := (by decide); have : (1 : Int32).toInt = 1 := (by decide); have t_n0 : (nI k).toInt = (k : Int) := nI_toInt (by omega); have t_n1 : (nI nn).toInt = (nn : Int) := nI_toInt (by omega); have t_n2 : (nI j8).toInt = (j8 : Int) := nI_toInt (by omega); omega) (by decide)) dX6_renew_50 (fun H locs hP hD hS => ?_)
              rw [nI_clamp (by have t_c3 := neI c3; have t_n5 := n5; have t_n7 := n7; have t_hj12 := hj12; have t_n15 := n15; have : (0 : Int32).toInt = 0 := (by decide); have : (1 : Int32).toInt = 1 := (by decide); have t_n0 : (nI k).toInt = (k : Int) := nI_toInt (by omega); have t_n1 : (nI nn).toInt = (nn : Int) := nI_toInt (by omega); have t_n2 : (nI j8).toInt = (j8 : Int) := nI_toInt (by omega); omega)] at hP hD
              have hP : va_P (dC, dI) vwCl (([(h0, .inr (6, [.ref la, .ref si, .ref ce, .int x8, .int x9, .ref fi, .ref se])), (la, .inl (G 0, 4, .inl (upd fl k x1))), (si, .inl (G 0, 4, .inl (upd fz k (nI nn)))), (ce, .inl (G 4, 4, .inr (.inr (.inr (.inr (fun ir => if ir < 4 then some (rc ir) else none))))))] : va_W) ++ ((((List.range 4).map (fun iq => (rc iq, .inl (G 0, 40, .inl ((va_up g9 k (upd (g9 k) j8 0)) iq))))) : va_W) ++ [])) H := hP
              have hD : va_D A (([(h0, .inr (6, [.ref la, .ref si, .ref ce, .int x8, .int x9, .ref fi, .ref se])), (la, .inl (G 0, 4, .inl (upd fl k x1))), (si, .inl (G 0, 4, .inl (upd fz k (nI nn)))), (ce, .inl (G 4, 4, .inr (.inr (.inr (.inr (fun ir => if ir < 4 then some (rc ir) else none))))))] : va_W) ++ ((((List.range 4).map (fun iq => (rc iq, .inl (G 0, 40, .inl ((va_up g9 k (upd (g9 k) j8 0)) iq))))) : va_W) ++ [])) := hD
              refine lv_iinc (v := nI (j8 + 1)) (lv' := [(4, .int (nI (j8 + 1))), (0, .ref h0), (1, .int (nI k)), (2, .int x1), (3, .int (nI nn))]) hx hb dX6_renew_51 hl (k := 0) rfl (by rw [show Int32.ofInt 1 = nI 1 from by decide]; exact nI_add _ _) (by decide) rfl (fun ls hl => ?_)
              refine lv_goto (tgt := 35) hx hb dX6_renew_54 (by decide) ?_
              exact ih35_10 (j8 + 1) (by omega) (by omega) (va_up g9 k (upd (g9 k) j8 0)) _ _ hP hD hS ls (lv_sub hl [0, 1, 2, 3, 4] rfl)
        exact loop35_10 (nn + 1) 0 (by omega) (by omega) F _ _ hP hD hS ls (lv_sub hl [0, 1, 2, 3, 4] rfl)
      · skip
        have t_c3 := neI c3
        have t_n5 := n5
        have t_c6 := nleI c6
        have : (0 : Int32).toInt = 0 := (by decide)
        have : (1 : Int32).toInt = 1 := (by decide)
        have : (40 : Int32).toInt = 40 := (by decide)
        have t_n0 : (nI k).toInt = (k : Int) := nI_toInt (by omega)
        have t_n1 : (nI nn).toInt = (nn : Int) := nI_toInt (by omega)
        have t_n0 : (nI k).toInt = (k : Int) := nI_toInt (by omega)
        have t_n1 : (nI nn).toInt = (nn : Int) := nI_toInt (by omega)
        exfalso; omega

set_option maxHeartbeats 1000000 in
set_option maxRecDepth 100000 in
theorem c_X10_isFractionPart (l : Launch) (dC : Nat → ClassId) (dI : Nat → Nat → Nat) (G : Nat → ClassId) (sz : Nat) (i : Int32)  : Met l yX10_isFractionPart (Cond.code yX10_isFractionPart cX10_isFractionPart 1 (some .boolean) :: GT) ({ frames := 0, cells := 0, slots := 0, locals := 0 } : Room) (PcR [.int i] dC dI G [] sz) (va_Qi (fun (r : Int32) (u : Unit) => match u with | _ => (r = if 0 ≤ i.toInt ∧ i.toInt ≤ 1 then 1 else 0) ∧ True) (fun _ _ => True) (fun q : Nat => sz ≤ q)) 0 0 (fun q : Nat => sz ≤ q) := by
  refine Met.ofW (cc := cX10_isFractionPart) (maxL := 1) (ret := (some .boolean)) (by decide) rfl ?_
  intro p e s m args below meth c s₁ Bd hml hv
  obtain ⟨rfl, hsz, hP, hK⟩ := hv
  have hx := Bd.exec
  have hb := Bd.bytes
  have hr := Bd.returns
  have hg : ∀ w ∈ GT, w.before ([.int i] : List Value).toArray s = true := fun w h => atoms_spec (ws := Cond.code yX10_isFractionPart cX10_isFractionPart 1 (some .boolean) :: GT) Bd.pre w (List.mem_cons_of_mem _ h)
  have hown : s.vm.findClass RX10 = some m.cls := findClass_of_methodNamed Bd.named
  have hlocks := Bd.notSynchronized
  subst hsz
  have hA : ∀ q : Nat, s.heap.size ≤ q → (fun q : Nat => s.heap.size ≤ q) q := fun _ h => h
  have hS : va_S (fun q : Nat => s.heap.size ≤ q) s.heap s.heap [] := va_S.rf
  have hl := lv_entry ([.int i]) (n := 1) (Nat.le_of_ble_eq_true rfl)
  rw [lg_entry_eq]
  generalize (lg_sl ([.int i]) ++ List.replicate (1 - (lg_sl ([.int i])).length) Slot.unset).toArray = ls at hl ⊢
  have hl : lv_has ls 1 [(0, .int i)] := hl
  refine lv_iload_n hx hb dX10_isFractionPart_0 rfl (lv_at hl 0 rfl) ?_
  refine lv_if_eq (tgt := 9) hx hb dX10_isFractionPart_1 (by decide) (fun c1 => ?_) (fun c1 => ?_)
  · skip
    refine lv_iconst (v := 1) hx hb dX10_isFractionPart_9 (by decide) ?_
    refine lv_goto (tgt := 14) hx hb dX10_isFractionPart_10 (by decide) ?_
    have hpost : (1 : Int32) = if 0 ≤ i.toInt ∧ i.toInt ≤ 1 then 1 else 0 := by
      have t_c1 := eqI c1
      have : (0 : Int32).toInt = 0 := (by decide)
      first | rfl | ((repeat' split) <;> first | rfl | omega)
    refine W.widen (k := 0) (n := 0) (by omega) (by omega) ?_
    exact W.zret (v := 1) hx hb hr (by first | rfl | decide | exact rfl) (fun t ht hW => ⟨⟨1, (), rfl, ⟨hpost, trivial⟩, trivial⟩, hS.F ht⟩) hS.2.2 dX10_isFractionPart_14
  · skip
    refine lv_iload_n hx hb dX10_isFractionPart_4 rfl (lv_at hl 0 rfl) ?_
    refine lv_iconst (v := 1) hx hb dX10_isFractionPart_5 (by decide) ?_
    refine lv_icmp_ne (tgt := 13) hx hb dX10_isFractionPart_6 (by decide) (fun c2 => ?_) (fun c2 => ?_)
    · skip
      refine lv_iconst (v := 0) hx hb dX10_isFractionPart_13 (by decide) ?_
      have hpost : (0 : Int32) = if 0 ≤ i.toInt ∧ i.toInt ≤ 1 then 1 else 0 := by
        have t_c1 := neI c1
        have t_c2 := neI c2
        have : (0 : Int32).toInt = 0 := (by decide)
        have : (1 : Int32).toInt = 1 := (by decide)
        first | rfl | ((repeat' split) <;> first | rfl | omega)
      refine W.widen (k := 0) (n := 0) (by omega) (by omega) ?_
      exact W.zret (v := 0) hx hb hr (by first | rfl | decide | exact rfl) (fun t ht hW => ⟨⟨0, (), rfl, ⟨hpost, trivial⟩, trivial⟩, hS.F ht⟩) hS.2.2 dX10_isFractionPart_14
    · skip
      refine lv_iconst (v := 1) hx hb dX10_isFractionPart_9 (by decide) ?_
      refine lv_goto (tgt := 14) hx hb dX10_isFractionPart_10 (by decide) ?_
      have hpost : (1 : Int32) = if 0 ≤ i.toInt ∧ i.toInt ≤ 1 then 1 else 0 := by
        have t_c1 := neI c1
        have t_c2 := eqI c2
        have : (0 : Int32).toInt = 0 := (by decide)
        have : (1 : Int32).toInt = 1 := (by decide)
        first | rfl | ((repeat' split) <;> first | rfl | omega)
      refine W.widen (k := 0) (n := 0) (by omega) (by omega) ?_
      exact W.zret (v := 1) hx hb hr (by first | rfl | decide | exact rfl) (fun t ht hW => ⟨⟨1, (), rfl, ⟨hpost, trivial⟩, trivial⟩, hS.F ht⟩) hS.2.2 dX10_isFractionPart_14

set_option maxHeartbeats 1000000 in
set_option maxRecDepth 100000 in
theorem c_X10_isAnswerPart (l : Launch) (dC : Nat → ClassId) (dI : Nat → Nat → Nat) (G : Nat → ClassId) (sz : Nat) (i : Int32)  : Met l yX10_isAnswerPart (Cond.code yX10_isAnswerPart cX10_isAnswerPart 1 (some .boolean) :: GT) ({ frames := 0, cells := 0, slots := 0, locals := 0 } : Room) (PcR [.int i] dC dI G [] sz) (va_Qi (fun (r : Int32) (u : Unit) => match u with | _ => (r = if 0 ≤ i.toInt ∧ i.toInt ≤ 2 then 1 else 0) ∧ True) (fun _ _ => True) (fun q : Nat => sz ≤ q)) 0 0 (fun q : Nat => sz ≤ q) := by
  refine Met.ofW (cc := cX10_isAnswerPart) (maxL := 1) (ret := (some .boolean)) (by decide) rfl ?_
  intro p e s m args below meth c s₁ Bd hml hv
  obtain ⟨rfl, hsz, hP, hK⟩ := hv
  have hx := Bd.exec
  have hb := Bd.bytes
  have hr := Bd.returns
  have hg : ∀ w ∈ GT, w.before ([.int i] : List Value).toArray s = true := fun w h => atoms_spec (ws := Cond.code yX10_isAnswerPart cX10_isAnswerPart 1 (some .boolean) :: GT) Bd.pre w (List.mem_cons_of_mem _ h)
  have hown : s.vm.findClass RX10 = some m.cls := findClass_of_methodNamed Bd.named
  have hlocks := Bd.notSynchronized
  subst hsz
  have hA : ∀ q : Nat, s.heap.size ≤ q → (fun q : Nat => s.heap.size ≤ q) q := fun _ h => h
  have hS : va_S (fun q : Nat => s.heap.size ≤ q) s.heap s.heap [] := va_S.rf
  have hl := lv_entry ([.int i]) (n := 1) (Nat.le_of_ble_eq_true rfl)
  rw [lg_entry_eq]
  generalize (lg_sl ([.int i]) ++ List.replicate (1 - (lg_sl ([.int i])).length) Slot.unset).toArray = ls at hl ⊢
  have hl : lv_has ls 1 [(0, .int i)] := hl
  refine lv_iload_n hx hb dX10_isAnswerPart_0 rfl (lv_at hl 0 rfl) ?_
  refine lv_if_lt (tgt := 13) hx hb dX10_isAnswerPart_1 (by decide) (fun c1 => ?_) (fun c1 => ?_)
  · skip
    refine lv_iconst (v := 0) hx hb dX10_isAnswerPart_13 (by decide) ?_
    have hpost : (0 : Int32) = if 0 ≤ i.toInt ∧ i.toInt ≤ 2 then 1 else 0 := by
      have t_c1 := ltI c1
      have : (0 : Int32).toInt = 0 := (by decide)
      first | rfl | ((repeat' split) <;> first | rfl | omega)
    refine W.widen (k := 0) (n := 0) (by omega) (by omega) ?_
    exact W.zret (v := 0) hx hb hr (by first | rfl | decide | exact rfl) (fun t ht hW => ⟨⟨0, (), rfl, ⟨hpost, trivial⟩, trivial⟩, hS.F ht⟩) hS.2.2 dX10_isAnswerPart_14
  · skip
    refine lv_iload_n hx hb dX10_isAnswerPart_4 rfl (lv_at hl 0 rfl) ?_
    refine lv_iconst (v := 2) hx hb dX10_isAnswerPart_5 (by decide) ?_
    refine lv_icmp_gt (tgt := 13) hx hb dX10_isAnswerPart_6 (by decide) (fun c2 => ?_) (fun c2 => ?_)
    · skip
      refine lv_iconst (v := 0) hx hb dX10_isAnswerPart_13 (by decide) ?_
      have hpost : (0 : Int32) = if 0 ≤ i.toInt ∧ i.toInt ≤ 2 then 1 else 0 := by
        have t_c1 := nltI c1
        have t_c2 := ltI c2
        have : (0 : Int32).toInt = 0 := (by decide)
        have : (2 : Int32).toInt = 2 := (by decide)
        first | rfl | ((repeat' split) <;> first | rfl | omega)
      refine W.widen (k := 0) (n := 0) (by omega) (by omega) ?_
      exact W.zret (v := 0) hx hb hr (by first | rfl | decide | exact rfl) (fun t ht hW => ⟨⟨0, (), rfl, ⟨hpost, trivial⟩, trivial⟩, hS.F ht⟩) hS.2.2 dX10_isAnswerPart_14
    · skip
      refine lv_iconst (v := 1) hx hb dX10_isAnswerPart_9 (by decide) ?_
      refine lv_goto (tgt := 14) hx hb dX10_isAnswerPart_10 (by decide) ?_
      have hpost : (1 : Int32) = if 0 ≤ i.toInt ∧ i.toInt ≤ 2 then 1 else 0 := by
        have t_c1 := nltI c1
        have t_c2 := nltI c2
        have : (0 : Int32).toInt = 0 := (by decide)
        have : (2 : Int32).toInt = 2 := (by decide)
        first | rfl | ((repeat' split) <;> first | rfl | omega)
      refine W.widen (k := 0) (n := 0) (by omega) (by omega) ?_
      exact W.zret (v := 1) hx hb hr (by first | rfl | decide | exact rfl) (fun t ht hW => ⟨⟨1, (), rfl, ⟨hpost, trivial⟩, trivial⟩, hS.F ht⟩) hS.2.2 dX10_isAnswerPart_14

set_option maxHeartbeats 1000000 in
set_option maxRecDepth 100000 in
theorem c_X10_isDepth (l : Launch) (dC : Nat → ClassId) (dI : Nat → Nat → Nat) (G : Nat → ClassId) (sz : Nat) (i : Int32)  : Met l yX10_isDepth (Cond.code yX10_isDepth cX10_isDepth 1 (some .boolean) :: GT) ({ frames := 0, cells := 0, slots := 0, locals := 0 } : Room) (PcR [.int i] dC dI G [] sz) (va_Qi (fun (r : Int32) (u : Unit) => match u with | _ => (r = if 0 ≤ i.toInt ∧ i.toInt ≤ 9 then 1 else 0) ∧ True) (fun _ _ => True) (fun q : Nat => sz ≤ q)) 0 0 (fun q : Nat => sz ≤ q) := by
  refine Met.ofW (cc := cX10_isDepth) (maxL := 1) (ret := (some .boolean)) (by decide) rfl ?_
  intro p e s m args below meth c s₁ Bd hml hv
  obtain ⟨rfl, hsz, hP, hK⟩ := hv
  have hx := Bd.exec
  have hb := Bd.bytes
  have hr := Bd.returns
  have hg : ∀ w ∈ GT, w.before ([.int i] : List Value).toArray s = true := fun w h => atoms_spec (ws := Cond.code yX10_isDepth cX10_isDepth 1 (some .boolean) :: GT) Bd.pre w (List.mem_cons_of_mem _ h)
  have hown : s.vm.findClass RX10 = some m.cls := findClass_of_methodNamed Bd.named
  have hlocks := Bd.notSynchronized
  subst hsz
  have hA : ∀ q : Nat, s.heap.size ≤ q → (fun q : Nat => s.heap.size ≤ q) q := fun _ h => h
  have hS : va_S (fun q : Nat => s.heap.size ≤ q) s.heap s.heap [] := va_S.rf
  have hl := lv_entry ([.int i]) (n := 1) (Nat.le_of_ble_eq_true rfl)
  rw [lg_entry_eq]
  generalize (lg_sl ([.int i]) ++ List.replicate (1 - (lg_sl ([.int i])).length) Slot.unset).toArray = ls at hl ⊢
  have hl : lv_has ls 1 [(0, .int i)] := hl
  refine lv_iload_n hx hb dX10_isDepth_0 rfl (lv_at hl 0 rfl) ?_
  refine lv_if_lt (tgt := 14) hx hb dX10_isDepth_1 (by decide) (fun c1 => ?_) (fun c1 => ?_)
  · skip
    refine lv_iconst (v := 0) hx hb dX10_isDepth_14 (by decide) ?_
    have hpost : (0 : Int32) = if 0 ≤ i.toInt ∧ i.toInt ≤ 9 then 1 else 0 := by
      have t_c1 := ltI c1
      have : (0 : Int32).toInt = 0 := (by decide)
      first | rfl | ((repeat' split) <;> first | rfl | omega)
    refine W.widen (k := 0) (n := 0) (by omega) (by omega) ?_
    exact W.zret (v := 0) hx hb hr (by first | rfl | decide | exact rfl) (fun t ht hW => ⟨⟨0, (), rfl, ⟨hpost, trivial⟩, trivial⟩, hS.F ht⟩) hS.2.2 dX10_isDepth_15
  · skip
    refine lv_iload_n hx hb dX10_isDepth_4 rfl (lv_at hl 0 rfl) ?_
    refine lv_bipush (v := 9) hx hb dX10_isDepth_5 (by decide) ?_
    refine lv_icmp_gt (tgt := 14) hx hb dX10_isDepth_7 (by decide) (fun c2 => ?_) (fun c2 => ?_)
    · skip
      refine lv_iconst (v := 0) hx hb dX10_isDepth_14 (by decide) ?_
      have hpost : (0 : Int32) = if 0 ≤ i.toInt ∧ i.toInt ≤ 9 then 1 else 0 := by
        have t_c1 := nltI c1
        have t_c2 := ltI c2
        have : (0 : Int32).toInt = 0 := (by decide)
        have : (9 : Int32).toInt = 9 := (by decide)
        first | rfl | ((repeat' split) <;> first | rfl | omega)
      refine W.widen (k := 0) (n := 0) (by omega) (by omega) ?_
      exact W.zret (v := 0) hx hb hr (by first | rfl | decide | exact rfl) (fun t ht hW => ⟨⟨0, (), rfl, ⟨hpost, trivial⟩, trivial⟩, hS.F ht⟩) hS.2.2 dX10_isDepth_15
    · skip
      refine lv_iconst (v := 1) hx hb dX10_isDepth_10 (by decide) ?_
      refine lv_goto (tgt := 15) hx hb dX10_isDepth_11 (by decide) ?_
      have hpost : (1 : Int32) = if 0 ≤ i.toInt ∧ i.toInt ≤ 9 then 1 else 0 := by
        have t_c1 := nltI c1
        have t_c2 := nltI c2
        have : (0 : Int32).toInt = 0 := (by decide)
        have : (9 : Int32).toInt = 9 := (by decide)
        first | rfl | ((repeat' split) <;> first | rfl | omega)
      refine W.widen (k := 0) (n := 0) (by omega) (by omega) ?_
      exact W.zret (v := 1) hx hb hr (by first | rfl | decide | exact rfl) (fun t ht hW => ⟨⟨1, (), rfl, ⟨hpost, trivial⟩, trivial⟩, hS.F ht⟩) hS.2.2 dX10_isDepth_15

set_option maxHeartbeats 1000000 in
set_option maxRecDepth 100000 in
theorem c_X10_isImage (l : Launch) (dC : Nat → ClassId) (dI : Nat → Nat → Nat) (G : Nat → ClassId) (sz : Nat) (i : Int32)  : Met l yX10_isImage (Cond.code yX10_isImage cX10_isImage 1 (some .boolean) :: GT) ({ frames := 0, cells := 0, slots := 0, locals := 0 } : Room) (PcR [.int i] dC dI G [] sz) (va_Qi (fun (r : Int32) (u : Unit) => match u with | _ => (r = if 0 ≤ i.toInt ∧ i.toInt < 2 then 1 else 0) ∧ True) (fun _ _ => True) (fun q : Nat => sz ≤ q)) 0 0 (fun q : Nat => sz ≤ q) := by
  refine Met.ofW (cc := cX10_isImage) (maxL := 1) (ret := (some .boolean)) (by decide) rfl ?_
  intro p e s m args below meth c s₁ Bd hml hv
  obtain ⟨rfl, hsz, hP, hK⟩ := hv
  have hx := Bd.exec
  have hb := Bd.bytes
  have hr := Bd.returns
  have hg : ∀ w ∈ GT, w.before ([.int i] : List Value).toArray s = true := fun w h => atoms_spec (ws := Cond.code yX10_isImage cX10_isImage 1 (some .boolean) :: GT) Bd.pre w (List.mem_cons_of_mem _ h)
  have hown : s.vm.findClass RX10 = some m.cls := findClass_of_methodNamed Bd.named
  have hlocks := Bd.notSynchronized
  subst hsz
  have hA : ∀ q : Nat, s.heap.size ≤ q → (fun q : Nat => s.heap.size ≤ q) q := fun _ h => h
  have hS : va_S (fun q : Nat => s.heap.size ≤ q) s.heap s.heap [] := va_S.rf
  have hl := lv_entry ([.int i]) (n := 1) (Nat.le_of_ble_eq_true rfl)
  rw [lg_entry_eq]
  generalize (lg_sl ([.int i]) ++ List.replicate (1 - (lg_sl ([.int i])).length) Slot.unset).toArray = ls at hl ⊢
  have hl : lv_has ls 1 [(0, .int i)] := hl
  refine lv_iload_n hx hb dX10_isImage_0 rfl (lv_at hl 0 rfl) ?_
  refine lv_if_lt (tgt := 13) hx hb dX10_isImage_1 (by decide) (fun c1 => ?_) (fun c1 => ?_)
  · skip
    refine lv_iconst (v := 0) hx hb dX10_isImage_13 (by decide) ?_
    have hpost : (0 : Int32) = if 0 ≤ i.toInt ∧ i.toInt < 2 then 1 else 0 := by
      have t_c1 := ltI c1
      have : (0 : Int32).toInt = 0 := (by decide)
      first | rfl | ((repeat' split) <;> first | rfl | omega)
    refine W.widen (k := 0) (n := 0) (by omega) (by omega) ?_
    exact W.zret (v := 0) hx hb hr (by first | rfl | decide | exact rfl) (fun t ht hW => ⟨⟨0, (), rfl, ⟨hpost, trivial⟩, trivial⟩, hS.F ht⟩) hS.2.2 dX10_isImage_14
  · skip
    refine lv_iload_n hx hb dX10_isImage_4 rfl (lv_at hl 0 rfl) ?_
    refine lv_iconst (v := 2) hx hb dX10_isImage_5 (by decide) ?_
    refine lv_icmp_ge (tgt := 13) hx hb dX10_isImage_6 (by decide) (fun c2 => ?_) (fun c2 => ?_)
    · skip
      refine lv_iconst (v := 0) hx hb dX10_isImage_13 (by decide) ?_
      have hpost : (0 : Int32) = if 0 ≤ i.toInt ∧ i.toInt < 2 then 1 else 0 := by
        have t_c1 := nltI c1
        have t_c2 := leI c2
        have : (0 : Int32).toInt = 0 := (by decide)
        have : (2 : Int32).toInt = 2 := (by decide)
        first | rfl | ((repeat' split) <;> first | rfl | omega)
      refine W.widen (k := 0) (n := 0) (by omega) (by omega) ?_
      exact W.zret (v := 0) hx hb hr (by first | rfl | decide | exact rfl) (fun t ht hW => ⟨⟨0, (), rfl, ⟨hpost, trivial⟩, trivial⟩, hS.F ht⟩) hS.2.2 dX10_isImage_14
    · skip
      refine lv_iconst (v := 1) hx hb dX10_isImage_9 (by decide) ?_
      refine lv_goto (tgt := 14) hx hb dX10_isImage_10 (by decide) ?_
      have hpost : (1 : Int32) = if 0 ≤ i.toInt ∧ i.toInt < 2 then 1 else 0 := by
        have t_c1 := nltI c1
        have t_c2 := nleI c2
        have : (0 : Int32).toInt = 0 := (by decide)
        have : (2 : Int32).toInt = 2 := (by decide)
        first | rfl | ((repeat' split) <;> first | rfl | omega)
      refine W.widen (k := 0) (n := 0) (by omega) (by omega) ?_
      exact W.zret (v := 1) hx hb hr (by first | rfl | decide | exact rfl) (fun t ht hW => ⟨⟨1, (), rfl, ⟨hpost, trivial⟩, trivial⟩, hS.F ht⟩) hS.2.2 dX10_isImage_14

set_option maxHeartbeats 1000000 in
set_option maxRecDepth 100000 in
theorem c_X10_change (l : Launch) (dC : Nat → ClassId) (dI : Nat → Nat → Nat) (G : Nat → ClassId) (sz : Nat) (ra k : Nat) (v : Int32) (f : Nat → Int32) (hk : k < 10) : Met l yX10_change (Cond.code yX10_change cX10_change 4 (some .int) :: GT) ({ frames := 0, cells := 0, slots := 0, locals := 0 } : Room) (PcW [.ref ra, .int (nI k), .int v] dC dI G [(ra, .inl (G 0, 10, .inl f))] sz) (va_Qi (fun (r : Int32) (u : (Nat → Int32)) => match u with | u0 => (True) ∧ True) (fun (u : (Nat → Int32)) (t : State) => match u with | u0 => va_P (dC, dI) vwCl [(ra, .inl (G 0, 10, .inl u0))] t.heap ∧ va_D (va_A [(ra, .inl (G 0, 10, .inl f))] sz) [(ra, .inl (G 0, 10, .inl u0))]) (va_A [(ra, .inl (G 0, 10, .inl f))] sz)) 0 0 (va_A [(ra, .inl (G 0, 10, .inl f))] sz) := by
  refine Met.ofW (cc := cX10_change) (maxL := 4) (ret := (some .int)) (by decide) rfl ?_
  intro p e s m args below meth c s₁ Bd hml hv
  obtain ⟨rfl, hsz, hP, hK, hD0⟩ := hv
  have hx := Bd.exec
  have hb := Bd.bytes
  have hr := Bd.returns
  have hg : ∀ w ∈ GT, w.before ([.ref ra, .int (nI k), .int v] : List Value).toArray s = true := fun w h => atoms_spec (ws := Cond.code yX10_change cX10_change 4 (some .int) :: GT) Bd.pre w (List.mem_cons_of_mem _ h)
  have hown : s.vm.findClass RX10 = some m.cls := findClass_of_methodNamed Bd.named
  have hlocks := Bd.notSynchronized
  subst hsz
  have hD := hD0.self (sz := s.heap.size)
  generalize hAe : va_A [(ra, .inl (G 0, 10, .inl f))] s.heap.size = A at hD ⊢
  have hA : ∀ q : Nat, s.heap.size ≤ q → A q := fun q h => by rw [← hAe]; exact Or.inr h
  have hS : va_S A s.heap s.heap [] := va_S.rf
  have hl := lv_entry ([.ref ra, .int (nI k), .int v]) (n := 4) (Nat.le_of_ble_eq_true rfl)
  rw [lg_entry_eq]
  generalize (lg_sl ([.ref ra, .int (nI k), .int v]) ++ List.replicate (4 - (lg_sl ([.ref ra, .int (nI k), .int v])).length) Slot.unset).toArray = ls at hl ⊢
  have hl : lv_has ls 4 [(0, .ref ra), (1, .int (nI k)), (2, .int v)] := hl
  refine lv_iload_n hx hb dX10_change_0 rfl (lv_at hl 2 rfl) ?_
  refine lv_if_lt (tgt := 20) hx hb dX10_change_1 (by decide) (fun c1 => ?_) (fun c1 => ?_)
  · skip
    refine lv_iconst (v := (-1)) hx hb dX10_change_20 (by decide) ?_
    have hpost : True := by
      trivial
    have hP9 := hP.sub (ws' := [(ra, .inl (G 0, 10, .inl f))]) [0] rfl
    have hD9 := hD.sub (ws' := [(ra, .inl (G 0, 10, .inl f))]) [0] (by decide) rfl
    refine W.widen (k := 0) (n := 0) (by omega) (by omega) ?_
    exact W.iret (v := (-1)) hx hb hr (fun t ht hW => ⟨⟨(-1), f, rfl, ⟨hpost, trivial⟩, ⟨by rw [ht]; exact hP9, hD9⟩⟩, hS.F ht⟩) hS.2.2 dX10_change_21
  · skip
    refine lv_iload_n hx hb dX10_change_4 rfl (lv_at hl 2 rfl) ?_
    refine lv_bipush (v := 9) hx hb dX10_change_5 (by decide) ?_
    refine lv_icmp_gt (tgt := 20) hx hb dX10_change_7 (by decide) (fun c2 => ?_) (fun c2 => ?_)
    · skip
      refine lv_iconst (v := (-1)) hx hb dX10_change_20 (by decide) ?_
      have hpost : True := by
        trivial
      have hP9 := hP.sub (ws' := [(ra, .inl (G 0, 10, .inl f))]) [0] rfl
      have hD9 := hD.sub (ws' := [(ra, .inl (G 0, 10, .inl f))]) [0] (by decide) rfl
      refine W.widen (k := 0) (n := 0) (by omega) (by omega) ?_
      exact W.iret (v := (-1)) hx hb hr (fun t ht hW => ⟨⟨(-1), f, rfl, ⟨hpost, trivial⟩, ⟨by rw [ht]; exact hP9, hD9⟩⟩, hS.F ht⟩) hS.2.2 dX10_change_21
    · skip
      refine lv_iload_n hx hb dX10_change_10 rfl (lv_at hl 1 rfl) ?_
      refine lv_if_lt (tgt := 20) hx hb dX10_change_11 (by decide) (fun c3 => ?_) (fun c3 => ?_)
      · skip
        have t_c1 := nltI c1
        have t_c2 := nltI c2
        have t_c3 := ltI c3
        have : (0 : Int32).toInt = 0 := (by decide)
        have : (9 : Int32).toInt = 9 := (by decide)
        have t_n0 : (nI k).toInt = (k : Int) := nI_toInt (by omega)
        have t_n0 : (nI k).toInt = (k : Int) := nI_toInt (by omega)
        exfalso; omega
      · skip
        have n4 : 0 ≤ k := by have t := nltI c3; rw [nI_toInt (n := k) (by omega)] at t; have : (0 : Int32).toInt = 0 := (by decide); omega
        refine lv_iload_n hx hb dX10_change_14 rfl (lv_at hl 1 rfl) ?_
        refine lv_aload_n hx hb dX10_change_15 rfl (lv_at hl 0 rfl) ?_
        refine va_alen (v := 10) hx hb hK.1 hP 0 0 rfl rfl (by rfl) dX10_change_16 ?_
        refine lv_icmp_lt (tgt := 22) hx hb dX10_change_17 (by decide) (fun c5 => ?_) (fun c5 => ?_)
        · skip
          have n6 : k < 10 := by have t := ltI c5; rw [nI_toInt (n := k) (by omega)] at t; have : (10 : Int32).toInt = 10 := (by decide); omega
          refine lv_aload_n hx hb dX10_change_22 rfl (lv_at hl 0 rfl) ?_
          refine lv_iload_n hx hb dX10_change_23 rfl (lv_at hl 1 rfl) ?_
          refine va_iald hx hb hK.1 hP 0 0 rfl rfl (vp_in_nI (by have t_c1 := nltI c1; have t_c2 := nltI c2; have t_n4 := n4; have t_n6 := n6; have : (0 : Int32).toInt = 0 := (by decide); have : (9 : Int32).toInt = 9 := (by decide); have t_n0 : (nI k).toInt = (k : Int) := nI_toInt (by omega); omega) (by decide)) dX10_change_24 ?_
          refine lv_cg (y := f k) (by rw [nI_clamp (by omega)]) ?_
          refine lv_istore_n (lv' := [(3, .int (f k)), (0, .ref ra), (1, .int (nI k)), (2, .int v)]) hx hb dX10_change_25 rfl hl (by decide) rfl (fun ls hl => ?_)
          refine lv_aload_n hx hb dX10_change_26 rfl (lv_at hl 1 rfl) ?_
          refine lv_iload_n hx hb dX10_change_27 rfl (lv_at hl 2 rfl) ?_
          refine lv_iload_n hx hb dX10_change_28 rfl (lv_at hl 3 rfl) ?_
          refine va_iast hx hb hK.1 hP hD hS 0 0 rfl rfl (vp_in_nI (by have t_c1 := nltI c1; have t_c2 := nltI c2; have t_n4 := n4; have t_n6 := n6; have : (0 : Int32).toInt = 0 := (by decide); have : (9 : Int32).toInt = 9 := (by decide); have t_n0 : (nI k).toInt = (k : Int) := nI_toInt (by omega); omega) (by decide)) dX10_change_29 (fun H locs hP hD hS => ?_)
          rw [nI_clamp (by omega)] at hP hD
          have hP : va_P (dC, dI) vwCl [(ra, .inl (G 0, 10, .inl (upd f k v)))] H := hP
          have hD : va_D A [(ra, .inl (G 0, 10, .inl (upd f k v)))] := hD
          refine lv_iload_n hx hb dX10_change_30 rfl (lv_at hl 0 rfl) ?_
          have hpost : True := by
            trivial
          have hP9 := hP.sub (ws' := [(ra, .inl (G 0, 10, .inl (upd f k v)))]) [0] rfl
          have hD9 := hD.sub (ws' := [(ra, .inl (G 0, 10, .inl (upd f k v)))]) [0] (by decide) rfl
          refine W.widen (k := 0) (n := 0) (by omega) (by omega) ?_
          exact W.iret (v := f k) hx hb hr (fun t ht hW => ⟨⟨f k, (upd f k v), rfl, ⟨hpost, trivial⟩, ⟨by rw [ht]; exact hP9, hD9⟩⟩, hS.F ht⟩) hS.2.2 dX10_change_31
        · skip
          have t_c1 := nltI c1
          have t_c2 := nltI c2
          have t_n4 := n4
          have t_c5 := nltI c5
          have : (0 : Int32).toInt = 0 := (by decide)
          have : (9 : Int32).toInt = 9 := (by decide)
          have : (10 : Int32).toInt = 10 := (by decide)
          have t_n0 : (nI k).toInt = (k : Int) := nI_toInt (by omega)
          have t_n0 : (nI k).toInt = (k : Int) := nI_toInt (by omega)
          exfalso; omega

set_option maxHeartbeats 1000000 in
set_option maxRecDepth 100000 in
theorem c_X10_commonDivisor (l : Launch) (dC : Nat → ClassId) (dI : Nat → Nat → Nat) (G : Nat → ClassId) (sz : Nat) (v q1 : Int64)  : Met l yX10_commonDivisor (Cond.code yX10_commonDivisor cX10_commonDivisor 11 (some .long) :: GT) ({ frames := 0, cells := 0, slots := 0, locals := 0 } : Room) (PcR [.long v, .long q1] dC dI G [] sz) (va_Ql (fun (r : Int64) (u : Unit) => match u with | _ => (True) ∧ True) (fun _ _ => True) (fun q : Nat => sz ≤ q)) 0 0 (fun q : Nat => sz ≤ q) := by
  refine Met.ofW (cc := cX10_commonDivisor) (maxL := 11) (ret := (some .long)) (by decide) rfl ?_
  intro p e s m args below meth c s₁ Bd hml hv
  obtain ⟨rfl, hsz, hP, hK⟩ := hv
  have hx := Bd.exec
  have hb := Bd.bytes
  have hr := Bd.returns
  have hg : ∀ w ∈ GT, w.before ([.long v, .long q1] : List Value).toArray s = true := fun w h => atoms_spec (ws := Cond.code yX10_commonDivisor cX10_commonDivisor 11 (some .long) :: GT) Bd.pre w (List.mem_cons_of_mem _ h)
  have hown : s.vm.findClass RX10 = some m.cls := findClass_of_methodNamed Bd.named
  have hlocks := Bd.notSynchronized
  subst hsz
  have hA : ∀ q : Nat, s.heap.size ≤ q → (fun q : Nat => s.heap.size ≤ q) q := fun _ h => h
  have hS : va_S (fun q : Nat => s.heap.size ≤ q) s.heap s.heap [] := va_S.rf
  have hl := lv_entry ([.long v, .long q1]) (n := 11) (Nat.le_of_ble_eq_true rfl)
  rw [lg_entry_eq]
  generalize (lg_sl ([.long v, .long q1]) ++ List.replicate (11 - (lg_sl ([.long v, .long q1])).length) Slot.unset).toArray = ls at hl ⊢
  have hl : lv_has ls 11 [(0, .long v), (2, .long q1)] := hl
  refine lv_lload_n hx hb dX10_commonDivisor_0 rfl (lv_at hl 0 rfl) ?_
  refine lv_lstore (lv' := [(4, .long v), (0, .long v), (2, .long q1)]) hx hb dX10_commonDivisor_1 hl (by decide) rfl (fun ls hl => ?_)
  refine lv_lload_n hx hb dX10_commonDivisor_3 rfl (lv_at hl 2 rfl) ?_
  refine lv_lstore (lv' := [(6, .long q1), (4, .long v), (0, .long v), (2, .long q1)]) hx hb dX10_commonDivisor_4 hl (by decide) rfl (fun ls hl => ?_)
  refine lv_iconst (v := 0) hx hb dX10_commonDivisor_6 (by decide) ?_
  refine lv_istore (lv' := [(8, .int 0), (6, .long q1), (4, .long v), (0, .long v), (2, .long q1)]) hx hb dX10_commonDivisor_7 hl (by decide) rfl (fun ls hl => ?_)
  have loop9_4 : ∀ (nf j1 : Nat), 200 + 1 ≤ j1 + nf → j1 ≤ 200 → ∀ (y2 : Int64) (y3 : Int64) (H : Heap) (locs : List Loc), va_P (dC, dI) vwCl [] H → va_S (fun q : Nat => s.heap.size ≤ q) s.heap H locs → ∀ (ls : Array Slot), lv_has ls 11 [(8, .int (nI j1)), (6, .long y2), (4, .long y3), (0, .long v), (2, .long q1)] → W p l e (headSpec (Cond.code yX10_commonDivisor cX10_commonDivisor 11 (some .long) :: GT) ({ frames := 0, cells := 0, slots := 0, locals := 0 } : Room)).room s m ([.long v, .long q1] : List Value).toArray below meth c H locs 0 0 (MQ below (va_Ql (fun (r : Int64) (u : Unit) => match u with | _ => (True) ∧ True) (fun _ _ => True) (fun q : Nat => s.heap.size ≤ q)) ([.long v, .long q1] : List Value).toArray s 0 0 (fun q : Nat => s.heap.size ≤ q)) (F0 m 9 ls []) := by
    intro nf
    induction nf with
    | zero => intro j1 h1 h2; exact absurd h1 (by omega)
    | succ nf ih9_4 =>
      intro j1 hn5 hj6 y2 y3 H locs hP hS ls hl
      refine lv_iload hx hb dX10_commonDivisor_9 (lv_at hl 0 rfl) ?_
      refine lv_sipush (v := 200) hx hb dX10_commonDivisor_11 (by decide) ?_
      refine lv_icmp_ge (tgt := 45) hx hb dX10_commonDivisor_14 (by decide) (fun c7 => ?_) (fun c7 => ?_)
      · skip
        have n8 : 200 ≤ j1 := by have t := leI c7; rw [nI_toInt (n := j1) (by omega)] at t; have : (200 : Int32).toInt = 200 := (by decide); omega
        refine lv_lload hx hb dX10_commonDivisor_45 (lv_at hl 2 rfl) ?_
        have hpost : True := by
          trivial
        refine W.widen (k := 0) (n := 0) (by omega) (by omega) ?_
        exact W.lret (v := y3) hx hb hr (fun t ht hW => ⟨⟨y3, (), rfl, ⟨hpost, trivial⟩, trivial⟩, hS.F ht⟩) hS.2.2 dX10_commonDivisor_47
      · skip
        have n9 : j1 < 200 := by have t := nleI c7; rw [nI_toInt (n := j1) (by omega)] at t; have : (200 : Int32).toInt = 200 := (by decide); omega
        refine lv_lload hx hb dX10_commonDivisor_17 (lv_at hl 1 rfl) ?_
        refine lv_lconst (v := 0) hx hb dX10_commonDivisor_19 (by decide) ?_
        refine W.lcmp hx hb dX10_commonDivisor_20 ?_
        refine lv_if_eq (tgt := 45) hx hb dX10_commonDivisor_21 (by decide) (fun c10 => ?_) (fun c10 => ?_)
        · skip
          refine lv_lload hx hb dX10_commonDivisor_45 (lv_at hl 2 rfl) ?_
          have hpost : True := by
            trivial
          refine W.widen (k := 0) (n := 0) (by omega) (by omega) ?_
          exact W.lret (v := y3) hx hb hr (fun t ht hW => ⟨⟨y3, (), rfl, ⟨hpost, trivial⟩, trivial⟩, hS.F ht⟩) hS.2.2 dX10_commonDivisor_47
        · skip
          refine lv_lload hx hb dX10_commonDivisor_24 (lv_at hl 2 rfl) ?_
          refine lv_lload hx hb dX10_commonDivisor_26 (lv_at hl 1 rfl) ?_
          refine lv_lrem hx hb dX10_commonDivisor_28 (by intro h0; have t0 := congrArg Int64.toInt h0; have z0 : (0 : Int64).toInt = 0 := (by decide); have t_hj6 := hj6; have t_n9 := n9; have t_c10 := lcm_eq_f c10; have : (0 : Int64).toInt = 0 := (by decide); have t_n0 : (nI j1).toInt = (j1 : Int) := nI_toInt (by omega); omega) ?_
          refine lv_lstore (lv' := [(9, .long (y3 - y3 / y2 * y2)), (8, .int (nI j1)), (6, .long y2), (4, .long y3), (0, .long v), (2, .long q1)]) hx hb dX10_commonDivisor_29 hl (by decide) rfl (fun ls hl => ?_)
          refine lv_lload hx hb dX10_commonDivisor_31 (lv_at hl 2 rfl) ?_
          refine lv_lstore (lv' := [(4, .long y2), (9, .long (y3 - y3 / y2 * y2)), (8, .int (nI j1)), (6, .long y2), (0, .long v), (2, .long q1)]) hx hb dX10_commonDivisor_33 hl (by decide) rfl (fun ls hl => ?_)
          refine lv_lload hx hb dX10_commonDivisor_35 (lv_at hl 1 rfl) ?_
          refine lv_lstore (lv' := [(6, .long (y3 - y3 / y2 * y2)), (4, .long y2), (9, .long (y3 - y3 / y2 * y2)), (8, .int (nI j1)), (0, .long v), (2, .long q1)]) hx hb dX10_commonDivisor_37 hl (by decide) rfl (fun ls hl => ?_)
          refine lv_iinc (v := nI (j1 + 1)) (lv' := [(8, .int (nI (j1 + 1))), (6, .long (y3 - y3 / y2 * y2)), (4, .long y2), (9, .long (y3 - y3 / y2 * y2)), (0, .long v), (2, .long q1)]) hx hb dX10_commonDivisor_39 hl (k := 3) rfl (by rw [show Int32.ofInt 1 = nI 1 from by decide]; exact nI_add _ _) (by decide) rfl (fun ls hl => ?_)
          refine lv_goto (tgt := 9) hx hb dX10_commonDivisor_42 (by decide) ?_
          exact ih9_4 (j1 + 1) (by omega) (by omega) (y3 - y3 / y2 * y2) y2 _ _ hP hS ls (lv_sub hl [0, 1, 2, 4, 5] rfl)
  exact loop9_4 (200 + 1) 0 (by omega) (by omega) q1 v _ _ hP hS ls (lv_sub hl [0, 1, 2, 3, 4] rfl)

set_option maxHeartbeats 1000000 in
set_option maxRecDepth 100000 in
theorem c_X10_fraction (l : Launch) (dC : Nat → ClassId) (dI : Nat → Nat → Nat) (G : Nat → ClassId) (sz : Nat) (i : Int32) (v q1 : Int64)  : Met l yX10_fraction (Cond.code yX10_fraction cX10_fraction 7 (some .long) :: GT) ({ frames := 1, cells := 0, slots := 0, locals := 30 } : Room) (PcR [.long v, .long q1, .int i] dC dI G [] sz) (va_Ql (fun (r : Int64) (u : Unit) => match u with | _ => (True) ∧ True) (fun _ _ => True) (fun q : Nat => sz ≤ q)) 0 0 (fun q : Nat => sz ≤ q) := by
  refine Met.ofW (cc := cX10_fraction) (maxL := 7) (ret := (some .long)) (by decide) rfl ?_
  intro p e s m args below meth c s₁ Bd hml hv
  obtain ⟨rfl, hsz, hP, hK⟩ := hv
  have hx := Bd.exec
  have hb := Bd.bytes
  have hr := Bd.returns
  have hg : ∀ w ∈ GT, w.before ([.long v, .long q1, .int i] : List Value).toArray s = true := fun w h => atoms_spec (ws := Cond.code yX10_fraction cX10_fraction 7 (some .long) :: GT) Bd.pre w (List.mem_cons_of_mem _ h)
  have hown : s.vm.findClass RX10 = some m.cls := findClass_of_methodNamed Bd.named
  have hlocks := Bd.notSynchronized
  subst hsz
  have hA : ∀ q : Nat, s.heap.size ≤ q → (fun q : Nat => s.heap.size ≤ q) q := fun _ h => h
  have hS : va_S (fun q : Nat => s.heap.size ≤ q) s.heap s.heap [] := va_S.rf
  have hl := lv_entry ([.long v, .long q1, .int i]) (n := 7) (Nat.le_of_ble_eq_true rfl)
  rw [lg_entry_eq]
  generalize (lg_sl ([.long v, .long q1, .int i]) ++ List.replicate (7 - (lg_sl ([.long v, .long q1, .int i])).length) Slot.unset).toArray = ls at hl ⊢
  have hl : lv_has ls 7 [(0, .long v), (2, .long q1), (4, .int i)] := hl
  refine lv_lload_n hx hb dX10_fraction_0 rfl (lv_at hl 0 rfl) ?_
  refine lv_lload_n hx hb dX10_fraction_1 rfl (lv_at hl 1 rfl) ?_
  have hPc := hP.sub (ws' := []) [] rfl
  refine va_calll (va_runS (As := [.long v, .long q1]) (rest := []) ⟨hx, hb, hml, hown, hg⟩ (c_X10_commonDivisor l dC dI G _ v q1 ) (kwS hg mfX10_commonDivisor wt_638 ⟨Nat.le_of_ble_eq_true rfl, Nat.le_of_ble_eq_true rfl⟩) (preSR hK hPc) rfl rfl hl.1 rfl (lv_room (Nat.le_of_ble_eq_true rfl)) dX10_fraction_2 ⟨Nat.le_of_ble_eq_true rfl, Nat.le_of_ble_eq_true rfl⟩) hS (fun q h1 h2 => absurd h2 (Nat.not_le.mpr h1)) (fun q h => hA q (Nat.le_trans hS.1 h)) (fun r1 ur1 t H1 locs ht hvm w2 hB hz1 hk1 hS => ?_)
  have hP := keepR hP hk1
  obtain ⟨w2, w2x⟩ := w2
  refine lv_lstore (lv' := [(5, .long r1), (0, .long v), (2, .long q1), (4, .int i)]) hx hb dX10_fraction_5 hl (by decide) rfl (fun ls hl => ?_)
  refine lv_lload hx hb dX10_fraction_7 (lv_at hl 0 rfl) ?_
  refine lv_lconst (v := 0) hx hb dX10_fraction_9 (by decide) ?_
  refine W.lcmp hx hb dX10_fraction_10 ?_
  refine lv_if_ne (tgt := 18) hx hb dX10_fraction_11 (by decide) (fun c3 => ?_) (fun c3 => ?_)
  · skip
    refine lv_iload hx hb dX10_fraction_18 (lv_at hl 3 rfl) ?_
    refine lv_if_ne (tgt := 27) hx hb dX10_fraction_20 (by decide) (fun c4 => ?_) (fun c4 => ?_)
    · skip
      refine lv_lload_n hx hb dX10_fraction_27 rfl (lv_at hl 2 rfl) ?_
      refine lv_lload hx hb dX10_fraction_28 (lv_at hl 0 rfl) ?_
      refine lv_ldiv hx hb dX10_fraction_30 (by intro h0; have t0 := congrArg Int64.toInt h0; have z0 : (0 : Int64).toInt = 0 := (by decide); have t_c3 := lcm_ne_t c3; have t_c4 := neI c4; have : (0 : Int32).toInt = 0 := (by decide); have : (0 : Int64).toInt = 0 := (by decide); omega) ?_
      have hpost : True := by
        trivial
      refine W.widen (k := 0) (n := 0) (by omega) (by omega) ?_
      exact W.lret (v := q1 / r1) hx hb hr (fun t ht hW => ⟨⟨q1 / r1, (), rfl, ⟨hpost, trivial⟩, trivial⟩, hS.F ht⟩) hS.2.2 dX10_fraction_31
    · skip
      refine lv_lload_n hx hb dX10_fraction_23 rfl (lv_at hl 1 rfl) ?_
      refine lv_goto (tgt := 28) hx hb dX10_fraction_24 (by decide) ?_
      refine lv_lload hx hb dX10_fraction_28 (lv_at hl 0 rfl) ?_
      refine lv_ldiv hx hb dX10_fraction_30 (by intro h0; have t0 := congrArg Int64.toInt h0; have z0 : (0 : Int64).toInt = 0 := (by decide); have t_c3 := lcm_ne_t c3; have t_c4 := eqI c4; have : (0 : Int32).toInt = 0 := (by decide); have : (0 : Int64).toInt = 0 := (by decide); omega) ?_
      have hpost : True := by
        trivial
      refine W.widen (k := 0) (n := 0) (by omega) (by omega) ?_
      exact W.lret (v := v / r1) hx hb hr (fun t ht hW => ⟨⟨v / r1, (), rfl, ⟨hpost, trivial⟩, trivial⟩, hS.F ht⟩) hS.2.2 dX10_fraction_31
  · skip
    refine lv_ldc2 (v := (-1)) hx hb hown (hg _ wt_607) dX10_fraction_14 ?_
    have hpost : True := by
      trivial
    refine W.widen (k := 0) (n := 0) (by omega) (by omega) ?_
    exact W.lret (v := (-1)) hx hb hr (fun t ht hW => ⟨⟨(-1), (), rfl, ⟨hpost, trivial⟩, trivial⟩, hS.F ht⟩) hS.2.2 dX10_fraction_17
