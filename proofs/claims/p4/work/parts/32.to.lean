set_option maxHeartbeats 1000000 in
set_option maxRecDepth 100000 in
theorem c_X9_addStretchE (l : Launch) (dC : Nat → ClassId) (dI : Nat → Nat → Nat) (G : Nat → ClassId) (sz : Nat) (h0 a1 a2 a3 a4 a5 a6 N B D : Nat) (x1 x2 : Int32) (f1 f2 : Nat → Int32) (hN_N : N ≤ 10) (hB_B : B ≤ 6) (hD_D : 1 ≤ D ∧ D ≤ 9) : Met l yX9_addStretch (Cond.code yX9_addStretch cX9_addStretch 3 none :: GT) ({ frames := 0, cells := 0, slots := 0, locals := 0 } : Room) (PcW [.ref h0, .int x1, .int x2] dC dI G [(h0, .inr (9, [.int (nI N), .int (nI B), .int (nI D), .ref a1, .ref a2, .ref a3, .ref a4, .ref a5, .ref a6])), (a1, .inl (G 0, 10, .inl f1)), (a2, .inl (G 0, 10, .inl f2))] sz) (va_Qv (fun (u : Nat × (Nat → Int32) × (Nat → Int32)) => match u with | (u0, u1, u2) => u0 = (if N < 10 then N + 1 else N) ∧ u1 = (if N < 10 then upd f1 N x1 else f1) ∧ u2 = (if N < 10 then upd f2 N x2 else f2)) (fun (u : Nat × (Nat → Int32) × (Nat → Int32)) (t : State) => match u with | (u0, u1, u2) => va_P (dC, dI) vwCl [(h0, .inr (9, [.int (nI u0), .int (nI B), .int (nI D), .ref a1, .ref a2, .ref a3, .ref a4, .ref a5, .ref a6])), (a1, .inl (G 0, 10, .inl u1)), (a2, .inl (G 0, 10, .inl u2))] t.heap ∧ va_D (va_A [(h0, .inr (9, [.int (nI N), .int (nI B), .int (nI D), .ref a1, .ref a2, .ref a3, .ref a4, .ref a5, .ref a6])), (a1, .inl (G 0, 10, .inl f1)), (a2, .inl (G 0, 10, .inl f2))] sz) [(h0, .inr (9, [.int (nI u0), .int (nI B), .int (nI D), .ref a1, .ref a2, .ref a3, .ref a4, .ref a5, .ref a6])), (a1, .inl (G 0, 10, .inl u1)), (a2, .inl (G 0, 10, .inl u2))]) (va_A [(h0, .inr (9, [.int (nI N), .int (nI B), .int (nI D), .ref a1, .ref a2, .ref a3, .ref a4, .ref a5, .ref a6])), (a1, .inl (G 0, 10, .inl f1)), (a2, .inl (G 0, 10, .inl f2))] sz)) 0 0 (va_A [(h0, .inr (9, [.int (nI N), .int (nI B), .int (nI D), .ref a1, .ref a2, .ref a3, .ref a4, .ref a5, .ref a6])), (a1, .inl (G 0, 10, .inl f1)), (a2, .inl (G 0, 10, .inl f2))] sz) := by
  refine Met.ofW (cc := cX9_addStretch) (maxL := 3) (ret := none) (by decide) rfl ?_
  intro p e s m args below meth c s₁ Bd hml hv
  obtain ⟨rfl, hsz, hP, hK, hD0⟩ := hv
  have hx := Bd.exec
  have hb := Bd.bytes
  have hr := Bd.returns
  have hg : ∀ w ∈ GT, w.before ([.ref h0, .int x1, .int x2] : List Value).toArray s = true := fun w h => atoms_spec (ws := Cond.code yX9_addStretch cX9_addStretch 3 none :: GT) Bd.pre w (List.mem_cons_of_mem _ h)
  have hown : s.vm.findClass RX9 = some m.cls := findClass_of_methodNamed Bd.named
  have hlocks := Bd.notSynchronized
  subst hsz
  have hD := hD0.self (sz := s.heap.size)
  generalize hAe : va_A [(h0, .inr (9, [.int (nI N), .int (nI B), .int (nI D), .ref a1, .ref a2, .ref a3, .ref a4, .ref a5, .ref a6])), (a1, .inl (G 0, 10, .inl f1)), (a2, .inl (G 0, 10, .inl f2))] s.heap.size = A at hD ⊢
  have hA : ∀ q : Nat, s.heap.size ≤ q → A q := fun q h => by rw [← hAe]; exact Or.inr h
  have hS : va_S A s.heap s.heap [] := va_S.rf
  have hl := lv_entry ([.ref h0, .int x1, .int x2]) (n := 3) (Nat.le_of_ble_eq_true rfl)
  rw [lg_entry_eq]
  generalize (lg_sl ([.ref h0, .int x1, .int x2]) ++ List.replicate (3 - (lg_sl ([.ref h0, .int x1, .int x2])).length) Slot.unset).toArray = ls at hl ⊢
  have hl : lv_has ls 3 [(0, .ref h0), (1, .int x1), (2, .int x2)] := hl
  refine lv_aload_n hx hb dX9_addStretch_0 rfl (lv_at hl 0 rfl) ?_
  refine va_get (D := (dC, dI)) (ci := 9) (v := .int (nI N)) (C := RX9) (T := TX9) (N := 9) hx hb hg inG9 hown hK.1 hP 0 rfl rfl 0 (by decide) (hg _ wt_56) (fun _ h9 => h9) rfl dX9_addStretch_1 ?_
  refine lv_bipush (v := 10) hx hb dX9_addStretch_4 (by decide) ?_
  refine lv_icmp_ge (tgt := 39) hx hb dX9_addStretch_6 (by decide) (fun c1 => ?_) (fun c1 => ?_)
  · skip
    have n2 : 10 ≤ N := by have t := leI c1; rw [nI_toInt (n := N) (by omega)] at t; have : (10 : Int32).toInt = 10 := (by decide); omega
    have hP9 := hP.sub (ws' := [(h0, .inr (9, [.int (nI N), .int (nI B), .int (nI D), .ref a1, .ref a2, .ref a3, .ref a4, .ref a5, .ref a6])), (a1, .inl (G 0, 10, .inl f1)), (a2, .inl (G 0, 10, .inl f2))]) [0, 1, 2] rfl
    have hD9 := hD.sub (ws' := [(h0, .inr (9, [.int (nI N), .int (nI B), .int (nI D), .ref a1, .ref a2, .ref a3, .ref a4, .ref a5, .ref a6])), (a1, .inl (G 0, 10, .inl f1)), (a2, .inl (G 0, 10, .inl f2))]) [0, 1, 2] (by decide) rfl
    refine W.widen (k := 0) (n := 0) (by omega) (by omega) ?_
    exact W.vret hx hb hr (fun t ht hW => ⟨⟨(N, f1, f2), rfl, (by have t_n2 := n2; have t_n0 : (nI N).toInt = (N : Int) := nI_toInt (by omega); have t_n1 : (nI B).toInt = (B : Int) := nI_toInt (by omega); have t_n2 : (nI D).toInt = (D : Int) := nI_toInt (by omega); refine ⟨?_, ?_, ?_⟩ <;> first | (rw [if_pos (by omega)]; done) | (rw [if_neg (by omega)]; done)), ⟨by rw [ht]; exact hP9, hD9⟩⟩, hS.F ht⟩) hS.2.2 dX9_addStretch_39
  · skip
    have n3 : N < 10 := by have t := nleI c1; rw [nI_toInt (n := N) (by omega)] at t; have : (10 : Int32).toInt = 10 := (by decide); omega
    refine lv_aload_n hx hb dX9_addStretch_9 rfl (lv_at hl 0 rfl) ?_
    refine va_get (D := (dC, dI)) (ci := 9) (v := .ref a1) (C := RX9) (T := TX9) (N := 9) hx hb hg inG9 hown hK.1 hP 0 rfl rfl 3 (by decide) (hg _ wt_73) (fun _ h9 => h9) rfl dX9_addStretch_10 ?_
    refine lv_aload_n hx hb dX9_addStretch_13 rfl (lv_at hl 0 rfl) ?_
    refine va_get (D := (dC, dI)) (ci := 9) (v := .int (nI N)) (C := RX9) (T := TX9) (N := 9) hx hb hg inG9 hown hK.1 hP 0 rfl rfl 0 (by decide) (hg _ wt_56) (fun _ h9 => h9) rfl dX9_addStretch_14 ?_
    refine lv_iload_n hx hb dX9_addStretch_17 rfl (lv_at hl 1 rfl) ?_
    refine va_iast hx hb hK.1 hP hD hS 1 0 rfl rfl (vp_in_nI (by have t_n3 := n3; have t_n0 : (nI N).toInt = (N : Int) := nI_toInt (by omega); have t_n1 : (nI B).toInt = (B : Int) := nI_toInt (by omega); have t_n2 : (nI D).toInt = (D : Int) := nI_toInt (by omega); omega) (by decide)) dX9_addStretch_18 (fun H locs hP hD hS => ?_)
    rw [nI_clamp (by omega)] at hP hD
    have hP : va_P (dC, dI) vwCl [(h0, .inr (9, [.int (nI N), .int (nI B), .int (nI D), .ref a1, .ref a2, .ref a3, .ref a4, .ref a5, .ref a6])), (a1, .inl (G 0, 10, .inl (upd f1 N x1))), (a2, .inl (G 0, 10, .inl f2))] H := hP
    have hD : va_D A [(h0, .inr (9, [.int (nI N), .int (nI B), .int (nI D), .ref a1, .ref a2, .ref a3, .ref a4, .ref a5, .ref a6])), (a1, .inl (G 0, 10, .inl (upd f1 N x1))), (a2, .inl (G 0, 10, .inl f2))] := hD
    refine lv_aload_n hx hb dX9_addStretch_19 rfl (lv_at hl 0 rfl) ?_
    refine va_get (D := (dC, dI)) (ci := 9) (v := .ref a2) (C := RX9) (T := TX9) (N := 9) hx hb hg inG9 hown hK.1 hP 0 rfl rfl 4 (by decide) (hg _ wt_75) (fun _ h9 => h9) rfl dX9_addStretch_20 ?_
    refine lv_aload_n hx hb dX9_addStretch_23 rfl (lv_at hl 0 rfl) ?_
    refine va_get (D := (dC, dI)) (ci := 9) (v := .int (nI N)) (C := RX9) (T := TX9) (N := 9) hx hb hg inG9 hown hK.1 hP 0 rfl rfl 0 (by decide) (hg _ wt_56) (fun _ h9 => h9) rfl dX9_addStretch_24 ?_
    refine lv_iload_n hx hb dX9_addStretch_27 rfl (lv_at hl 2 rfl) ?_
    refine va_iast hx hb hK.1 hP hD hS 2 0 rfl rfl (vp_in_nI (by have t_n3 := n3; have t_n0 : (nI N).toInt = (N : Int) := nI_toInt (by omega); have t_n1 : (nI B).toInt = (B : Int) := nI_toInt (by omega); have t_n2 : (nI D).toInt = (D : Int) := nI_toInt (by omega); omega) (by decide)) dX9_addStretch_28 (fun H locs hP hD hS => ?_)
    rw [nI_clamp (by omega)] at hP hD
    have hP : va_P (dC, dI) vwCl [(h0, .inr (9, [.int (nI N), .int (nI B), .int (nI D), .ref a1, .ref a2, .ref a3, .ref a4, .ref a5, .ref a6])), (a1, .inl (G 0, 10, .inl (upd f1 N x1))), (a2, .inl (G 0, 10, .inl (upd f2 N x2)))] H := hP
    have hD : va_D A [(h0, .inr (9, [.int (nI N), .int (nI B), .int (nI D), .ref a1, .ref a2, .ref a3, .ref a4, .ref a5, .ref a6])), (a1, .inl (G 0, 10, .inl (upd f1 N x1))), (a2, .inl (G 0, 10, .inl (upd f2 N x2)))] := hD
    refine lv_aload_n hx hb dX9_addStretch_29 rfl (lv_at hl 0 rfl) ?_
    refine lv_dup hx hb dX9_addStretch_30 rfl ?_
    refine va_get (D := (dC, dI)) (ci := 9) (v := .int (nI N)) (C := RX9) (T := TX9) (N := 9) hx hb hg inG9 hown hK.1 hP 0 rfl rfl 0 (by decide) (hg _ wt_56) (fun _ h9 => h9) rfl dX9_addStretch_31 ?_
    refine lv_iconst (v := 1) hx hb dX9_addStretch_34 (by decide) ?_
    refine lv_iadd hx hb dX9_addStretch_35 ?_
    refine lv_cg (y := nI (N + 1)) (by rw [show (1 : Int32) = nI 1 from rfl]; exact nI_add _ _) ?_
    refine va_put (D := (dC, dI)) (ci := 9) (v := .int (nI (N + 1))) (ty := .int) (C := RX9) (T := TX9) (N := 9) hx hb hg inG9 tyX9 tyX9_ok nmX9 hown hK.1 hP hD hS 0 rfl rfl 0 (by decide) (hg _ wt_56) (fun _ h9 => h9) rfl (by decide +kernel) rfl rfl (Nat.le_of_ble_eq_true rfl) dX9_addStretch_36 (fun H locs hP hD hS => ?_)
    have hP : va_P (dC, dI) vwCl [(h0, .inr (9, [.int (nI (N + 1)), .int (nI B), .int (nI D), .ref a1, .ref a2, .ref a3, .ref a4, .ref a5, .ref a6])), (a1, .inl (G 0, 10, .inl (upd f1 N x1))), (a2, .inl (G 0, 10, .inl (upd f2 N x2)))] H := hP
    have hD : va_D A [(h0, .inr (9, [.int (nI (N + 1)), .int (nI B), .int (nI D), .ref a1, .ref a2, .ref a3, .ref a4, .ref a5, .ref a6])), (a1, .inl (G 0, 10, .inl (upd f1 N x1))), (a2, .inl (G 0, 10, .inl (upd f2 N x2)))] := hD
    have hP9 := hP.sub (ws' := [(h0, .inr (9, [.int (nI (N + 1)), .int (nI B), .int (nI D), .ref a1, .ref a2, .ref a3, .ref a4, .ref a5, .ref a6])), (a1, .inl (G 0, 10, .inl (upd f1 N x1))), (a2, .inl (G 0, 10, .inl (upd f2 N x2)))]) [0, 1, 2] rfl
    have hD9 := hD.sub (ws' := [(h0, .inr (9, [.int (nI (N + 1)), .int (nI B), .int (nI D), .ref a1, .ref a2, .ref a3, .ref a4, .ref a5, .ref a6])), (a1, .inl (G 0, 10, .inl (upd f1 N x1))), (a2, .inl (G 0, 10, .inl (upd f2 N x2)))]) [0, 1, 2] (by decide) rfl
    refine W.widen (k := 0) (n := 0) (by omega) (by omega) ?_
    exact W.vret hx hb hr (fun t ht hW => ⟨⟨((N + 1), (upd f1 N x1), (upd f2 N x2)), rfl, (by have t_n3 := n3; have t_n0 : (nI N).toInt = (N : Int) := nI_toInt (by omega); have t_n1 : (nI B).toInt = (B : Int) := nI_toInt (by omega); have t_n2 : (nI D).toInt = (D : Int) := nI_toInt (by omega); refine ⟨?_, ?_, ?_⟩ <;> first | (rw [if_pos (by omega)]; done) | (rw [if_neg (by omega)]; done)), ⟨by rw [ht]; exact hP9, hD9⟩⟩, hS.F ht⟩) hS.2.2 dX9_addStretch_39

set_option maxHeartbeats 1000000 in
set_option maxRecDepth 100000 in
theorem c_X9_addBearerE (l : Launch) (dC : Nat → ClassId) (dI : Nat → Nat → Nat) (G : Nat → ClassId) (sz : Nat) (h0 a1 a2 a3 a4 a5 a6 N B D : Nat) (x1 x2 x3 : Int32) (f4 f5 f6 : Nat → Int32) (hN_N : N ≤ 10) (hB_B : B ≤ 6) (hD_D : 1 ≤ D ∧ D ≤ 9) : Met l yX9_addBearer (Cond.code yX9_addBearer cX9_addBearer 4 none :: GT) ({ frames := 0, cells := 0, slots := 0, locals := 0 } : Room) (PcW [.ref h0, .int x1, .int x2, .int x3] dC dI G [(h0, .inr (9, [.int (nI N), .int (nI B), .int (nI D), .ref a1, .ref a2, .ref a3, .ref a4, .ref a5, .ref a6])), (a4, .inl (G 0, 6, .inl f4)), (a5, .inl (G 0, 6, .inl f5)), (a6, .inl (G 0, 6, .inl f6))] sz) (va_Qv (fun (u : Nat × (Nat → Int32) × (Nat → Int32) × (Nat → Int32)) => match u with | (u0, u1, u2, u3) => u0 = (if B < 6 then B + 1 else B) ∧ u1 = (if B < 6 then upd f4 B x1 else f4) ∧ u2 = (if B < 6 then upd f5 B x2 else f5) ∧ u3 = (if B < 6 then upd f6 B x3 else f6)) (fun (u : Nat × (Nat → Int32) × (Nat → Int32) × (Nat → Int32)) (t : State) => match u with | (u0, u1, u2, u3) => va_P (dC, dI) vwCl [(h0, .inr (9, [.int (nI N), .int (nI u0), .int (nI D), .ref a1, .ref a2, .ref a3, .ref a4, .ref a5, .ref a6])), (a4, .inl (G 0, 6, .inl u1)), (a5, .inl (G 0, 6, .inl u2)), (a6, .inl (G 0, 6, .inl u3))] t.heap ∧ va_D (va_A [(h0, .inr (9, [.int (nI N), .int (nI B), .int (nI D), .ref a1, .ref a2, .ref a3, .ref a4, .ref a5, .ref a6])), (a4, .inl (G 0, 6, .inl f4)), (a5, .inl (G 0, 6, .inl f5)), (a6, .inl (G 0, 6, .inl f6))] sz) [(h0, .inr (9, [.int (nI N), .int (nI u0), .int (nI D), .ref a1, .ref a2, .ref a3, .ref a4, .ref a5, .ref a6])), (a4, .inl (G 0, 6, .inl u1)), (a5, .inl (G 0, 6, .inl u2)), (a6, .inl (G 0, 6, .inl u3))]) (va_A [(h0, .inr (9, [.int (nI N), .int (nI B), .int (nI D), .ref a1, .ref a2, .ref a3, .ref a4, .ref a5, .ref a6])), (a4, .inl (G 0, 6, .inl f4)), (a5, .inl (G 0, 6, .inl f5)), (a6, .inl (G 0, 6, .inl f6))] sz)) 0 0 (va_A [(h0, .inr (9, [.int (nI N), .int (nI B), .int (nI D), .ref a1, .ref a2, .ref a3, .ref a4, .ref a5, .ref a6])), (a4, .inl (G 0, 6, .inl f4)), (a5, .inl (G 0, 6, .inl f5)), (a6, .inl (G 0, 6, .inl f6))] sz) := by
  refine Met.ofW (cc := cX9_addBearer) (maxL := 4) (ret := none) (by decide) rfl ?_
  intro p e s m args below meth c s₁ Bd hml hv
  obtain ⟨rfl, hsz, hP, hK, hD0⟩ := hv
  have hx := Bd.exec
  have hb := Bd.bytes
  have hr := Bd.returns
  have hg : ∀ w ∈ GT, w.before ([.ref h0, .int x1, .int x2, .int x3] : List Value).toArray s = true := fun w h => atoms_spec (ws := Cond.code yX9_addBearer cX9_addBearer 4 none :: GT) Bd.pre w (List.mem_cons_of_mem _ h)
  have hown : s.vm.findClass RX9 = some m.cls := findClass_of_methodNamed Bd.named
  have hlocks := Bd.notSynchronized
  subst hsz
  have hD := hD0.self (sz := s.heap.size)
  generalize hAe : va_A [(h0, .inr (9, [.int (nI N), .int (nI B), .int (nI D), .ref a1, .ref a2, .ref a3, .ref a4, .ref a5, .ref a6])), (a4, .inl (G 0, 6, .inl f4)), (a5, .inl (G 0, 6, .inl f5)), (a6, .inl (G 0, 6, .inl f6))] s.heap.size = A at hD ⊢
  have hA : ∀ q : Nat, s.heap.size ≤ q → A q := fun q h => by rw [← hAe]; exact Or.inr h
  have hS : va_S A s.heap s.heap [] := va_S.rf
  have hl := lv_entry ([.ref h0, .int x1, .int x2, .int x3]) (n := 4) (Nat.le_of_ble_eq_true rfl)
  rw [lg_entry_eq]
  generalize (lg_sl ([.ref h0, .int x1, .int x2, .int x3]) ++ List.replicate (4 - (lg_sl ([.ref h0, .int x1, .int x2, .int x3])).length) Slot.unset).toArray = ls at hl ⊢
  have hl : lv_has ls 4 [(0, .ref h0), (1, .int x1), (2, .int x2), (3, .int x3)] := hl
  refine lv_aload_n hx hb dX9_addBearer_0 rfl (lv_at hl 0 rfl) ?_
  refine va_get (D := (dC, dI)) (ci := 9) (v := .int (nI B)) (C := RX9) (T := TX9) (N := 9) hx hb hg inG9 hown hK.1 hP 0 rfl rfl 1 (by decide) (hg _ wt_62) (fun _ h9 => h9) rfl dX9_addBearer_1 ?_
  refine lv_bipush (v := 6) hx hb dX9_addBearer_4 (by decide) ?_
  refine lv_icmp_ge (tgt := 49) hx hb dX9_addBearer_6 (by decide) (fun c1 => ?_) (fun c1 => ?_)
  · skip
    have n2 : 6 ≤ B := by have t := leI c1; rw [nI_toInt (n := B) (by omega)] at t; have : (6 : Int32).toInt = 6 := (by decide); omega
    have hP9 := hP.sub (ws' := [(h0, .inr (9, [.int (nI N), .int (nI B), .int (nI D), .ref a1, .ref a2, .ref a3, .ref a4, .ref a5, .ref a6])), (a4, .inl (G 0, 6, .inl f4)), (a5, .inl (G 0, 6, .inl f5)), (a6, .inl (G 0, 6, .inl f6))]) [0, 1, 2, 3] rfl
    have hD9 := hD.sub (ws' := [(h0, .inr (9, [.int (nI N), .int (nI B), .int (nI D), .ref a1, .ref a2, .ref a3, .ref a4, .ref a5, .ref a6])), (a4, .inl (G 0, 6, .inl f4)), (a5, .inl (G 0, 6, .inl f5)), (a6, .inl (G 0, 6, .inl f6))]) [0, 1, 2, 3] (by decide) rfl
    refine W.widen (k := 0) (n := 0) (by omega) (by omega) ?_
    exact W.vret hx hb hr (fun t ht hW => ⟨⟨(B, f4, f5, f6), rfl, (by have t_n2 := n2; have t_n0 : (nI N).toInt = (N : Int) := nI_toInt (by omega); have t_n1 : (nI B).toInt = (B : Int) := nI_toInt (by omega); have t_n2 : (nI D).toInt = (D : Int) := nI_toInt (by omega); refine ⟨?_, ?_, ?_, ?_⟩ <;> first | (rw [if_pos (by omega)]; done) | (rw [if_neg (by omega)]; done)), ⟨by rw [ht]; exact hP9, hD9⟩⟩, hS.F ht⟩) hS.2.2 dX9_addBearer_49
  · skip
    have n3 : B < 6 := by have t := nleI c1; rw [nI_toInt (n := B) (by omega)] at t; have : (6 : Int32).toInt = 6 := (by decide); omega
    refine lv_aload_n hx hb dX9_addBearer_9 rfl (lv_at hl 0 rfl) ?_
    refine va_get (D := (dC, dI)) (ci := 9) (v := .ref a4) (C := RX9) (T := TX9) (N := 9) hx hb hg inG9 hown hK.1 hP 0 rfl rfl 6 (by decide) (hg _ wt_80) (fun _ h9 => h9) rfl dX9_addBearer_10 ?_
    refine lv_aload_n hx hb dX9_addBearer_13 rfl (lv_at hl 0 rfl) ?_
    refine va_get (D := (dC, dI)) (ci := 9) (v := .int (nI B)) (C := RX9) (T := TX9) (N := 9) hx hb hg inG9 hown hK.1 hP 0 rfl rfl 1 (by decide) (hg _ wt_62) (fun _ h9 => h9) rfl dX9_addBearer_14 ?_
    refine lv_iload_n hx hb dX9_addBearer_17 rfl (lv_at hl 1 rfl) ?_
    refine va_iast hx hb hK.1 hP hD hS 1 0 rfl rfl (vp_in_nI (by have t_n3 := n3; have t_n0 : (nI N).toInt = (N : Int) := nI_toInt (by omega); have t_n1 : (nI B).toInt = (B : Int) := nI_toInt (by omega); have t_n2 : (nI D).toInt = (D : Int) := nI_toInt (by omega); omega) (by decide)) dX9_addBearer_18 (fun H locs hP hD hS => ?_)
    rw [nI_clamp (by omega)] at hP hD
    have hP : va_P (dC, dI) vwCl [(h0, .inr (9, [.int (nI N), .int (nI B), .int (nI D), .ref a1, .ref a2, .ref a3, .ref a4, .ref a5, .ref a6])), (a4, .inl (G 0, 6, .inl (upd f4 B x1))), (a5, .inl (G 0, 6, .inl f5)), (a6, .inl (G 0, 6, .inl f6))] H := hP
    have hD : va_D A [(h0, .inr (9, [.int (nI N), .int (nI B), .int (nI D), .ref a1, .ref a2, .ref a3, .ref a4, .ref a5, .ref a6])), (a4, .inl (G 0, 6, .inl (upd f4 B x1))), (a5, .inl (G 0, 6, .inl f5)), (a6, .inl (G 0, 6, .inl f6))] := hD
    refine lv_aload_n hx hb dX9_addBearer_19 rfl (lv_at hl 0 rfl) ?_
    refine va_get (D := (dC, dI)) (ci := 9) (v := .ref a5) (C := RX9) (T := TX9) (N := 9) hx hb hg inG9 hown hK.1 hP 0 rfl rfl 7 (by decide) (hg _ wt_82) (fun _ h9 => h9) rfl dX9_addBearer_20 ?_
    refine lv_aload_n hx hb dX9_addBearer_23 rfl (lv_at hl 0 rfl) ?_
    refine va_get (D := (dC, dI)) (ci := 9) (v := .int (nI B)) (C := RX9) (T := TX9) (N := 9) hx hb hg inG9 hown hK.1 hP 0 rfl rfl 1 (by decide) (hg _ wt_62) (fun _ h9 => h9) rfl dX9_addBearer_24 ?_
    refine lv_iload_n hx hb dX9_addBearer_27 rfl (lv_at hl 2 rfl) ?_
    refine va_iast hx hb hK.1 hP hD hS 2 0 rfl rfl (vp_in_nI (by have t_n3 := n3; have t_n0 : (nI N).toInt = (N : Int) := nI_toInt (by omega); have t_n1 : (nI B).toInt = (B : Int) := nI_toInt (by omega); have t_n2 : (nI D).toInt = (D : Int) := nI_toInt (by omega); omega) (by decide)) dX9_addBearer_28 (fun H locs hP hD hS => ?_)
    rw [nI_clamp (by omega)] at hP hD
    have hP : va_P (dC, dI) vwCl [(h0, .inr (9, [.int (nI N), .int (nI B), .int (nI D), .ref a1, .ref a2, .ref a3, .ref a4, .ref a5, .ref a6])), (a4, .inl (G 0, 6, .inl (upd f4 B x1))), (a5, .inl (G 0, 6, .inl (upd f5 B x2))), (a6, .inl (G 0, 6, .inl f6))] H := hP
    have hD : va_D A [(h0, .inr (9, [.int (nI N), .int (nI B), .int (nI D), .ref a1, .ref a2, .ref a3, .ref a4, .ref a5, .ref a6])), (a4, .inl (G 0, 6, .inl (upd f4 B x1))), (a5, .inl (G 0, 6, .inl (upd f5 B x2))), (a6, .inl (G 0, 6, .inl f6))] := hD
    refine lv_aload_n hx hb dX9_addBearer_29 rfl (lv_at hl 0 rfl) ?_
    refine va_get (D := (dC, dI)) (ci := 9) (v := .ref a6) (C := RX9) (T := TX9) (N := 9) hx hb hg inG9 hown hK.1 hP 0 rfl rfl 8 (by decide) (hg _ wt_84) (fun _ h9 => h9) rfl dX9_addBearer_30 ?_
    refine lv_aload_n hx hb dX9_addBearer_33 rfl (lv_at hl 0 rfl) ?_
    refine va_get (D := (dC, dI)) (ci := 9) (v := .int (nI B)) (C := RX9) (T := TX9) (N := 9) hx hb hg inG9 hown hK.1 hP 0 rfl rfl 1 (by decide) (hg _ wt_62) (fun _ h9 => h9) rfl dX9_addBearer_34 ?_
    refine lv_iload_n hx hb dX9_addBearer_37 rfl (lv_at hl 3 rfl) ?_
    refine va_iast hx hb hK.1 hP hD hS 3 0 rfl rfl (vp_in_nI (by have t_n3 := n3; have t_n0 : (nI N).toInt = (N : Int) := nI_toInt (by omega); have t_n1 : (nI B).toInt = (B : Int) := nI_toInt (by omega); have t_n2 : (nI D).toInt = (D : Int) := nI_toInt (by omega); omega) (by decide)) dX9_addBearer_38 (fun H locs hP hD hS => ?_)
    rw [nI_clamp (by omega)] at hP hD
    have hP : va_P (dC, dI) vwCl [(h0, .inr (9, [.int (nI N), .int (nI B), .int (nI D), .ref a1, .ref a2, .ref a3, .ref a4, .ref a5, .ref a6])), (a4, .inl (G 0, 6, .inl (upd f4 B x1))), (a5, .inl (G 0, 6, .inl (upd f5 B x2))), (a6, .inl (G 0, 6, .inl (upd f6 B x3)))] H := hP
    have hD : va_D A [(h0, .inr (9, [.int (nI N), .int (nI B), .int (nI D), .ref a1, .ref a2, .ref a3, .ref a4, .ref a5, .ref a6])), (a4, .inl (G 0, 6, .inl (upd f4 B x1))), (a5, .inl (G 0, 6, .inl (upd f5 B x2))), (a6, .inl (G 0, 6, .inl (upd f6 B x3)))] := hD
    refine lv_aload_n hx hb dX9_addBearer_39 rfl (lv_at hl 0 rfl) ?_
    refine lv_dup hx hb dX9_addBearer_40 rfl ?_
    refine va_get (D := (dC, dI)) (ci := 9) (v := .int (nI B)) (C := RX9) (T := TX9) (N := 9) hx hb hg inG9 hown hK.1 hP 0 rfl rfl 1 (by decide) (hg _ wt_62) (fun _ h9 => h9) rfl dX9_addBearer_41 ?_
    refine lv_iconst (v := 1) hx hb dX9_addBearer_44 (by decide) ?_
    refine lv_iadd hx hb dX9_addBearer_45 ?_
    refine lv_cg (y := nI (B + 1)) (by rw [show (1 : Int32) = nI 1 from rfl]; exact nI_add _ _) ?_
    refine va_put (D := (dC, dI)) (ci := 9) (v := .int (nI (B + 1))) (ty := .int) (C := RX9) (T := TX9) (N := 9) hx hb hg inG9 tyX9 tyX9_ok nmX9 hown hK.1 hP hD hS 0 rfl rfl 1 (by decide) (hg _ wt_62) (fun _ h9 => h9) rfl (by decide +kernel) rfl rfl (Nat.le_of_ble_eq_true rfl) dX9_addBearer_46 (fun H locs hP hD hS => ?_)
    have hP : va_P (dC, dI) vwCl [(h0, .inr (9, [.int (nI N), .int (nI (B + 1)), .int (nI D), .ref a1, .ref a2, .ref a3, .ref a4, .ref a5, .ref a6])), (a4, .inl (G 0, 6, .inl (upd f4 B x1))), (a5, .inl (G 0, 6, .inl (upd f5 B x2))), (a6, .inl (G 0, 6, .inl (upd f6 B x3)))] H := hP
    have hD : va_D A [(h0, .inr (9, [.int (nI N), .int (nI (B + 1)), .int (nI D), .ref a1, .ref a2, .ref a3, .ref a4, .ref a5, .ref a6])), (a4, .inl (G 0, 6, .inl (upd f4 B x1))), (a5, .inl (G 0, 6, .inl (upd f5 B x2))), (a6, .inl (G 0, 6, .inl (upd f6 B x3)))] := hD
    have hP9 := hP.sub (ws' := [(h0, .inr (9, [.int (nI N), .int (nI (B + 1)), .int (nI D), .ref a1, .ref a2, .ref a3, .ref a4, .ref a5, .ref a6])), (a4, .inl (G 0, 6, .inl (upd f4 B x1))), (a5, .inl (G 0, 6, .inl (upd f5 B x2))), (a6, .inl (G 0, 6, .inl (upd f6 B x3)))]) [0, 1, 2, 3] rfl
    have hD9 := hD.sub (ws' := [(h0, .inr (9, [.int (nI N), .int (nI (B + 1)), .int (nI D), .ref a1, .ref a2, .ref a3, .ref a4, .ref a5, .ref a6])), (a4, .inl (G 0, 6, .inl (upd f4 B x1))), (a5, .inl (G 0, 6, .inl (upd f5 B x2))), (a6, .inl (G 0, 6, .inl (upd f6 B x3)))]) [0, 1, 2, 3] (by decide) rfl
    refine W.widen (k := 0) (n := 0) (by omega) (by omega) ?_
    exact W.vret hx hb hr (fun t ht hW => ⟨⟨((B + 1), (upd f4 B x1), (upd f5 B x2), (upd f6 B x3)), rfl, (by have t_n3 := n3; have t_n0 : (nI N).toInt = (N : Int) := nI_toInt (by omega); have t_n1 : (nI B).toInt = (B : Int) := nI_toInt (by omega); have t_n2 : (nI D).toInt = (D : Int) := nI_toInt (by omega); refine ⟨?_, ?_, ?_, ?_⟩ <;> first | (rw [if_pos (by omega)]; done) | (rw [if_neg (by omega)]; done)), ⟨by rw [ht]; exact hP9, hD9⟩⟩, hS.F ht⟩) hS.2.2 dX9_addBearer_49

set_option maxHeartbeats 1000000 in
set_option maxRecDepth 100000 in
theorem c_X5_readStartE (l : Launch) (dC : Nat → ClassId) (dI : Nat → Nat → Nat) (G : Nat → ClassId) (sz : Nat) (h0 tp td ta T F P a1 a2 a3 a4 a5 a6 N B D : Nat) (x0 x1 x2 x3 x6 x7 x8 x9 : Int32) (f : Nat → Int32) (hF : F ≤ P) (hP0 : P ≤ T) (hT : T ≤ 320) (hN_N : N ≤ 10) (hB_B : B ≤ 6) (hD_D : 1 ≤ D ∧ D ≤ 9) : Met l yX5_readStart (Cond.code yX5_readStart cX5_readStart 1 (some .boolean) :: GT) ({ frames := 3, cells := 0, slots := 0, locals := 68 } : Room) (PcW [.ref h0] dC dI G [(h0, .inr (5, [.ref tp, .ref td, .int x0, .int x1, .int x2, .int x3, .int (nI F), .int (nI P), .int x6, .int x7, .int x8, .int x9])), (tp, .inr (7, [.int (nI T), .ref ta])), (ta, .inl (G 0, 320, .inl f)), (td, .inr (9, [.int (nI N), .int (nI B), .int (nI D), .ref a1, .ref a2, .ref a3, .ref a4, .ref a5, .ref a6]))] sz) (va_Qi (fun (r : Int32) (u : Int32 × Int32 × Int32 × Nat × Nat × Int32 × Nat) => match u with | (u0, u1, u3, u4, u5, u6, v0) => ((r = 0 ∨ r = 1) ∧ r = (cST f T (x0, x1, x3, F, P) x6 D).1) ∧ u4 ≤ u5 ∧ u5 ≤ T ∧ (1 ≤ v0 ∧ v0 ≤ 9) ∧ ((u0, u1, u3, u4, u5), u6, v0) = (cST f T (x0, x1, x3, F, P) x6 D).2) (fun (u : Int32 × Int32 × Int32 × Nat × Nat × Int32 × Nat) (t : State) => match u with | (u0, u1, u3, u4, u5, u6, v0) => va_P (dC, dI) vwCl [(h0, .inr (5, [.ref tp, .ref td, .int u0, .int u1, .int x2, .int u3, .int (nI u4), .int (nI u5), .int u6, .int x7, .int x8, .int x9])), (tp, .inr (7, [.int (nI T), .ref ta])), (ta, .inl (G 0, 320, .inl f)), (td, .inr (9, [.int (nI N), .int (nI B), .int (nI v0), .ref a1, .ref a2, .ref a3, .ref a4, .ref a5, .ref a6]))] t.heap ∧ va_D (va_A [(h0, .inr (5, [.ref tp, .ref td, .int x0, .int x1, .int x2, .int x3, .int (nI F), .int (nI P), .int x6, .int x7, .int x8, .int x9])), (tp, .inr (7, [.int (nI T), .ref ta])), (ta, .inl (G 0, 320, .inl f)), (td, .inr (9, [.int (nI N), .int (nI B), .int (nI D), .ref a1, .ref a2, .ref a3, .ref a4, .ref a5, .ref a6]))] sz) [(h0, .inr (5, [.ref tp, .ref td, .int u0, .int u1, .int x2, .int u3, .int (nI u4), .int (nI u5), .int u6, .int x7, .int x8, .int x9])), (tp, .inr (7, [.int (nI T), .ref ta])), (ta, .inl (G 0, 320, .inl f)), (td, .inr (9, [.int (nI N), .int (nI B), .int (nI v0), .ref a1, .ref a2, .ref a3, .ref a4, .ref a5, .ref a6]))]) (va_A [(h0, .inr (5, [.ref tp, .ref td, .int x0, .int x1, .int x2, .int x3, .int (nI F), .int (nI P), .int x6, .int x7, .int x8, .int x9])), (tp, .inr (7, [.int (nI T), .ref ta])), (ta, .inl (G 0, 320, .inl f)), (td, .inr (9, [.int (nI N), .int (nI B), .int (nI D), .ref a1, .ref a2, .ref a3, .ref a4, .ref a5, .ref a6]))] sz)) 0 0 (va_A [(h0, .inr (5, [.ref tp, .ref td, .int x0, .int x1, .int x2, .int x3, .int (nI F), .int (nI P), .int x6, .int x7, .int x8, .int x9])), (tp, .inr (7, [.int (nI T), .ref ta])), (ta, .inl (G 0, 320, .inl f)), (td, .inr (9, [.int (nI N), .int (nI B), .int (nI D), .ref a1, .ref a2, .ref a3, .ref a4, .ref a5, .ref a6]))] sz) := by
  refine Met.ofW (cc := cX5_readStart) (maxL := 1) (ret := (some .boolean)) (by decide) rfl ?_
  intro p e s m args below meth c s₁ Bd hml hv
  obtain ⟨rfl, hsz, hP, hK, hD0⟩ := hv
  have hx := Bd.exec
  have hb := Bd.bytes
  have hr := Bd.returns
  have hg : ∀ w ∈ GT, w.before ([.ref h0] : List Value).toArray s = true := fun w h => atoms_spec (ws := Cond.code yX5_readStart cX5_readStart 1 (some .boolean) :: GT) Bd.pre w (List.mem_cons_of_mem _ h)
  have hown : s.vm.findClass RX5 = some m.cls := findClass_of_methodNamed Bd.named
  have hlocks := Bd.notSynchronized
  subst hsz
  have hD := hD0.self (sz := s.heap.size)
  generalize hAe : va_A [(h0, .inr (5, [.ref tp, .ref td, .int x0, .int x1, .int x2, .int x3, .int (nI F), .int (nI P), .int x6, .int x7, .int x8, .int x9])), (tp, .inr (7, [.int (nI T), .ref ta])), (ta, .inl (G 0, 320, .inl f)), (td, .inr (9, [.int (nI N), .int (nI B), .int (nI D), .ref a1, .ref a2, .ref a3, .ref a4, .ref a5, .ref a6]))] s.heap.size = A at hD ⊢
  have hA : ∀ q : Nat, s.heap.size ≤ q → A q := fun q h => by rw [← hAe]; exact Or.inr h
  have hS : va_S A s.heap s.heap [] := va_S.rf
  have hl := lv_entry ([.ref h0]) (n := 1) (Nat.le_of_ble_eq_true rfl)
  rw [lg_entry_eq]
  generalize (lg_sl ([.ref h0]) ++ List.replicate (1 - (lg_sl ([.ref h0])).length) Slot.unset).toArray = ls at hl ⊢
  have hl : lv_has ls 1 [(0, .ref h0)] := hl
  refine lv_aload_n hx hb dX5_readStart_0 rfl (lv_at hl 0 rfl) ?_
  refine va_get (D := (dC, dI)) (ci := 5) (v := .int x6) (C := RX5) (T := TX5) (N := 12) hx hb hg inG5 hown hK.1 hP 0 rfl rfl 8 (by decide) (hg _ wt_118) (fun _ h9 => h9) rfl dX5_readStart_1 ?_
  refine lv_if_eq (tgt := 17) hx hb dX5_readStart_4 (by decide) (fun c1 => ?_) (fun c1 => ?_)
  · skip
    refine lv_aload_n hx hb dX5_readStart_17 rfl (lv_at hl 0 rfl) ?_
    refine lv_iconst (v := 1) hx hb dX5_readStart_18 (by decide) ?_
    refine va_put (D := (dC, dI)) (ci := 5) (v := .int 1) (ty := .boolean) (C := RX5) (T := TX5) (N := 12) hx hb hg inG5 tyX5 tyX5_ok nmX5 hown hK.1 hP hD hS 0 rfl rfl 8 (by decide) (hg _ wt_118) (fun _ h9 => h9) rfl (by decide +kernel) rfl rfl (Nat.le_of_ble_eq_true rfl) dX5_readStart_19 (fun H locs hP hD hS => ?_)
    have hP : va_P (dC, dI) vwCl [(h0, .inr (5, [.ref tp, .ref td, .int x0, .int x1, .int x2, .int x3, .int (nI F), .int (nI P), .int 1, .int x7, .int x8, .int x9])), (tp, .inr (7, [.int (nI T), .ref ta])), (ta, .inl (G 0, 320, .inl f)), (td, .inr (9, [.int (nI N), .int (nI B), .int (nI D), .ref a1, .ref a2, .ref a3, .ref a4, .ref a5, .ref a6]))] H := hP
    have hD : va_D A [(h0, .inr (5, [.ref tp, .ref td, .int x0, .int x1, .int x2, .int x3, .int (nI F), .int (nI P), .int 1, .int x7, .int x8, .int x9])), (tp, .inr (7, [.int (nI T), .ref ta])), (ta, .inl (G 0, 320, .inl f)), (td, .inr (9, [.int (nI N), .int (nI B), .int (nI D), .ref a1, .ref a2, .ref a3, .ref a4, .ref a5, .ref a6]))] := hD
    refine lv_aload_n hx hb dX5_readStart_22 rfl (lv_at hl 0 rfl) ?_
    refine lv_iconst (v := 1) hx hb dX5_readStart_23 (by decide) ?_
    refine lv_bipush (v := 9) hx hb dX5_readStart_24 (by decide) ?_
    have hPc := hP.sub (ws' := [(h0, .inr (5, [.ref tp, .ref td, .int x0, .int x1, .int x2, .int x3, .int (nI F), .int (nI P), .int 1, .int x7, .int x8, .int x9])), (tp, .inr (7, [.int (nI T), .ref ta])), (ta, .inl (G 0, 320, .inl f))]) [0, 1, 2] rfl
    have hDc := hD.sub (ws' := [(h0, .inr (5, [.ref tp, .ref td, .int x0, .int x1, .int x2, .int x3, .int (nI F), .int (nI P), .int 1, .int x7, .int x8, .int x9])), (tp, .inr (7, [.int (nI T), .ref ta])), (ta, .inl (G 0, 320, .inl f))]) [0, 1, 2] (by decide) rfl
    have hFc := va_free (wc := [(h0, .inr (5, [.ref tp, .ref td, .int x0, .int x1, .int x2, .int x3, .int (nI F), .int (nI P), .int 1, .int x7, .int x8, .int x9])), (tp, .inr (7, [.int (nI T), .ref ta])), (ta, .inl (G 0, 320, .inl f))]) hD hS hA [0, 1, 2] rfl
    refine va_calli (va_runV (As := [.int 1, .int 9]) (rest := []) ⟨hx, hb, hml, hown, hg⟩ (c_X5_nextNumberE l dC dI G _ h0 tp td ta T P x0 x1 x2 x3 1 x7 x8 x9 (nI F) 1 9 f (by have t_c1 := eqI c1; have : (0 : Int32).toInt = 0 := (by decide); have t_n0 : (nI F).toInt = (F : Int) := nI_toInt (by omega); have t_n1 : (nI P).toInt = (P : Int) := nI_toInt (by omega); have t_n2 : (nI T).toInt = (T : Int) := nI_toInt (by omega); have t_n3 : (nI N).toInt = (N : Int) := nI_toInt (by omega); have t_n4 : (nI B).toInt = (B : Int) := nI_toInt (by omega); have t_n5 : (nI D).toInt = (D : Int) := nI_toInt (by omega); have : (1 : Int32).toInt = 1 := (by decide); have : (9 : Int32).toInt = 9 := (by decide); omega) (by have t_c1 := eqI c1; have : (0 : Int32).toInt = 0 := (by decide); have t_n0 : (nI F).toInt = (F : Int) := nI_toInt (by omega); have t_n1 : (nI P).toInt = (P : Int) := nI_toInt (by omega); have t_n2 : (nI T).toInt = (T : Int) := nI_toInt (by omega); have t_n3 : (nI N).toInt = (N : Int) := nI_toInt (by omega); have t_n4 : (nI B).toInt = (B : Int) := nI_toInt (by omega); have t_n5 : (nI D).toInt = (D : Int) := nI_toInt (by omega); have : (1 : Int32).toInt = 1 := (by decide); have : (9 : Int32).toInt = 9 := (by decide); omega)) (kwV hg mfX5_nextNumber wt_455 ⟨Nat.le_of_ble_eq_true rfl, Nat.le_of_ble_eq_true rfl⟩) (preVW hK hPc hDc (ci := 5) rfl rfl) rfl rfl hl.1 rfl (lv_room (Nat.le_of_ble_eq_true rfl)) dX5_readStart_26 ⟨Nat.le_of_ble_eq_true rfl, Nat.le_of_ble_eq_true rfl⟩) hS (fun q _ h => hFc q h) hFc (fun r2 ur2 t H1 locs ht hvm w3 hB hz1 hk1 hS => ?_)
    obtain ⟨u4, u5, u6, u7, u8⟩ := ur2
    obtain ⟨hP1, hD1⟩ := hB
    rw [ht] at hP1
    obtain ⟨hP, hD⟩ := va_join (wr := [(td, .inr (9, [.int (nI N), .int (nI B), .int (nI D), .ref a1, .ref a2, .ref a3, .ref a4, .ref a5, .ref a6]))]) (w1 := [(h0, .inr (5, [.ref tp, .ref td, .int u4, .int u5, .int x2, .int u6, .int (nI u7), .int (nI u8), .int 1, .int x7, .int x8, .int x9])), (tp, .inr (7, [.int (nI T), .ref ta])), (ta, .inl (G 0, 320, .inl f))]) hP hD [0, 1, 2] [3] rfl rfl (by decide) (by decide) hk1 hFc hP1 hD1
    generalize H1 = H at hP hS ⊢
    have hP : va_P (dC, dI) vwCl [(td, .inr (9, [.int (nI N), .int (nI B), .int (nI D), .ref a1, .ref a2, .ref a3, .ref a4, .ref a5, .ref a6])), (h0, .inr (5, [.ref tp, .ref td, .int u4, .int u5, .int x2, .int u6, .int (nI u7), .int (nI u8), .int 1, .int x7, .int x8, .int x9])), (tp, .inr (7, [.int (nI T), .ref ta])), (ta, .inl (G 0, 320, .inl f))] H := hP
    have hD : va_D A [(td, .inr (9, [.int (nI N), .int (nI B), .int (nI D), .ref a1, .ref a2, .ref a3, .ref a4, .ref a5, .ref a6])), (h0, .inr (5, [.ref tp, .ref td, .int u4, .int u5, .int x2, .int u6, .int (nI u7), .int (nI u8), .int 1, .int x7, .int x8, .int x9])), (tp, .inr (7, [.int (nI T), .ref ta])), (ta, .inl (G 0, 320, .inl f))] := hD
    obtain ⟨w3, w3x⟩ := w3
    have vw3 : (tNN f T 1 9 (x0, x1, x3, F, P)).1 = r2 := w3.2.symm
    have ew3 : (tNN f T 1 9 (x0, x1, x3, F, P)).2 = (u4, u5, u6, u7, u8) := w3x.2.2.symm
    have bw3 : ¬ r2 = 0 → (1 : Int32).toInt ≤ (valN f T u7 (u8 - u7)).toInt ∧ (valN f T u7 (u8 - u7)).toInt ≤ (9 : Int32).toInt := (fun n9 => by rcases w3.1 with h9 | h9; exact absurd h9 n9; exact h9.2)
    refine lv_if_ne (tgt := 34) hx hb dX5_readStart_29 (by decide) (fun c9 => ?_) (fun c9 => ?_)
    · skip
      refine lv_aload_n hx hb dX5_readStart_34 rfl (lv_at hl 0 rfl) ?_
      refine va_get (D := (dC, dI)) (ci := 5) (v := .ref td) (C := RX5) (T := TX5) (N := 12) hx hb hg inG5 hown hK.1 hP 1 rfl rfl 1 (by decide) (hg _ wt_107) (fun _ h9 => h9) rfl dX5_readStart_35 ?_
      refine lv_aload_n hx hb dX5_readStart_38 rfl (lv_at hl 0 rfl) ?_
      have hPc := hP.sub (ws' := [(h0, .inr (5, [.ref tp, .ref td, .int u4, .int u5, .int x2, .int u6, .int (nI u7), .int (nI u8), .int 1, .int x7, .int x8, .int x9])), (tp, .inr (7, [.int (nI T), .ref ta])), (ta, .inl (G 0, 320, .inl f))]) [1, 2, 3] rfl
      refine va_calli (va_runV (As := []) (rest := [.ref td]) ⟨hx, hb, hml, hown, hg⟩ (c_X5_value l dC dI G _ h0 tp td ta T u7 u8 u4 u5 x2 u6 1 x7 x8 x9 f (by have t_c1 := eqI c1; have t_c9 := neI c9; have : (0 : Int32).toInt = 0 := (by decide); have t_n0 : (nI F).toInt = (F : Int) := nI_toInt (by omega); have t_n1 : (nI P).toInt = (P : Int) := nI_toInt (by omega); have t_n2 : (nI T).toInt = (T : Int) := nI_toInt (by omega); have t_n3 : (nI N).toInt = (N : Int) := nI_toInt (by omega); have t_n4 : (nI B).toInt = (B : Int) := nI_toInt (by omega); have t_n5 : (nI D).toInt = (D : Int) := nI_toInt (by omega); omega) (by have t_c1 := eqI c1; have t_c9 := neI c9; have : (0 : Int32).toInt = 0 := (by decide); have t_n0 : (nI F).toInt = (F : Int) := nI_toInt (by omega); have t_n1 : (nI P).toInt = (P : Int) := nI_toInt (by omega); have t_n2 : (nI T).toInt = (T : Int) := nI_toInt (by omega); have t_n3 : (nI N).toInt = (N : Int) := nI_toInt (by omega); have t_n4 : (nI B).toInt = (B : Int) := nI_toInt (by omega); have t_n5 : (nI D).toInt = (D : Int) := nI_toInt (by omega); omega) (by have t_c1 := eqI c1; have t_c9 := neI c9; have : (0 : Int32).toInt = 0 := (by decide); have t_n0 : (nI F).toInt = (F : Int) := nI_toInt (by omega); have t_n1 : (nI P).toInt = (P : Int) := nI_toInt (by omega); have t_n2 : (nI T).toInt = (T : Int) := nI_toInt (by omega); have t_n3 : (nI N).toInt = (N : Int) := nI_toInt (by omega); have t_n4 : (nI B).toInt = (B : Int) := nI_toInt (by omega); have t_n5 : (nI D).toInt = (D : Int) := nI_toInt (by omega); omega)) (kwV hg mfX5_value wt_459 ⟨Nat.le_of_ble_eq_true rfl, Nat.le_of_ble_eq_true rfl⟩) (preVR hK hPc (ci := 5) rfl rfl) rfl rfl hl.1 rfl (lv_room (Nat.le_of_ble_eq_true rfl)) dX5_readStart_39 ⟨Nat.le_of_ble_eq_true rfl, Nat.le_of_ble_eq_true rfl⟩) hS (fun q h1 h2 => absurd h2 (Nat.not_le.mpr h1)) (fun q h => hA q (Nat.le_trans hS.1 h)) (fun r10 ur10 t H1 locs ht hvm w11 hB hz1 hk1 hS => ?_)
      have hP := keepR hP hk1
      obtain ⟨w11, w11x⟩ := w11
      subst w11
      have q9 : 1 ≤ (valN f T u7 (u8 - u7)).toInt ∧ (valN f T u7 (u8 - u7)).toInt ≤ 9 := by
        have e1 : (1 : Int32).toInt = 1 := (by decide)
        have e9 : (9 : Int32).toInt = 9 := (by decide)
        rcases w3.1 with h9 | h9
        · exact absurd h9 (by assumption)
        · omega
      obtain ⟨dd, hdd, edd⟩ := i32_nat (x := valN f T u7 (u8 - u7)) (n := 10) (by omega) (by omega)
      have hd1 : 1 ≤ dd := by have t9 := congrArg Int32.toInt edd; rw [nI_toInt (by omega)] at t9; omega
      have edc : (cVL f T (u4, u5, u6, u7, u8)).toNatClampNeg = dd := (by show (valN f T u7 (u8 - u7)).toNatClampNeg = dd; rw [edd, nI_clamp (by omega)])
      refine lv_cg (y := nI dd) edd ?_
      refine va_putN (D := (dC, dI)) (ci := 9) (v := .int (nI dd)) (ty := .int) (C := RX9) (T := TX9) (N := 9) hx hb hg inG9 tyX9 tyX9_ok nmX9 hown hK.1 hP hD hS 0 rfl rfl 2 (by decide) (hK.nest wn_72) (fun _ h9 => h9) rfl (by decide +kernel) rfl rfl (Nat.le_of_ble_eq_true rfl) dX5_readStart_42 (fun H locs hP hD hS => ?_)
      have hP : va_P (dC, dI) vwCl [(td, .inr (9, [.int (nI N), .int (nI B), .int (nI dd), .ref a1, .ref a2, .ref a3, .ref a4, .ref a5, .ref a6])), (h0, .inr (5, [.ref tp, .ref td, .int u4, .int u5, .int x2, .int u6, .int (nI u7), .int (nI u8), .int 1, .int x7, .int x8, .int x9])), (tp, .inr (7, [.int (nI T), .ref ta])), (ta, .inl (G 0, 320, .inl f))] H := hP
      have hD : va_D A [(td, .inr (9, [.int (nI N), .int (nI B), .int (nI dd), .ref a1, .ref a2, .ref a3, .ref a4, .ref a5, .ref a6])), (h0, .inr (5, [.ref tp, .ref td, .int u4, .int u5, .int x2, .int u6, .int (nI u7), .int (nI u8), .int 1, .int x7, .int x8, .int x9])), (tp, .inr (7, [.int (nI T), .ref ta])), (ta, .inl (G 0, 320, .inl f))] := hD
      refine lv_aload_n hx hb dX5_readStart_45 rfl (lv_at hl 0 rfl) ?_
      have hPc := hP.sub (ws' := [(h0, .inr (5, [.ref tp, .ref td, .int u4, .int u5, .int x2, .int u6, .int (nI u7), .int (nI u8), .int 1, .int x7, .int x8, .int x9])), (tp, .inr (7, [.int (nI T), .ref ta])), (ta, .inl (G 0, 320, .inl f))]) [1, 2, 3] rfl
      have hDc := hD.sub (ws' := [(h0, .inr (5, [.ref tp, .ref td, .int u4, .int u5, .int x2, .int u6, .int (nI u7), .int (nI u8), .int 1, .int x7, .int x8, .int x9])), (tp, .inr (7, [.int (nI T), .ref ta])), (ta, .inl (G 0, 320, .inl f))]) [1, 2, 3] (by decide) rfl
      have hFc := va_free (wc := [(h0, .inr (5, [.ref tp, .ref td, .int u4, .int u5, .int x2, .int u6, .int (nI u7), .int (nI u8), .int 1, .int x7, .int x8, .int x9])), (tp, .inr (7, [.int (nI T), .ref ta])), (ta, .inl (G 0, 320, .inl f))]) hD hS hA [1, 2, 3] rfl
      refine va_calli (va_runV (As := []) (rest := []) ⟨hx, hb, hml, hown, hg⟩ (c_X5_nextStopE l dC dI G _ h0 tp td ta T u8 u4 u5 x2 u6 1 x7 x8 x9 (nI u7) f (by have t_c1 := eqI c1; have t_c9 := neI c9; have t_hdd := hdd; have t_hd1 := hd1; have : (0 : Int32).toInt = 0 := (by decide); have t_n0 : (nI F).toInt = (F : Int) := nI_toInt (by omega); have t_n1 : (nI P).toInt = (P : Int) := nI_toInt (by omega); have t_n2 : (nI T).toInt = (T : Int) := nI_toInt (by omega); have t_n3 : (nI N).toInt = (N : Int) := nI_toInt (by omega); have t_n4 : (nI B).toInt = (B : Int) := nI_toInt (by omega); have t_n5 : (nI D).toInt = (D : Int) := nI_toInt (by omega); have t_n6 : (nI dd).toInt = (dd : Int) := nI_toInt (by omega); omega) (by have t_c1 := eqI c1; have t_c9 := neI c9; have t_hdd := hdd; have t_hd1 := hd1; have : (0 : Int32).toInt = 0 := (by decide); have t_n0 : (nI F).toInt = (F : Int) := nI_toInt (by omega); have t_n1 : (nI P).toInt = (P : Int) := nI_toInt (by omega); have t_n2 : (nI T).toInt = (T : Int) := nI_toInt (by omega); have t_n3 : (nI N).toInt = (N : Int) := nI_toInt (by omega); have t_n4 : (nI B).toInt = (B : Int) := nI_toInt (by omega); have t_n5 : (nI D).toInt = (D : Int) := nI_toInt (by omega); have t_n6 : (nI dd).toInt = (dd : Int) := nI_toInt (by omega); omega)) (kwV hg mfX5_nextStop wt_463 ⟨Nat.le_of_ble_eq_true rfl, Nat.le_of_ble_eq_true rfl⟩) (preVW hK hPc hDc (ci := 5) rfl rfl) rfl rfl hl.1 rfl (lv_room (Nat.le_of_ble_eq_true rfl)) dX5_readStart_46 ⟨Nat.le_of_ble_eq_true rfl, Nat.le_of_ble_eq_true rfl⟩) hS (fun q _ h => hFc q h) hFc (fun r12 ur12 t H1 locs ht hvm w13 hB hz1 hk1 hS => ?_)
      obtain ⟨u14, u15, u16, u17, u18⟩ := ur12
      obtain ⟨hP1, hD1⟩ := hB
      rw [ht] at hP1
      obtain ⟨hP, hD⟩ := va_join (wr := [(td, .inr (9, [.int (nI N), .int (nI B), .int (nI dd), .ref a1, .ref a2, .ref a3, .ref a4, .ref a5, .ref a6]))]) (w1 := [(h0, .inr (5, [.ref tp, .ref td, .int u14, .int u15, .int x2, .int u16, .int (nI u17), .int (nI u18), .int 1, .int x7, .int x8, .int x9])), (tp, .inr (7, [.int (nI T), .ref ta])), (ta, .inl (G 0, 320, .inl f))]) hP hD [1, 2, 3] [0] rfl rfl (by decide) (by decide) hk1 hFc hP1 hD1
      generalize H1 = H at hP hS ⊢
      have hP : va_P (dC, dI) vwCl [(td, .inr (9, [.int (nI N), .int (nI B), .int (nI dd), .ref a1, .ref a2, .ref a3, .ref a4, .ref a5, .ref a6])), (h0, .inr (5, [.ref tp, .ref td, .int u14, .int u15, .int x2, .int u16, .int (nI u17), .int (nI u18), .int 1, .int x7, .int x8, .int x9])), (tp, .inr (7, [.int (nI T), .ref ta])), (ta, .inl (G 0, 320, .inl f))] H := hP
      have hD : va_D A [(td, .inr (9, [.int (nI N), .int (nI B), .int (nI dd), .ref a1, .ref a2, .ref a3, .ref a4, .ref a5, .ref a6])), (h0, .inr (5, [.ref tp, .ref td, .int u14, .int u15, .int x2, .int u16, .int (nI u17), .int (nI u18), .int 1, .int x7, .int x8, .int x9])), (tp, .inr (7, [.int (nI T), .ref ta])), (ta, .inl (G 0, 320, .inl f))] := hD
      obtain ⟨w13, w13x⟩ := w13
      have vw13 : (tNS f T (u4, u5, u6, u7, u8)).1 = r12 := w13.2.symm
      have ew13 : (tNS f T (u4, u5, u6, u7, u8)).2 = (u14, u15, u16, u17, u18) := w13x.2.2.symm
      have hpost : ((r12 : Int32) = 0 ∨ (r12 : Int32) = 1) ∧ (r12 : Int32) = (cST f T (x0, x1, x3, F, P) x6 D).1 := by
        have t_c1 := eqI c1
        have t_c9 := neI c9
        have t_hdd := hdd
        have t_hd1 := hd1
        have : (0 : Int32).toInt = 0 := (by decide)
        have t_n0 : (nI F).toInt = (F : Int) := nI_toInt (by omega)
        have t_n1 : (nI P).toInt = (P : Int) := nI_toInt (by omega)
        have t_n2 : (nI T).toInt = (T : Int) := nI_toInt (by omega)
        have t_n3 : (nI N).toInt = (N : Int) := nI_toInt (by omega)
        have t_n4 : (nI B).toInt = (B : Int) := nI_toInt (by omega)
        have t_n5 : (nI D).toInt = (D : Int) := nI_toInt (by omega)
        have t_n6 : (nI dd).toInt = (dd : Int) := nI_toInt (by omega)
        have z0 : (0 : Int32).toInt = 0 := (by decide)
        have z1 : (1 : Int32).toInt = 1 := (by decide)
        have z2 : (2 : Int32).toInt = 2 := (by decide)
        have z3 : (3 : Int32).toInt = 3 := (by decide)
        have z5 : (5 : Int32).toInt = 5 := (by decide)
        have z9 : (9 : Int32).toInt = 9 := (by decide)
        refine ⟨w13.1, ?_⟩
        unfold cST
        (try rw [vw3])
        (try rw [ew3])
        (try rw [edc])
        (try rw [vw13])
        (try rw [ew13])
        (try (repeat (first | rw [if_pos (by assumption)] | rw [if_neg (by assumption)] | rw [if_pos (by omega)] | rw [if_neg (by omega)] | rw [if_pos (by decide)] | rw [if_neg (by decide)])))
        all_goals rfl
      have hP9 := hP.sub (ws' := [(h0, .inr (5, [.ref tp, .ref td, .int u14, .int u15, .int x2, .int u16, .int (nI u17), .int (nI u18), .int 1, .int x7, .int x8, .int x9])), (tp, .inr (7, [.int (nI T), .ref ta])), (ta, .inl (G 0, 320, .inl f)), (td, .inr (9, [.int (nI N), .int (nI B), .int (nI dd), .ref a1, .ref a2, .ref a3, .ref a4, .ref a5, .ref a6]))]) [1, 2, 3, 0] rfl
      have hD9 := hD.sub (ws' := [(h0, .inr (5, [.ref tp, .ref td, .int u14, .int u15, .int x2, .int u16, .int (nI u17), .int (nI u18), .int 1, .int x7, .int x8, .int x9])), (tp, .inr (7, [.int (nI T), .ref ta])), (ta, .inl (G 0, 320, .inl f)), (td, .inr (9, [.int (nI N), .int (nI B), .int (nI dd), .ref a1, .ref a2, .ref a3, .ref a4, .ref a5, .ref a6]))]) [1, 2, 3, 0] (by decide) rfl
      refine W.widen (k := 0) (n := 0) (by omega) (by omega) ?_
      exact W.zret (v := r12) hx hb hr (by first | rfl | decide | exact zn01 w13.1) (fun t ht hW => ⟨⟨r12, (u14, u15, u16, u17, u18, 1, dd), rfl, ⟨hpost, (by have t_c1 := eqI c1; have t_c9 := neI c9; have t_hdd := hdd; have t_hd1 := hd1; have : (0 : Int32).toInt = 0 := (by decide); have t_n0 : (nI F).toInt = (F : Int) := nI_toInt (by omega); have t_n1 : (nI P).toInt = (P : Int) := nI_toInt (by omega); have t_n2 : (nI T).toInt = (T : Int) := nI_toInt (by omega); have t_n3 : (nI N).toInt = (N : Int) := nI_toInt (by omega); have t_n4 : (nI B).toInt = (B : Int) := nI_toInt (by omega); have t_n5 : (nI D).toInt = (D : Int) := nI_toInt (by omega); have t_n6 : (nI dd).toInt = (dd : Int) := nI_toInt (by omega); have z0 : (0 : Int32).toInt = 0 := (by decide); have z1 : (1 : Int32).toInt = 1 := (by decide); have z2 : (2 : Int32).toInt = 2 := (by decide); have z3 : (3 : Int32).toInt = 3 := (by decide); have z5 : (5 : Int32).toInt = 5 := (by decide); have z9 : (9 : Int32).toInt = 9 := (by decide); refine ⟨by omega, by omega, ⟨by omega, by omega⟩, ?_⟩; unfold cST; (try rw [vw3]); (try rw [ew3]); (try rw [edc]); (try rw [vw13]); (try rw [ew13]); (try (repeat (first | rw [if_pos (by assumption)] | rw [if_neg (by assumption)] | rw [if_pos (by omega)] | rw [if_neg (by omega)] | rw [if_pos (by decide)] | rw [if_neg (by decide)]))); all_goals rfl)⟩, ⟨by rw [ht]; exact hP9, hD9⟩⟩, hS.F ht⟩) hS.2.2 dX5_readStart_49
    · skip
      refine lv_iconst (v := 0) hx hb dX5_readStart_32 (by decide) ?_
      have hpost : ((0 : Int32) = 0 ∨ (0 : Int32) = 1) ∧ (0 : Int32) = (cST f T (x0, x1, x3, F, P) x6 D).1 := by
        have t_c1 := eqI c1
        have t_c9 := eqI c9
        have : (0 : Int32).toInt = 0 := (by decide)
        have t_n0 : (nI F).toInt = (F : Int) := nI_toInt (by omega)
        have t_n1 : (nI P).toInt = (P : Int) := nI_toInt (by omega)
        have t_n2 : (nI T).toInt = (T : Int) := nI_toInt (by omega)
        have t_n3 : (nI N).toInt = (N : Int) := nI_toInt (by omega)
        have t_n4 : (nI B).toInt = (B : Int) := nI_toInt (by omega)
        have t_n5 : (nI D).toInt = (D : Int) := nI_toInt (by omega)
        have z0 : (0 : Int32).toInt = 0 := (by decide)
        have z1 : (1 : Int32).toInt = 1 := (by decide)
        have z2 : (2 : Int32).toInt = 2 := (by decide)
        have z3 : (3 : Int32).toInt = 3 := (by decide)
        have z5 : (5 : Int32).toInt = 5 := (by decide)
        have z9 : (9 : Int32).toInt = 9 := (by decide)
        refine ⟨Or.inl rfl, ?_⟩
        unfold cST
        (try rw [vw3])
        (try rw [ew3])
        (try (repeat (first | rw [if_pos (by assumption)] | rw [if_neg (by assumption)] | rw [if_pos (by omega)] | rw [if_neg (by omega)] | rw [if_pos (by decide)] | rw [if_neg (by decide)])))
        all_goals rfl
      have hP9 := hP.sub (ws' := [(h0, .inr (5, [.ref tp, .ref td, .int u4, .int u5, .int x2, .int u6, .int (nI u7), .int (nI u8), .int 1, .int x7, .int x8, .int x9])), (tp, .inr (7, [.int (nI T), .ref ta])), (ta, .inl (G 0, 320, .inl f)), (td, .inr (9, [.int (nI N), .int (nI B), .int (nI D), .ref a1, .ref a2, .ref a3, .ref a4, .ref a5, .ref a6]))]) [1, 2, 3, 0] rfl
      have hD9 := hD.sub (ws' := [(h0, .inr (5, [.ref tp, .ref td, .int u4, .int u5, .int x2, .int u6, .int (nI u7), .int (nI u8), .int 1, .int x7, .int x8, .int x9])), (tp, .inr (7, [.int (nI T), .ref ta])), (ta, .inl (G 0, 320, .inl f)), (td, .inr (9, [.int (nI N), .int (nI B), .int (nI D), .ref a1, .ref a2, .ref a3, .ref a4, .ref a5, .ref a6]))]) [1, 2, 3, 0] (by decide) rfl
      refine W.widen (k := 0) (n := 0) (by omega) (by omega) ?_
      exact W.zret (v := 0) hx hb hr (by first | rfl | decide | exact rfl) (fun t ht hW => ⟨⟨0, (u4, u5, u6, u7, u8, 1, D), rfl, ⟨hpost, (by have t_c1 := eqI c1; have t_c9 := eqI c9; have : (0 : Int32).toInt = 0 := (by decide); have t_n0 : (nI F).toInt = (F : Int) := nI_toInt (by omega); have t_n1 : (nI P).toInt = (P : Int) := nI_toInt (by omega); have t_n2 : (nI T).toInt = (T : Int) := nI_toInt (by omega); have t_n3 : (nI N).toInt = (N : Int) := nI_toInt (by omega); have t_n4 : (nI B).toInt = (B : Int) := nI_toInt (by omega); have t_n5 : (nI D).toInt = (D : Int) := nI_toInt (by omega); have z0 : (0 : Int32).toInt = 0 := (by decide); have z1 : (1 : Int32).toInt = 1 := (by decide); have z2 : (2 : Int32).toInt = 2 := (by decide); have z3 : (3 : Int32).toInt = 3 := (by decide); have z5 : (5 : Int32).toInt = 5 := (by decide); have z9 : (9 : Int32).toInt = 9 := (by decide); refine ⟨by omega, by omega, ⟨by omega, by omega⟩, ?_⟩; unfold cST; (try rw [vw3]); (try rw [ew3]); (try (repeat (first | rw [if_pos (by assumption)] | rw [if_neg (by assumption)] | rw [if_pos (by omega)] | rw [if_neg (by omega)] | rw [if_pos (by decide)] | rw [if_neg (by decide)]))); all_goals rfl)⟩, ⟨by rw [ht]; exact hP9, hD9⟩⟩, hS.F ht⟩) hS.2.2 dX5_readStart_33
  · skip
    refine lv_aload_n hx hb dX5_readStart_7 rfl (lv_at hl 0 rfl) ?_
    refine lv_iconst (v := 4) hx hb dX5_readStart_8 (by decide) ?_
    refine lv_aload_n hx hb dX5_readStart_9 rfl (lv_at hl 0 rfl) ?_
    refine va_get (D := (dC, dI)) (ci := 5) (v := .int (nI F)) (C := RX5) (T := TX5) (N := 12) hx hb hg inG5 hown hK.1 hP 0 rfl rfl 6 (by decide) (hg _ wt_116) (fun _ h9 => h9) rfl dX5_readStart_10 ?_
    have hPc := hP.sub (ws' := [(h0, .inr (5, [.ref tp, .ref td, .int x0, .int x1, .int x2, .int x3, .int (nI F), .int (nI P), .int x6, .int x7, .int x8, .int x9]))]) [0] rfl
    have hDc := hD.sub (ws' := [(h0, .inr (5, [.ref tp, .ref td, .int x0, .int x1, .int x2, .int x3, .int (nI F), .int (nI P), .int x6, .int x7, .int x8, .int x9]))]) [0] (by decide) rfl
    have hFc := va_free (wc := [(h0, .inr (5, [.ref tp, .ref td, .int x0, .int x1, .int x2, .int x3, .int (nI F), .int (nI P), .int x6, .int x7, .int x8, .int x9]))]) hD hS hA [0] rfl
    refine va_calli (va_runV (As := [.int 4, .int (nI F)]) (rest := []) ⟨hx, hb, hml, hown, hg⟩ (c_X5_refuseE l dC dI G _ h0 tp td x0 x1 x2 x3 (nI F) (nI P) x6 x7 x8 x9 4 (nI F) ) (kwV hg mfX5_refuse wt_386 ⟨Nat.le_of_ble_eq_true rfl, Nat.le_of_ble_eq_true rfl⟩) (preVW hK hPc hDc (ci := 5) rfl rfl) rfl rfl hl.1 rfl (lv_room (Nat.le_of_ble_eq_true rfl)) dX5_readStart_13 ⟨Nat.le_of_ble_eq_true rfl, Nat.le_of_ble_eq_true rfl⟩) hS (fun q _ h => hFc q h) hFc (fun r19 ur19 t H1 locs ht hvm w20 hB hz1 hk1 hS => ?_)
    obtain ⟨u21, u22⟩ := ur19
    obtain ⟨hP1, hD1⟩ := hB
    rw [ht] at hP1
    obtain ⟨hP, hD⟩ := va_join (wr := [(tp, .inr (7, [.int (nI T), .ref ta])), (ta, .inl (G 0, 320, .inl f)), (td, .inr (9, [.int (nI N), .int (nI B), .int (nI D), .ref a1, .ref a2, .ref a3, .ref a4, .ref a5, .ref a6]))]) (w1 := [(h0, .inr (5, [.ref tp, .ref td, .int u21, .int u22, .int x2, .int x3, .int (nI F), .int (nI P), .int x6, .int x7, .int x8, .int x9]))]) hP hD [0] [1, 2, 3] rfl rfl (by decide) (by decide) hk1 hFc hP1 hD1
    generalize H1 = H at hP hS ⊢
    have hP : va_P (dC, dI) vwCl [(tp, .inr (7, [.int (nI T), .ref ta])), (ta, .inl (G 0, 320, .inl f)), (td, .inr (9, [.int (nI N), .int (nI B), .int (nI D), .ref a1, .ref a2, .ref a3, .ref a4, .ref a5, .ref a6])), (h0, .inr (5, [.ref tp, .ref td, .int u21, .int u22, .int x2, .int x3, .int (nI F), .int (nI P), .int x6, .int x7, .int x8, .int x9]))] H := hP
    have hD : va_D A [(tp, .inr (7, [.int (nI T), .ref ta])), (ta, .inl (G 0, 320, .inl f)), (td, .inr (9, [.int (nI N), .int (nI B), .int (nI D), .ref a1, .ref a2, .ref a3, .ref a4, .ref a5, .ref a6])), (h0, .inr (5, [.ref tp, .ref td, .int u21, .int u22, .int x2, .int x3, .int (nI F), .int (nI P), .int x6, .int x7, .int x8, .int x9]))] := hD
    obtain ⟨w20, w20x⟩ := w20
    subst w20
    have ew20 : cRF 4 (x0, x1, x3, F, P) = (u21, u22, x3, F, P) := (by show (flB _ _, flP _ _ _, _, _, _) = _; rw [← w20x.1, ← w20x.2])
    have hpost : ((0 : Int32) = 0 ∨ (0 : Int32) = 1) ∧ (0 : Int32) = (cST f T (x0, x1, x3, F, P) x6 D).1 := by
      have t_c1 := neI c1
      have : (0 : Int32).toInt = 0 := (by decide)
      have t_n0 : (nI F).toInt = (F : Int) := nI_toInt (by omega)
      have t_n1 : (nI P).toInt = (P : Int) := nI_toInt (by omega)
      have t_n2 : (nI T).toInt = (T : Int) := nI_toInt (by omega)
      have t_n3 : (nI N).toInt = (N : Int) := nI_toInt (by omega)
      have t_n4 : (nI B).toInt = (B : Int) := nI_toInt (by omega)
      have t_n5 : (nI D).toInt = (D : Int) := nI_toInt (by omega)
      have z0 : (0 : Int32).toInt = 0 := (by decide)
      have z1 : (1 : Int32).toInt = 1 := (by decide)
      have z2 : (2 : Int32).toInt = 2 := (by decide)
      have z3 : (3 : Int32).toInt = 3 := (by decide)
      have z5 : (5 : Int32).toInt = 5 := (by decide)
      have z9 : (9 : Int32).toInt = 9 := (by decide)
      refine ⟨Or.inl rfl, ?_⟩
      unfold cST
      (try rw [ew20])
      (try (repeat (first | rw [if_pos (by assumption)] | rw [if_neg (by assumption)] | rw [if_pos (by omega)] | rw [if_neg (by omega)] | rw [if_pos (by decide)] | rw [if_neg (by decide)])))
      all_goals rfl
    have hP9 := hP.sub (ws' := [(h0, .inr (5, [.ref tp, .ref td, .int u21, .int u22, .int x2, .int x3, .int (nI F), .int (nI P), .int x6, .int x7, .int x8, .int x9])), (tp, .inr (7, [.int (nI T), .ref ta])), (ta, .inl (G 0, 320, .inl f)), (td, .inr (9, [.int (nI N), .int (nI B), .int (nI D), .ref a1, .ref a2, .ref a3, .ref a4, .ref a5, .ref a6]))]) [3, 0, 1, 2] rfl
    have hD9 := hD.sub (ws' := [(h0, .inr (5, [.ref tp, .ref td, .int u21, .int u22, .int x2, .int x3, .int (nI F), .int (nI P), .int x6, .int x7, .int x8, .int x9])), (tp, .inr (7, [.int (nI T), .ref ta])), (ta, .inl (G 0, 320, .inl f)), (td, .inr (9, [.int (nI N), .int (nI B), .int (nI D), .ref a1, .ref a2, .ref a3, .ref a4, .ref a5, .ref a6]))]) [3, 0, 1, 2] (by decide) rfl
    refine W.widen (k := 0) (n := 0) (by omega) (by omega) ?_
    exact W.zret (v := 0) hx hb hr (by first | rfl | decide | exact rfl) (fun t ht hW => ⟨⟨0, (u21, u22, x3, F, P, x6, D), rfl, ⟨hpost, (by have t_c1 := neI c1; have : (0 : Int32).toInt = 0 := (by decide); have t_n0 : (nI F).toInt = (F : Int) := nI_toInt (by omega); have t_n1 : (nI P).toInt = (P : Int) := nI_toInt (by omega); have t_n2 : (nI T).toInt = (T : Int) := nI_toInt (by omega); have t_n3 : (nI N).toInt = (N : Int) := nI_toInt (by omega); have t_n4 : (nI B).toInt = (B : Int) := nI_toInt (by omega); have t_n5 : (nI D).toInt = (D : Int) := nI_toInt (by omega); have z0 : (0 : Int32).toInt = 0 := (by decide); have z1 : (1 : Int32).toInt = 1 := (by decide); have z2 : (2 : Int32).toInt = 2 := (by decide); have z3 : (3 : Int32).toInt = 3 := (by decide); have z5 : (5 : Int32).toInt = 5 := (by decide); have z9 : (9 : Int32).toInt = 9 := (by decide); refine ⟨by omega, by omega, ⟨by omega, by omega⟩, ?_⟩; unfold cST; (try rw [ew20]); (try (repeat (first | rw [if_pos (by assumption)] | rw [if_neg (by assumption)] | rw [if_pos (by omega)] | rw [if_neg (by omega)] | rw [if_pos (by decide)] | rw [if_neg (by decide)]))); all_goals rfl)⟩, ⟨by rw [ht]; exact hP9, hD9⟩⟩, hS.F ht⟩) hS.2.2 dX5_readStart_16

set_option maxHeartbeats 1000000 in
set_option maxRecDepth 100000 in
theorem c_X5_readStretchE (l : Launch) (dC : Nat → ClassId) (dI : Nat → Nat → Nat) (G : Nat → ClassId) (sz : Nat) (h0 tp td ta T F P a1 a2 a3 a4 a5 a6 N B D : Nat) (x0 x1 x2 x3 x6 x7 x8 x9 : Int32) (f g1 g2 : Nat → Int32) (hF : F ≤ P) (hP0 : P ≤ T) (hT : T ≤ 320) (hN_N : N ≤ 10) (hB_B : B ≤ 6) (hD_D : 1 ≤ D ∧ D ≤ 9) : Met l yX5_readStretch (Cond.code yX5_readStretch cX5_readStretch 2 (some .boolean) :: GT) ({ frames := 3, cells := 0, slots := 0, locals := 68 } : Room) (PcW [.ref h0] dC dI G [(h0, .inr (5, [.ref tp, .ref td, .int x0, .int x1, .int x2, .int x3, .int (nI F), .int (nI P), .int x6, .int x7, .int x8, .int x9])), (tp, .inr (7, [.int (nI T), .ref ta])), (ta, .inl (G 0, 320, .inl f)), (td, .inr (9, [.int (nI N), .int (nI B), .int (nI D), .ref a1, .ref a2, .ref a3, .ref a4, .ref a5, .ref a6])), (a1, .inl (G 0, 10, .inl g1)), (a2, .inl (G 0, 10, .inl g2))] sz) (va_Qi (fun (r : Int32) (u : Int32 × Int32 × Int32 × Nat × Nat × Nat × (Nat → Int32) × (Nat → Int32)) => match u with | (u0, u1, u3, u4, u5, v0, v1, v2) => ((r = 0 ∨ r = 1) ∧ r = (cSR f T (x0, x1, x3, F, P) N g1 g2).1) ∧ u4 ≤ u5 ∧ u5 ≤ T ∧ v0 ≤ 10 ∧ ((u0, u1, u3, u4, u5), v0, v1, v2) = (cSR f T (x0, x1, x3, F, P) N g1 g2).2) (fun (u : Int32 × Int32 × Int32 × Nat × Nat × Nat × (Nat → Int32) × (Nat → Int32)) (t : State) => match u with | (u0, u1, u3, u4, u5, v0, v1, v2) => va_P (dC, dI) vwCl [(h0, .inr (5, [.ref tp, .ref td, .int u0, .int u1, .int x2, .int u3, .int (nI u4), .int (nI u5), .int x6, .int x7, .int x8, .int x9])), (tp, .inr (7, [.int (nI T), .ref ta])), (ta, .inl (G 0, 320, .inl f)), (td, .inr (9, [.int (nI v0), .int (nI B), .int (nI D), .ref a1, .ref a2, .ref a3, .ref a4, .ref a5, .ref a6])), (a1, .inl (G 0, 10, .inl v1)), (a2, .inl (G 0, 10, .inl v2))] t.heap ∧ va_D (va_A [(h0, .inr (5, [.ref tp, .ref td, .int x0, .int x1, .int x2, .int x3, .int (nI F), .int (nI P), .int x6, .int x7, .int x8, .int x9])), (tp, .inr (7, [.int (nI T), .ref ta])), (ta, .inl (G 0, 320, .inl f)), (td, .inr (9, [.int (nI N), .int (nI B), .int (nI D), .ref a1, .ref a2, .ref a3, .ref a4, .ref a5, .ref a6])), (a1, .inl (G 0, 10, .inl g1)), (a2, .inl (G 0, 10, .inl g2))] sz) [(h0, .inr (5, [.ref tp, .ref td, .int u0, .int u1, .int x2, .int u3, .int (nI u4), .int (nI u5), .int x6, .int x7, .int x8, .int x9])), (tp, .inr (7, [.int (nI T), .ref ta])), (ta, .inl (G 0, 320, .inl f)), (td, .inr (9, [.int (nI v0), .int (nI B), .int (nI D), .ref a1, .ref a2, .ref a3, .ref a4, .ref a5, .ref a6])), (a1, .inl (G 0, 10, .inl v1)), (a2, .inl (G 0, 10, .inl v2))]) (va_A [(h0, .inr (5, [.ref tp, .ref td, .int x0, .int x1, .int x2, .int x3, .int (nI F), .int (nI P), .int x6, .int x7, .int x8, .int x9])), (tp, .inr (7, [.int (nI T), .ref ta])), (ta, .inl (G 0, 320, .inl f)), (td, .inr (9, [.int (nI N), .int (nI B), .int (nI D), .ref a1, .ref a2, .ref a3, .ref a4, .ref a5, .ref a6])), (a1, .inl (G 0, 10, .inl g1)), (a2, .inl (G 0, 10, .inl g2))] sz)) 0 0 (va_A [(h0, .inr (5, [.ref tp, .ref td, .int x0, .int x1, .int x2, .int x3, .int (nI F), .int (nI P), .int x6, .int x7, .int x8, .int x9])), (tp, .inr (7, [.int (nI T), .ref ta])), (ta, .inl (G 0, 320, .inl f)), (td, .inr (9, [.int (nI N), .int (nI B), .int (nI D), .ref a1, .ref a2, .ref a3, .ref a4, .ref a5, .ref a6])), (a1, .inl (G 0, 10, .inl g1)), (a2, .inl (G 0, 10, .inl g2))] sz) := by
  refine Met.ofW (cc := cX5_readStretch) (maxL := 2) (ret := (some .boolean)) (by decide) rfl ?_
  intro p e s m args below meth c s₁ Bd hml hv
  obtain ⟨rfl, hsz, hP, hK, hD0⟩ := hv
  have hx := Bd.exec
  have hb := Bd.bytes
  have hr := Bd.returns
  have hg : ∀ w ∈ GT, w.before ([.ref h0] : List Value).toArray s = true := fun w h => atoms_spec (ws := Cond.code yX5_readStretch cX5_readStretch 2 (some .boolean) :: GT) Bd.pre w (List.mem_cons_of_mem _ h)
  have hown : s.vm.findClass RX5 = some m.cls := findClass_of_methodNamed Bd.named
  have hlocks := Bd.notSynchronized
  subst hsz
  have hD := hD0.self (sz := s.heap.size)
  generalize hAe : va_A [(h0, .inr (5, [.ref tp, .ref td, .int x0, .int x1, .int x2, .int x3, .int (nI F), .int (nI P), .int x6, .int x7, .int x8, .int x9])), (tp, .inr (7, [.int (nI T), .ref ta])), (ta, .inl (G 0, 320, .inl f)), (td, .inr (9, [.int (nI N), .int (nI B), .int (nI D), .ref a1, .ref a2, .ref a3, .ref a4, .ref a5, .ref a6])), (a1, .inl (G 0, 10, .inl g1)), (a2, .inl (G 0, 10, .inl g2))] s.heap.size = A at hD ⊢
  have hA : ∀ q : Nat, s.heap.size ≤ q → A q := fun q h => by rw [← hAe]; exact Or.inr h
  have hS : va_S A s.heap s.heap [] := va_S.rf
  have hl := lv_entry ([.ref h0]) (n := 2) (Nat.le_of_ble_eq_true rfl)
  rw [lg_entry_eq]
  generalize (lg_sl ([.ref h0]) ++ List.replicate (2 - (lg_sl ([.ref h0])).length) Slot.unset).toArray = ls at hl ⊢
  have hl : lv_has ls 2 [(0, .ref h0)] := hl
  refine lv_aload_n hx hb dX5_readStretch_0 rfl (lv_at hl 0 rfl) ?_
  refine va_get (D := (dC, dI)) (ci := 5) (v := .ref td) (C := RX5) (T := TX5) (N := 12) hx hb hg inG5 hown hK.1 hP 0 rfl rfl 1 (by decide) (hg _ wt_107) (fun _ h9 => h9) rfl dX5_readStretch_1 ?_
  refine va_getN (D := (dC, dI)) (ci := 9) (v := .int (nI N)) (C := RX9) (T := TX9) (N := 9) hx hb hg inG9 hown hK.1 hP 3 rfl rfl 0 (by decide) (hK.nest wn_61) (fun _ h9 => h9) rfl dX5_readStretch_4 ?_
  refine lv_bipush (v := 10) hx hb dX5_readStretch_7 (by decide) ?_
  refine lv_icmp_lt (tgt := 22) hx hb dX5_readStretch_9 (by decide) (fun c1 => ?_) (fun c1 => ?_)
  · skip
    have n2 : N < 10 := by have t := ltI c1; rw [nI_toInt (n := N) (by omega)] at t; have : (10 : Int32).toInt = 10 := (by decide); omega
    refine lv_aload_n hx hb dX5_readStretch_22 rfl (lv_at hl 0 rfl) ?_
    refine lv_iconst (v := 0) hx hb dX5_readStretch_23 (by decide) ?_
    refine lv_bipush (v := 9) hx hb dX5_readStretch_24 (by decide) ?_
    have hPc := hP.sub (ws' := [(h0, .inr (5, [.ref tp, .ref td, .int x0, .int x1, .int x2, .int x3, .int (nI F), .int (nI P), .int x6, .int x7, .int x8, .int x9])), (tp, .inr (7, [.int (nI T), .ref ta])), (ta, .inl (G 0, 320, .inl f))]) [0, 1, 2] rfl
    have hDc := hD.sub (ws' := [(h0, .inr (5, [.ref tp, .ref td, .int x0, .int x1, .int x2, .int x3, .int (nI F), .int (nI P), .int x6, .int x7, .int x8, .int x9])), (tp, .inr (7, [.int (nI T), .ref ta])), (ta, .inl (G 0, 320, .inl f))]) [0, 1, 2] (by decide) rfl
    have hFc := va_free (wc := [(h0, .inr (5, [.ref tp, .ref td, .int x0, .int x1, .int x2, .int x3, .int (nI F), .int (nI P), .int x6, .int x7, .int x8, .int x9])), (tp, .inr (7, [.int (nI T), .ref ta])), (ta, .inl (G 0, 320, .inl f))]) hD hS hA [0, 1, 2] rfl
    refine va_calli (va_runV (As := [.int 0, .int 9]) (rest := []) ⟨hx, hb, hml, hown, hg⟩ (c_X5_nextNumberE l dC dI G _ h0 tp td ta T P x0 x1 x2 x3 x6 x7 x8 x9 (nI F) 0 9 f (by have t_n2 := n2; have t_n0 : (nI F).toInt = (F : Int) := nI_toInt (by omega); have t_n1 : (nI P).toInt = (P : Int) := nI_toInt (by omega); have t_n2 : (nI T).toInt = (T : Int) := nI_toInt (by omega); have t_n3 : (nI N).toInt = (N : Int) := nI_toInt (by omega); have t_n4 : (nI B).toInt = (B : Int) := nI_toInt (by omega); have t_n5 : (nI D).toInt = (D : Int) := nI_toInt (by omega); have : (0 : Int32).toInt = 0 := (by decide); have : (9 : Int32).toInt = 9 := (by decide); omega) (by have t_n2 := n2; have t_n0 : (nI F).toInt = (F : Int) := nI_toInt (by omega); have t_n1 : (nI P).toInt = (P : Int) := nI_toInt (by omega); have t_n2 : (nI T).toInt = (T : Int) := nI_toInt (by omega); have t_n3 : (nI N).toInt = (N : Int) := nI_toInt (by omega); have t_n4 : (nI B).toInt = (B : Int) := nI_toInt (by omega); have t_n5 : (nI D).toInt = (D : Int) := nI_toInt (by omega); have : (0 : Int32).toInt = 0 := (by decide); have : (9 : Int32).toInt = 9 := (by decide); omega)) (kwV hg mfX5_nextNumber wt_455 ⟨Nat.le_of_ble_eq_true rfl, Nat.le_of_ble_eq_true rfl⟩) (preVW hK hPc hDc (ci := 5) rfl rfl) rfl rfl hl.1 rfl (lv_room (Nat.le_of_ble_eq_true rfl)) dX5_readStretch_26 ⟨Nat.le_of_ble_eq_true rfl, Nat.le_of_ble_eq_true rfl⟩) hS (fun q _ h => hFc q h) hFc (fun r3 ur3 t H1 locs ht hvm w4 hB hz1 hk1 hS => ?_)
    obtain ⟨u5, u6, u7, u8, u9⟩ := ur3
    obtain ⟨hP1, hD1⟩ := hB
    rw [ht] at hP1
    obtain ⟨hP, hD⟩ := va_join (wr := [(td, .inr (9, [.int (nI N), .int (nI B), .int (nI D), .ref a1, .ref a2, .ref a3, .ref a4, .ref a5, .ref a6])), (a1, .inl (G 0, 10, .inl g1)), (a2, .inl (G 0, 10, .inl g2))]) (w1 := [(h0, .inr (5, [.ref tp, .ref td, .int u5, .int u6, .int x2, .int u7, .int (nI u8), .int (nI u9), .int x6, .int x7, .int x8, .int x9])), (tp, .inr (7, [.int (nI T), .ref ta])), (ta, .inl (G 0, 320, .inl f))]) hP hD [0, 1, 2] [3, 4, 5] rfl rfl (by decide) (by decide) hk1 hFc hP1 hD1
    generalize H1 = H at hP hS ⊢
    have hP : va_P (dC, dI) vwCl [(td, .inr (9, [.int (nI N), .int (nI B), .int (nI D), .ref a1, .ref a2, .ref a3, .ref a4, .ref a5, .ref a6])), (a1, .inl (G 0, 10, .inl g1)), (a2, .inl (G 0, 10, .inl g2)), (h0, .inr (5, [.ref tp, .ref td, .int u5, .int u6, .int x2, .int u7, .int (nI u8), .int (nI u9), .int x6, .int x7, .int x8, .int x9])), (tp, .inr (7, [.int (nI T), .ref ta])), (ta, .inl (G 0, 320, .inl f))] H := hP
    have hD : va_D A [(td, .inr (9, [.int (nI N), .int (nI B), .int (nI D), .ref a1, .ref a2, .ref a3, .ref a4, .ref a5, .ref a6])), (a1, .inl (G 0, 10, .inl g1)), (a2, .inl (G 0, 10, .inl g2)), (h0, .inr (5, [.ref tp, .ref td, .int u5, .int u6, .int x2, .int u7, .int (nI u8), .int (nI u9), .int x6, .int x7, .int x8, .int x9])), (tp, .inr (7, [.int (nI T), .ref ta])), (ta, .inl (G 0, 320, .inl f))] := hD
    obtain ⟨w4, w4x⟩ := w4
    have vw4 : (tNN f T 0 9 (x0, x1, x3, F, P)).1 = r3 := w4.2.symm
    have ew4 : (tNN f T 0 9 (x0, x1, x3, F, P)).2 = (u5, u6, u7, u8, u9) := w4x.2.2.symm
    have bw4 : ¬ r3 = 0 → (0 : Int32).toInt ≤ (valN f T u8 (u9 - u8)).toInt ∧ (valN f T u8 (u9 - u8)).toInt ≤ (9 : Int32).toInt := (fun n9 => by rcases w4.1 with h9 | h9; exact absurd h9 n9; exact h9.2)
    refine lv_if_ne (tgt := 34) hx hb dX5_readStretch_29 (by decide) (fun c10 => ?_) (fun c10 => ?_)
    · skip
      refine lv_aload_n hx hb dX5_readStretch_34 rfl (lv_at hl 0 rfl) ?_
      have hPc := hP.sub (ws' := [(h0, .inr (5, [.ref tp, .ref td, .int u5, .int u6, .int x2, .int u7, .int (nI u8), .int (nI u9), .int x6, .int x7, .int x8, .int x9])), (tp, .inr (7, [.int (nI T), .ref ta])), (ta, .inl (G 0, 320, .inl f))]) [3, 4, 5] rfl
      refine va_calli (va_runV (As := []) (rest := []) ⟨hx, hb, hml, hown, hg⟩ (c_X5_value l dC dI G _ h0 tp td ta T u8 u9 u5 u6 x2 u7 x6 x7 x8 x9 f (by have t_n2 := n2; have t_c10 := neI c10; have : (0 : Int32).toInt = 0 := (by decide); have t_n0 : (nI F).toInt = (F : Int) := nI_toInt (by omega); have t_n1 : (nI P).toInt = (P : Int) := nI_toInt (by omega); have t_n2 : (nI T).toInt = (T : Int) := nI_toInt (by omega); have t_n3 : (nI N).toInt = (N : Int) := nI_toInt (by omega); have t_n4 : (nI B).toInt = (B : Int) := nI_toInt (by omega); have t_n5 : (nI D).toInt = (D : Int) := nI_toInt (by omega); omega) (by have t_n2 := n2; have t_c10 := neI c10; have : (0 : Int32).toInt = 0 := (by decide); have t_n0 : (nI F).toInt = (F : Int) := nI_toInt (by omega); have t_n1 : (nI P).toInt = (P : Int) := nI_toInt (by omega); have t_n2 : (nI T).toInt = (T : Int) := nI_toInt (by omega); have t_n3 : (nI N).toInt = (N : Int) := nI_toInt (by omega); have t_n4 : (nI B).toInt = (B : Int) := nI_toInt (by omega); have t_n5 : (nI D).toInt = (D : Int) := nI_toInt (by omega); omega) (by have t_n2 := n2; have t_c10 := neI c10; have : (0 : Int32).toInt = 0 := (by decide); have t_n0 : (nI F).toInt = (F : Int) := nI_toInt (by omega); have t_n1 : (nI P).toInt = (P : Int) := nI_toInt (by omega); have t_n2 : (nI T).toInt = (T : Int) := nI_toInt (by omega); have t_n3 : (nI N).toInt = (N : Int) := nI_toInt (by omega); have t_n4 : (nI B).toInt = (B : Int) := nI_toInt (by omega); have t_n5 : (nI D).toInt = (D : Int) := nI_toInt (by omega); omega)) (kwV hg mfX5_value wt_459 ⟨Nat.le_of_ble_eq_true rfl, Nat.le_of_ble_eq_true rfl⟩) (preVR hK hPc (ci := 5) rfl rfl) rfl rfl hl.1 rfl (lv_room (Nat.le_of_ble_eq_true rfl)) dX5_readStretch_35 ⟨Nat.le_of_ble_eq_true rfl, Nat.le_of_ble_eq_true rfl⟩) hS (fun q h1 h2 => absurd h2 (Nat.not_le.mpr h1)) (fun q h => hA q (Nat.le_trans hS.1 h)) (fun r11 ur11 t H1 locs ht hvm w12 hB hz1 hk1 hS => ?_)
      have hP := keepR hP hk1
      obtain ⟨w12, w12x⟩ := w12
      subst w12
      refine lv_istore_n (lv' := [(1, .int (valN f T u8 (u9 - u8))), (0, .ref h0)]) hx hb dX5_readStretch_38 rfl hl (by decide) rfl (fun ls hl => ?_)
      refine lv_aload_n hx hb dX5_readStretch_39 rfl (lv_at hl 1 rfl) ?_
      refine lv_iconst (v := 0) hx hb dX5_readStretch_40 (by decide) ?_
      refine lv_bipush (v := 9) hx hb dX5_readStretch_41 (by decide) ?_
      have hPc := hP.sub (ws' := [(h0, .inr (5, [.ref tp, .ref td, .int u5, .int u6, .int x2, .int u7, .int (nI u8), .int (nI u9), .int x6, .int x7, .int x8, .int x9])), (tp, .inr (7, [.int (nI T), .ref ta])), (ta, .inl (G 0, 320, .inl f))]) [3, 4, 5] rfl
      have hDc := hD.sub (ws' := [(h0, .inr (5, [.ref tp, .ref td, .int u5, .int u6, .int x2, .int u7, .int (nI u8), .int (nI u9), .int x6, .int x7, .int x8, .int x9])), (tp, .inr (7, [.int (nI T), .ref ta])), (ta, .inl (G 0, 320, .inl f))]) [3, 4, 5] (by decide) rfl
      have hFc := va_free (wc := [(h0, .inr (5, [.ref tp, .ref td, .int u5, .int u6, .int x2, .int u7, .int (nI u8), .int (nI u9), .int x6, .int x7, .int x8, .int x9])), (tp, .inr (7, [.int (nI T), .ref ta])), (ta, .inl (G 0, 320, .inl f))]) hD hS hA [3, 4, 5] rfl
      refine va_calli (va_runV (As := [.int 0, .int 9]) (rest := []) ⟨hx, hb, hml, hown, hg⟩ (c_X5_nextNumberE l dC dI G _ h0 tp td ta T u9 u5 u6 x2 u7 x6 x7 x8 x9 (nI u8) 0 9 f (by have t_n2 := n2; have t_c10 := neI c10; have : (0 : Int32).toInt = 0 := (by decide); have t_n0 : (nI F).toInt = (F : Int) := nI_toInt (by omega); have t_n1 : (nI P).toInt = (P : Int) := nI_toInt (by omega); have t_n2 : (nI T).toInt = (T : Int) := nI_toInt (by omega); have t_n3 : (nI N).toInt = (N : Int) := nI_toInt (by omega); have t_n4 : (nI B).toInt = (B : Int) := nI_toInt (by omega); have t_n5 : (nI D).toInt = (D : Int) := nI_toInt (by omega); have : (0 : Int32).toInt = 0 := (by decide); have : (9 : Int32).toInt = 9 := (by decide); omega) (by have t_n2 := n2; have t_c10 := neI c10; have : (0 : Int32).toInt = 0 := (by decide); have t_n0 : (nI F).toInt = (F : Int) := nI_toInt (by omega); have t_n1 : (nI P).toInt = (P : Int) := nI_toInt (by omega); have t_n2 : (nI T).toInt = (T : Int) := nI_toInt (by omega); have t_n3 : (nI N).toInt = (N : Int) := nI_toInt (by omega); have t_n4 : (nI B).toInt = (B : Int) := nI_toInt (by omega); have t_n5 : (nI D).toInt = (D : Int) := nI_toInt (by omega); have : (0 : Int32).toInt = 0 := (by decide); have : (9 : Int32).toInt = 9 := (by decide); omega)) (kwV hg mfX5_nextNumber wt_455 ⟨Nat.le_of_ble_eq_true rfl, Nat.le_of_ble_eq_true rfl⟩) (preVW hK hPc hDc (ci := 5) rfl rfl) rfl rfl hl.1 rfl (lv_room (Nat.le_of_ble_eq_true rfl)) dX5_readStretch_43 ⟨Nat.le_of_ble_eq_true rfl, Nat.le_of_ble_eq_true rfl⟩) hS (fun q _ h => hFc q h) hFc (fun r13 ur13 t H1 locs ht hvm w14 hB hz1 hk1 hS => ?_)
      obtain ⟨u15, u16, u17, u18, u19⟩ := ur13
      obtain ⟨hP1, hD1⟩ := hB
      rw [ht] at hP1
      obtain ⟨hP, hD⟩ := va_join (wr := [(td, .inr (9, [.int (nI N), .int (nI B), .int (nI D), .ref a1, .ref a2, .ref a3, .ref a4, .ref a5, .ref a6])), (a1, .inl (G 0, 10, .inl g1)), (a2, .inl (G 0, 10, .inl g2))]) (w1 := [(h0, .inr (5, [.ref tp, .ref td, .int u15, .int u16, .int x2, .int u17, .int (nI u18), .int (nI u19), .int x6, .int x7, .int x8, .int x9])), (tp, .inr (7, [.int (nI T), .ref ta])), (ta, .inl (G 0, 320, .inl f))]) hP hD [3, 4, 5] [0, 1, 2] rfl rfl (by decide) (by decide) hk1 hFc hP1 hD1
      generalize H1 = H at hP hS ⊢
      have hP : va_P (dC, dI) vwCl [(td, .inr (9, [.int (nI N), .int (nI B), .int (nI D), .ref a1, .ref a2, .ref a3, .ref a4, .ref a5, .ref a6])), (a1, .inl (G 0, 10, .inl g1)), (a2, .inl (G 0, 10, .inl g2)), (h0, .inr (5, [.ref tp, .ref td, .int u15, .int u16, .int x2, .int u17, .int (nI u18), .int (nI u19), .int x6, .int x7, .int x8, .int x9])), (tp, .inr (7, [.int (nI T), .ref ta])), (ta, .inl (G 0, 320, .inl f))] H := hP
      have hD : va_D A [(td, .inr (9, [.int (nI N), .int (nI B), .int (nI D), .ref a1, .ref a2, .ref a3, .ref a4, .ref a5, .ref a6])), (a1, .inl (G 0, 10, .inl g1)), (a2, .inl (G 0, 10, .inl g2)), (h0, .inr (5, [.ref tp, .ref td, .int u15, .int u16, .int x2, .int u17, .int (nI u18), .int (nI u19), .int x6, .int x7, .int x8, .int x9])), (tp, .inr (7, [.int (nI T), .ref ta])), (ta, .inl (G 0, 320, .inl f))] := hD
      obtain ⟨w14, w14x⟩ := w14
      have vw14 : (tNN f T 0 9 (u5, u6, u7, u8, u9)).1 = r13 := w14.2.symm
      have ew14 : (tNN f T 0 9 (u5, u6, u7, u8, u9)).2 = (u15, u16, u17, u18, u19) := w14x.2.2.symm
      have bw14 : ¬ r13 = 0 → (0 : Int32).toInt ≤ (valN f T u18 (u19 - u18)).toInt ∧ (valN f T u18 (u19 - u18)).toInt ≤ (9 : Int32).toInt := (fun n9 => by rcases w14.1 with h9 | h9; exact absurd h9 n9; exact h9.2)
      refine lv_if_ne (tgt := 51) hx hb dX5_readStretch_46 (by decide) (fun c20 => ?_) (fun c20 => ?_)
      · skip
        refine lv_aload_n hx hb dX5_readStretch_51 rfl (lv_at hl 1 rfl) ?_
        refine va_get (D := (dC, dI)) (ci := 5) (v := .ref td) (C := RX5) (T := TX5) (N := 12) hx hb hg inG5 hown hK.1 hP 3 rfl rfl 1 (by decide) (hg _ wt_107) (fun _ h9 => h9) rfl dX5_readStretch_52 ?_
        refine lv_iload_n hx hb dX5_readStretch_55 rfl (lv_at hl 0 rfl) ?_
        refine lv_aload_n hx hb dX5_readStretch_56 rfl (lv_at hl 1 rfl) ?_
        have hPc := hP.sub (ws' := [(h0, .inr (5, [.ref tp, .ref td, .int u15, .int u16, .int x2, .int u17, .int (nI u18), .int (nI u19), .int x6, .int x7, .int x8, .int x9])), (tp, .inr (7, [.int (nI T), .ref ta])), (ta, .inl (G 0, 320, .inl f))]) [3, 4, 5] rfl
        refine va_calli (va_runV (As := []) (rest := [.int (valN f T u8 (u9 - u8)), .ref td]) ⟨hx, hb, hml, hown, hg⟩ (c_X5_value l dC dI G _ h0 tp td ta T u18 u19 u15 u16 x2 u17 x6 x7 x8 x9 f (by have t_n2 := n2; have t_c10 := neI c10; have t_c20 := neI c20; have : (0 : Int32).toInt = 0 := (by decide); have t_n0 : (nI F).toInt = (F : Int) := nI_toInt (by omega); have t_n1 : (nI P).toInt = (P : Int) := nI_toInt (by omega); have t_n2 : (nI T).toInt = (T : Int) := nI_toInt (by omega); have t_n3 : (nI N).toInt = (N : Int) := nI_toInt (by omega); have t_n4 : (nI B).toInt = (B : Int) := nI_toInt (by omega); have t_n5 : (nI D).toInt = (D : Int) := nI_toInt (by omega); omega) (by have t_n2 := n2; have t_c10 := neI c10; have t_c20 := neI c20; have : (0 : Int32).toInt = 0 := (by decide); have t_n0 : (nI F).toInt = (F : Int) := nI_toInt (by omega); have t_n1 : (nI P).toInt = (P : Int) := nI_toInt (by omega); have t_n2 : (nI T).toInt = (T : Int) := nI_toInt (by omega); have t_n3 : (nI N).toInt = (N : Int) := nI_toInt (by omega); have t_n4 : (nI B).toInt = (B : Int) := nI_toInt (by omega); have t_n5 : (nI D).toInt = (D : Int) := nI_toInt (by omega); omega) (by have t_n2 := n2; have t_c10 := neI c10; have t_c20 := neI c20; have : (0 : Int32).toInt = 0 := (by decide); have t_n0 : (nI F).toInt = (F : Int) := nI_toInt (by omega); have t_n1 : (nI P).toInt = (P : Int) := nI_toInt (by omega); have t_n2 : (nI T).toInt = (T : Int) := nI_toInt (by omega); have t_n3 : (nI N).toInt = (N : Int) := nI_toInt (by omega); have t_n4 : (nI B).toInt = (B : Int) := nI_toInt (by omega); have t_n5 : (nI D).toInt = (D : Int) := nI_toInt (by omega); omega)) (kwV hg mfX5_value wt_459 ⟨Nat.le_of_ble_eq_true rfl, Nat.le_of_ble_eq_true rfl⟩) (preVR hK hPc (ci := 5) rfl rfl) rfl rfl hl.1 rfl (lv_room (Nat.le_of_ble_eq_true rfl)) dX5_readStretch_57 ⟨Nat.le_of_ble_eq_true rfl, Nat.le_of_ble_eq_true rfl⟩) hS (fun q h1 h2 => absurd h2 (Nat.not_le.mpr h1)) (fun q h => hA q (Nat.le_trans hS.1 h)) (fun r21 ur21 t H1 locs ht hvm w22 hB hz1 hk1 hS => ?_)
        have hP := keepR hP hk1
        obtain ⟨w22, w22x⟩ := w22
        subst w22
        have hPc := hP.sub (ws' := [(td, .inr (9, [.int (nI N), .int (nI B), .int (nI D), .ref a1, .ref a2, .ref a3, .ref a4, .ref a5, .ref a6])), (a1, .inl (G 0, 10, .inl g1)), (a2, .inl (G 0, 10, .inl g2))]) [0, 1, 2] rfl
        have hDc := hD.sub (ws' := [(td, .inr (9, [.int (nI N), .int (nI B), .int (nI D), .ref a1, .ref a2, .ref a3, .ref a4, .ref a5, .ref a6])), (a1, .inl (G 0, 10, .inl g1)), (a2, .inl (G 0, 10, .inl g2))]) [0, 1, 2] (by decide) rfl
        have hFc := va_free (wc := [(td, .inr (9, [.int (nI N), .int (nI B), .int (nI D), .ref a1, .ref a2, .ref a3, .ref a4, .ref a5, .ref a6])), (a1, .inl (G 0, 10, .inl g1)), (a2, .inl (G 0, 10, .inl g2))]) hD hS hA [0, 1, 2] rfl
        refine va_callv (va_runVN (As := [.int (valN f T u8 (u9 - u8)), .int (valN f T u18 (u19 - u18))]) (rest := []) ⟨hx, hb, hml, hown, hg⟩ (c_X9_addStretchE l dC dI G _ td a1 a2 a3 a4 a5 a6 N B D (valN f T u8 (u9 - u8)) (valN f T u18 (u19 - u18)) g1 g2 (by have t_n2 := n2; have t_c10 := neI c10; have t_c20 := neI c20; have : (0 : Int32).toInt = 0 := (by decide); have t_n0 : (nI F).toInt = (F : Int) := nI_toInt (by omega); have t_n1 : (nI P).toInt = (P : Int) := nI_toInt (by omega); have t_n2 : (nI T).toInt = (T : Int) := nI_toInt (by omega); have t_n3 : (nI N).toInt = (N : Int) := nI_toInt (by omega); have t_n4 : (nI B).toInt = (B : Int) := nI_toInt (by omega); have t_n5 : (nI D).toInt = (D : Int) := nI_toInt (by omega); omega) (by have t_n2 := n2; have t_c10 := neI c10; have t_c20 := neI c20; have : (0 : Int32).toInt = 0 := (by decide); have t_n0 : (nI F).toInt = (F : Int) := nI_toInt (by omega); have t_n1 : (nI P).toInt = (P : Int) := nI_toInt (by omega); have t_n2 : (nI T).toInt = (T : Int) := nI_toInt (by omega); have t_n3 : (nI N).toInt = (N : Int) := nI_toInt (by omega); have t_n4 : (nI B).toInt = (B : Int) := nI_toInt (by omega); have t_n5 : (nI D).toInt = (D : Int) := nI_toInt (by omega); omega) (by have t_n2 := n2; have t_c10 := neI c10; have t_c20 := neI c20; have : (0 : Int32).toInt = 0 := (by decide); have t_n0 : (nI F).toInt = (F : Int) := nI_toInt (by omega); have t_n1 : (nI P).toInt = (P : Int) := nI_toInt (by omega); have t_n2 : (nI T).toInt = (T : Int) := nI_toInt (by omega); have t_n3 : (nI N).toInt = (N : Int) := nI_toInt (by omega); have t_n4 : (nI B).toInt = (B : Int) := nI_toInt (by omega); have t_n5 : (nI D).toInt = (D : Int) := nI_toInt (by omega); omega)) (kwVN hg hK mfX9_addStretch wn_472 ⟨Nat.le_of_ble_eq_true rfl, Nat.le_of_ble_eq_true rfl⟩) (preVW hK hPc hDc (ci := 9) rfl rfl) rfl rfl hl.1 rfl (lv_room (Nat.le_of_ble_eq_true rfl)) dX5_readStretch_60 ⟨Nat.le_of_ble_eq_true rfl, Nat.le_of_ble_eq_true rfl⟩) hS (fun q _ h => hFc q h) hFc (fun ur23 t H1 locs ht hvm w24 hB hz1 hk1 hS => ?_)
        obtain ⟨u25, u26, u27⟩ := ur23
        obtain ⟨hP1, hD1⟩ := hB
        rw [ht] at hP1
        obtain ⟨hP, hD⟩ := va_join (wr := [(h0, .inr (5, [.ref tp, .ref td, .int u15, .int u16, .int x2, .int u17, .int (nI u18), .int (nI u19), .int x6, .int x7, .int x8, .int x9])), (tp, .inr (7, [.int (nI T), .ref ta])), (ta, .inl (G 0, 320, .inl f))]) (w1 := [(td, .inr (9, [.int (nI u25), .int (nI B), .int (nI D), .ref a1, .ref a2, .ref a3, .ref a4, .ref a5, .ref a6])), (a1, .inl (G 0, 10, .inl u26)), (a2, .inl (G 0, 10, .inl u27))]) hP hD [0, 1, 2] [3, 4, 5] rfl rfl (by decide) (by decide) hk1 hFc hP1 hD1
        have w24 : u25 = (if N < 10 then N + 1 else N) ∧ u26 = (if N < 10 then upd g1 N (valN f T u8 (u9 - u8)) else g1) ∧ u27 = (if N < 10 then upd g2 N (valN f T u18 (u19 - u18)) else g2) := w24
        generalize H1 = H at hP hS ⊢
        have hP : va_P (dC, dI) vwCl [(h0, .inr (5, [.ref tp, .ref td, .int u15, .int u16, .int x2, .int u17, .int (nI u18), .int (nI u19), .int x6, .int x7, .int x8, .int x9])), (tp, .inr (7, [.int (nI T), .ref ta])), (ta, .inl (G 0, 320, .inl f)), (td, .inr (9, [.int (nI u25), .int (nI B), .int (nI D), .ref a1, .ref a2, .ref a3, .ref a4, .ref a5, .ref a6])), (a1, .inl (G 0, 10, .inl u26)), (a2, .inl (G 0, 10, .inl u27))] H := hP
        have hD : va_D A [(h0, .inr (5, [.ref tp, .ref td, .int u15, .int u16, .int x2, .int u17, .int (nI u18), .int (nI u19), .int x6, .int x7, .int x8, .int x9])), (tp, .inr (7, [.int (nI T), .ref ta])), (ta, .inl (G 0, 320, .inl f)), (td, .inr (9, [.int (nI u25), .int (nI B), .int (nI D), .ref a1, .ref a2, .ref a3, .ref a4, .ref a5, .ref a6])), (a1, .inl (G 0, 10, .inl u26)), (a2, .inl (G 0, 10, .inl u27))] := hD
        have qw24a : u25 = N + 1 := (by have t_n2 := n2; have t_c10 := neI c10; have t_c20 := neI c20; have : (0 : Int32).toInt = 0 := (by decide); have t_n0 : (nI F).toInt = (F : Int) := nI_toInt (by omega); have t_n1 : (nI P).toInt = (P : Int) := nI_toInt (by omega); have t_n2 : (nI T).toInt = (T : Int) := nI_toInt (by omega); have t_n3 : (nI N).toInt = (N : Int) := nI_toInt (by omega); have t_n4 : (nI B).toInt = (B : Int) := nI_toInt (by omega); have t_n5 : (nI D).toInt = (D : Int) := nI_toInt (by omega); have h9 := w24.1; rw [if_pos (by omega)] at h9; exact h9)
        have qw24b0 : u26 = upd g1 N (valN f T u8 (u9 - u8)) := (by have t_n2 := n2; have t_c10 := neI c10; have t_c20 := neI c20; have : (0 : Int32).toInt = 0 := (by decide); have t_n0 : (nI F).toInt = (F : Int) := nI_toInt (by omega); have t_n1 : (nI P).toInt = (P : Int) := nI_toInt (by omega); have t_n2 : (nI T).toInt = (T : Int) := nI_toInt (by omega); have t_n3 : (nI N).toInt = (N : Int) := nI_toInt (by omega); have t_n4 : (nI B).toInt = (B : Int) := nI_toInt (by omega); have t_n5 : (nI D).toInt = (D : Int) := nI_toInt (by omega); have h9 := w24.2.1; rw [if_pos (by omega)] at h9; exact h9)
        have qw24b1 : u27 = upd g2 N (valN f T u18 (u19 - u18)) := (by have t_n2 := n2; have t_c10 := neI c10; have t_c20 := neI c20; have : (0 : Int32).toInt = 0 := (by decide); have t_n0 : (nI F).toInt = (F : Int) := nI_toInt (by omega); have t_n1 : (nI P).toInt = (P : Int) := nI_toInt (by omega); have t_n2 : (nI T).toInt = (T : Int) := nI_toInt (by omega); have t_n3 : (nI N).toInt = (N : Int) := nI_toInt (by omega); have t_n4 : (nI B).toInt = (B : Int) := nI_toInt (by omega); have t_n5 : (nI D).toInt = (D : Int) := nI_toInt (by omega); have h9 := w24.2.2; rw [if_pos (by omega)] at h9; exact h9)
        refine lv_aload_n hx hb dX5_readStretch_63 rfl (lv_at hl 1 rfl) ?_
        have hPc := hP.sub (ws' := [(h0, .inr (5, [.ref tp, .ref td, .int u15, .int u16, .int x2, .int u17, .int (nI u18), .int (nI u19), .int x6, .int x7, .int x8, .int x9])), (tp, .inr (7, [.int (nI T), .ref ta])), (ta, .inl (G 0, 320, .inl f))]) [0, 1, 2] rfl
        have hDc := hD.sub (ws' := [(h0, .inr (5, [.ref tp, .ref td, .int u15, .int u16, .int x2, .int u17, .int (nI u18), .int (nI u19), .int x6, .int x7, .int x8, .int x9])), (tp, .inr (7, [.int (nI T), .ref ta])), (ta, .inl (G 0, 320, .inl f))]) [0, 1, 2] (by decide) rfl
        have hFc := va_free (wc := [(h0, .inr (5, [.ref tp, .ref td, .int u15, .int u16, .int x2, .int u17, .int (nI u18), .int (nI u19), .int x6, .int x7, .int x8, .int x9])), (tp, .inr (7, [.int (nI T), .ref ta])), (ta, .inl (G 0, 320, .inl f))]) hD hS hA [0, 1, 2] rfl
        refine va_calli (va_runV (As := []) (rest := []) ⟨hx, hb, hml, hown, hg⟩ (c_X5_nextStopE l dC dI G _ h0 tp td ta T u19 u15 u16 x2 u17 x6 x7 x8 x9 (nI u18) f (by have t_n2 := n2; have t_c10 := neI c10; have t_c20 := neI c20; have : (0 : Int32).toInt = 0 := (by decide); have t_n0 : (nI F).toInt = (F : Int) := nI_toInt (by omega); have t_n1 : (nI P).toInt = (P : Int) := nI_toInt (by omega); have t_n2 : (nI T).toInt = (T : Int) := nI_toInt (by omega); have t_n3 : (nI N).toInt = (N : Int) := nI_toInt (by omega); have t_n4 : (nI B).toInt = (B : Int) := nI_toInt (by omega); have t_n5 : (nI D).toInt = (D : Int) := nI_toInt (by omega); omega) (by have t_n2 := n2; have t_c10 := neI c10; have t_c20 := neI c20; have : (0 : Int32).toInt = 0 := (by decide); have t_n0 : (nI F).toInt = (F : Int) := nI_toInt (by omega); have t_n1 : (nI P).toInt = (P : Int) := nI_toInt (by omega); have t_n2 : (nI T).toInt = (T : Int) := nI_toInt (by omega); have t_n3 : (nI N).toInt = (N : Int) := nI_toInt (by omega); have t_n4 : (nI B).toInt = (B : Int) := nI_toInt (by omega); have t_n5 : (nI D).toInt = (D : Int) := nI_toInt (by omega); omega)) (kwV hg mfX5_nextStop wt_463 ⟨Nat.le_of_ble_eq_true rfl, Nat.le_of_ble_eq_true rfl⟩) (preVW hK hPc hDc (ci := 5) rfl rfl) rfl rfl hl.1 rfl (lv_room (Nat.le_of_ble_eq_true rfl)) dX5_readStretch_64 ⟨Nat.le_of_ble_eq_true rfl, Nat.le_of_ble_eq_true rfl⟩) hS (fun q _ h => hFc q h) hFc (fun r28 ur28 t H1 locs ht hvm w29 hB hz1 hk1 hS => ?_)
        obtain ⟨u30, u31, u32, u33, u34⟩ := ur28
        obtain ⟨hP1, hD1⟩ := hB
        rw [ht] at hP1
        obtain ⟨hP, hD⟩ := va_join (wr := [(td, .inr (9, [.int (nI u25), .int (nI B), .int (nI D), .ref a1, .ref a2, .ref a3, .ref a4, .ref a5, .ref a6])), (a1, .inl (G 0, 10, .inl u26)), (a2, .inl (G 0, 10, .inl u27))]) (w1 := [(h0, .inr (5, [.ref tp, .ref td, .int u30, .int u31, .int x2, .int u32, .int (nI u33), .int (nI u34), .int x6, .int x7, .int x8, .int x9])), (tp, .inr (7, [.int (nI T), .ref ta])), (ta, .inl (G 0, 320, .inl f))]) hP hD [0, 1, 2] [3, 4, 5] rfl rfl (by decide) (by decide) hk1 hFc hP1 hD1
        generalize H1 = H at hP hS ⊢
        have hP : va_P (dC, dI) vwCl [(td, .inr (9, [.int (nI u25), .int (nI B), .int (nI D), .ref a1, .ref a2, .ref a3, .ref a4, .ref a5, .ref a6])), (a1, .inl (G 0, 10, .inl u26)), (a2, .inl (G 0, 10, .inl u27)), (h0, .inr (5, [.ref tp, .ref td, .int u30, .int u31, .int x2, .int u32, .int (nI u33), .int (nI u34), .int x6, .int x7, .int x8, .int x9])), (tp, .inr (7, [.int (nI T), .ref ta])), (ta, .inl (G 0, 320, .inl f))] H := hP
        have hD : va_D A [(td, .inr (9, [.int (nI u25), .int (nI B), .int (nI D), .ref a1, .ref a2, .ref a3, .ref a4, .ref a5, .ref a6])), (a1, .inl (G 0, 10, .inl u26)), (a2, .inl (G 0, 10, .inl u27)), (h0, .inr (5, [.ref tp, .ref td, .int u30, .int u31, .int x2, .int u32, .int (nI u33), .int (nI u34), .int x6, .int x7, .int x8, .int x9])), (tp, .inr (7, [.int (nI T), .ref ta])), (ta, .inl (G 0, 320, .inl f))] := hD
        obtain ⟨w29, w29x⟩ := w29
        have vw29 : (tNS f T (u15, u16, u17, u18, u19)).1 = r28 := w29.2.symm
        have ew29 : (tNS f T (u15, u16, u17, u18, u19)).2 = (u30, u31, u32, u33, u34) := w29x.2.2.symm
        have hpost : ((r28 : Int32) = 0 ∨ (r28 : Int32) = 1) ∧ (r28 : Int32) = (cSR f T (x0, x1, x3, F, P) N g1 g2).1 := by
          have t_n2 := n2
          have t_c10 := neI c10
          have t_c20 := neI c20
          have : (0 : Int32).toInt = 0 := (by decide)
          have t_n0 : (nI F).toInt = (F : Int) := nI_toInt (by omega)
          have t_n1 : (nI P).toInt = (P : Int) := nI_toInt (by omega)
          have t_n2 : (nI T).toInt = (T : Int) := nI_toInt (by omega)
          have t_n3 : (nI N).toInt = (N : Int) := nI_toInt (by omega)
          have t_n4 : (nI B).toInt = (B : Int) := nI_toInt (by omega)
          have t_n5 : (nI D).toInt = (D : Int) := nI_toInt (by omega)
          have z0 : (0 : Int32).toInt = 0 := (by decide)
          have z1 : (1 : Int32).toInt = 1 := (by decide)
          have z2 : (2 : Int32).toInt = 2 := (by decide)
          have z3 : (3 : Int32).toInt = 3 := (by decide)
          have z5 : (5 : Int32).toInt = 5 := (by decide)
          have z9 : (9 : Int32).toInt = 9 := (by decide)
          refine ⟨w29.1, ?_⟩
          unfold cSR
          (try rw [vw4])
          (try rw [ew4])
          (try rw [vw14])
          (try rw [ew14])
          (try rw [qw24a])
          (try rw [qw24b0])
          (try rw [qw24b1])
          (try rw [vw29])
          (try rw [ew29])
          (try (repeat (first | rw [if_pos (by assumption)] | rw [if_neg (by assumption)] | rw [if_pos (by omega)] | rw [if_neg (by omega)] | rw [if_pos (by decide)] | rw [if_neg (by decide)])))
          all_goals rfl
        have hP9 := hP.sub (ws' := [(h0, .inr (5, [.ref tp, .ref td, .int u30, .int u31, .int x2, .int u32, .int (nI u33), .int (nI u34), .int x6, .int x7, .int x8, .int x9])), (tp, .inr (7, [.int (nI T), .ref ta])), (ta, .inl (G 0, 320, .inl f)), (td, .inr (9, [.int (nI u25), .int (nI B), .int (nI D), .ref a1, .ref a2, .ref a3, .ref a4, .ref a5, .ref a6])), (a1, .inl (G 0, 10, .inl u26)), (a2, .inl (G 0, 10, .inl u27))]) [3, 4, 5, 0, 1, 2] rfl
        have hD9 := hD.sub (ws' := [(h0, .inr (5, [.ref tp, .ref td, .int u30, .int u31, .int x2, .int u32, .int (nI u33), .int (nI u34), .int x6, .int x7, .int x8, .int x9])), (tp, .inr (7, [.int (nI T), .ref ta])), (ta, .inl (G 0, 320, .inl f)), (td, .inr (9, [.int (nI u25), .int (nI B), .int (nI D), .ref a1, .ref a2, .ref a3, .ref a4, .ref a5, .ref a6])), (a1, .inl (G 0, 10, .inl u26)), (a2, .inl (G 0, 10, .inl u27))]) [3, 4, 5, 0, 1, 2] (by decide) rfl
        refine W.widen (k := 0) (n := 0) (by omega) (by omega) ?_
        exact W.zret (v := r28) hx hb hr (by first | rfl | decide | exact zn01 w29.1) (fun t ht hW => ⟨⟨r28, (u30, u31, u32, u33, u34, u25, u26, u27), rfl, ⟨hpost, (by have t_n2 := n2; have t_c10 := neI c10; have t_c20 := neI c20; have : (0 : Int32).toInt = 0 := (by decide); have t_n0 : (nI F).toInt = (F : Int) := nI_toInt (by omega); have t_n1 : (nI P).toInt = (P : Int) := nI_toInt (by omega); have t_n2 : (nI T).toInt = (T : Int) := nI_toInt (by omega); have t_n3 : (nI N).toInt = (N : Int) := nI_toInt (by omega); have t_n4 : (nI B).toInt = (B : Int) := nI_toInt (by omega); have t_n5 : (nI D).toInt = (D : Int) := nI_toInt (by omega); have z0 : (0 : Int32).toInt = 0 := (by decide); have z1 : (1 : Int32).toInt = 1 := (by decide); have z2 : (2 : Int32).toInt = 2 := (by decide); have z3 : (3 : Int32).toInt = 3 := (by decide); have z5 : (5 : Int32).toInt = 5 := (by decide); have z9 : (9 : Int32).toInt = 9 := (by decide); refine ⟨by omega, by omega, by omega, ?_⟩; unfold cSR; (try rw [vw4]); (try rw [ew4]); (try rw [vw14]); (try rw [ew14]); (try rw [qw24a]); (try rw [qw24b0]); (try rw [qw24b1]); (try rw [vw29]); (try rw [ew29]); (try (repeat (first | rw [if_pos (by assumption)] | rw [if_neg (by assumption)] | rw [if_pos (by omega)] | rw [if_neg (by omega)] | rw [if_pos (by decide)] | rw [if_neg (by decide)]))); all_goals rfl; skip)⟩, ⟨by rw [ht]; exact hP9, hD9⟩⟩, hS.F ht⟩) hS.2.2 dX5_readStretch_67
      · skip
        refine lv_iconst (v := 0) hx hb dX5_readStretch_49 (by decide) ?_
        have hpost : ((0 : Int32) = 0 ∨ (0 : Int32) = 1) ∧ (0 : Int32) = (cSR f T (x0, x1, x3, F, P) N g1 g2).1 := by
          have t_n2 := n2
          have t_c10 := neI c10
          have t_c20 := eqI c20
          have : (0 : Int32).toInt = 0 := (by decide)
          have t_n0 : (nI F).toInt = (F : Int) := nI_toInt (by omega)
          have t_n1 : (nI P).toInt = (P : Int) := nI_toInt (by omega)
          have t_n2 : (nI T).toInt = (T : Int) := nI_toInt (by omega)
          have t_n3 : (nI N).toInt = (N : Int) := nI_toInt (by omega)
          have t_n4 : (nI B).toInt = (B : Int) := nI_toInt (by omega)
          have t_n5 : (nI D).toInt = (D : Int) := nI_toInt (by omega)
          have z0 : (0 : Int32).toInt = 0 := (by decide)
          have z1 : (1 : Int32).toInt = 1 := (by decide)
          have z2 : (2 : Int32).toInt = 2 := (by decide)
          have z3 : (3 : Int32).toInt = 3 := (by decide)
          have z5 : (5 : Int32).toInt = 5 := (by decide)
          have z9 : (9 : Int32).toInt = 9 := (by decide)
          refine ⟨Or.inl rfl, ?_⟩
          unfold cSR
          (try rw [vw4])
          (try rw [ew4])
          (try rw [vw14])
          (try rw [ew14])
          (try (repeat (first | rw [if_pos (by assumption)] | rw [if_neg (by assumption)] | rw [if_pos (by omega)] | rw [if_neg (by omega)] | rw [if_pos (by decide)] | rw [if_neg (by decide)])))
          all_goals rfl
        have hP9 := hP.sub (ws' := [(h0, .inr (5, [.ref tp, .ref td, .int u15, .int u16, .int x2, .int u17, .int (nI u18), .int (nI u19), .int x6, .int x7, .int x8, .int x9])), (tp, .inr (7, [.int (nI T), .ref ta])), (ta, .inl (G 0, 320, .inl f)), (td, .inr (9, [.int (nI N), .int (nI B), .int (nI D), .ref a1, .ref a2, .ref a3, .ref a4, .ref a5, .ref a6])), (a1, .inl (G 0, 10, .inl g1)), (a2, .inl (G 0, 10, .inl g2))]) [3, 4, 5, 0, 1, 2] rfl
        have hD9 := hD.sub (ws' := [(h0, .inr (5, [.ref tp, .ref td, .int u15, .int u16, .int x2, .int u17, .int (nI u18), .int (nI u19), .int x6, .int x7, .int x8, .int x9])), (tp, .inr (7, [.int (nI T), .ref ta])), (ta, .inl (G 0, 320, .inl f)), (td, .inr (9, [.int (nI N), .int (nI B), .int (nI D), .ref a1, .ref a2, .ref a3, .ref a4, .ref a5, .ref a6])), (a1, .inl (G 0, 10, .inl g1)), (a2, .inl (G 0, 10, .inl g2))]) [3, 4, 5, 0, 1, 2] (by decide) rfl
        refine W.widen (k := 0) (n := 0) (by omega) (by omega) ?_
        exact W.zret (v := 0) hx hb hr (by first | rfl | decide | exact rfl) (fun t ht hW => ⟨⟨0, (u15, u16, u17, u18, u19, N, g1, g2), rfl, ⟨hpost, (by have t_n2 := n2; have t_c10 := neI c10; have t_c20 := eqI c20; have : (0 : Int32).toInt = 0 := (by decide); have t_n0 : (nI F).toInt = (F : Int) := nI_toInt (by omega); have t_n1 : (nI P).toInt = (P : Int) := nI_toInt (by omega); have t_n2 : (nI T).toInt = (T : Int) := nI_toInt (by omega); have t_n3 : (nI N).toInt = (N : Int) := nI_toInt (by omega); have t_n4 : (nI B).toInt = (B : Int) := nI_toInt (by omega); have t_n5 : (nI D).toInt = (D : Int) := nI_toInt (by omega); have z0 : (0 : Int32).toInt = 0 := (by decide); have z1 : (1 : Int32).toInt = 1 := (by decide); have z2 : (2 : Int32).toInt = 2 := (by decide); have z3 : (3 : Int32).toInt = 3 := (by decide); have z5 : (5 : Int32).toInt = 5 := (by decide); have z9 : (9 : Int32).toInt = 9 := (by decide); refine ⟨by omega, by omega, by omega, ?_⟩; unfold cSR; (try rw [vw4]); (try rw [ew4]); (try rw [vw14]); (try rw [ew14]); (try (repeat (first | rw [if_pos (by assumption)] | rw [if_neg (by assumption)] | rw [if_pos (by omega)] | rw [if_neg (by omega)] | rw [if_pos (by decide)] | rw [if_neg (by decide)]))); all_goals rfl; skip)⟩, ⟨by rw [ht]; exact hP9, hD9⟩⟩, hS.F ht⟩) hS.2.2 dX5_readStretch_50
    · skip
      refine lv_iconst (v := 0) hx hb dX5_readStretch_32 (by decide) ?_
      have hpost : ((0 : Int32) = 0 ∨ (0 : Int32) = 1) ∧ (0 : Int32) = (cSR f T (x0, x1, x3, F, P) N g1 g2).1 := by
        have t_n2 := n2
        have t_c10 := eqI c10
        have : (0 : Int32).toInt = 0 := (by decide)
        have t_n0 : (nI F).toInt = (F : Int) := nI_toInt (by omega)
        have t_n1 : (nI P).toInt = (P : Int) := nI_toInt (by omega)
        have t_n2 : (nI T).toInt = (T : Int) := nI_toInt (by omega)
        have t_n3 : (nI N).toInt = (N : Int) := nI_toInt (by omega)
        have t_n4 : (nI B).toInt = (B : Int) := nI_toInt (by omega)
        have t_n5 : (nI D).toInt = (D : Int) := nI_toInt (by omega)
        have z0 : (0 : Int32).toInt = 0 := (by decide)
        have z1 : (1 : Int32).toInt = 1 := (by decide)
        have z2 : (2 : Int32).toInt = 2 := (by decide)
        have z3 : (3 : Int32).toInt = 3 := (by decide)
        have z5 : (5 : Int32).toInt = 5 := (by decide)
        have z9 : (9 : Int32).toInt = 9 := (by decide)
        refine ⟨Or.inl rfl, ?_⟩
        unfold cSR
        (try rw [vw4])
        (try rw [ew4])
        (try (repeat (first | rw [if_pos (by assumption)] | rw [if_neg (by assumption)] | rw [if_pos (by omega)] | rw [if_neg (by omega)] | rw [if_pos (by decide)] | rw [if_neg (by decide)])))
        all_goals rfl
      have hP9 := hP.sub (ws' := [(h0, .inr (5, [.ref tp, .ref td, .int u5, .int u6, .int x2, .int u7, .int (nI u8), .int (nI u9), .int x6, .int x7, .int x8, .int x9])), (tp, .inr (7, [.int (nI T), .ref ta])), (ta, .inl (G 0, 320, .inl f)), (td, .inr (9, [.int (nI N), .int (nI B), .int (nI D), .ref a1, .ref a2, .ref a3, .ref a4, .ref a5, .ref a6])), (a1, .inl (G 0, 10, .inl g1)), (a2, .inl (G 0, 10, .inl g2))]) [3, 4, 5, 0, 1, 2] rfl
      have hD9 := hD.sub (ws' := [(h0, .inr (5, [.ref tp, .ref td, .int u5, .int u6, .int x2, .int u7, .int (nI u8), .int (nI u9), .int x6, .int x7, .int x8, .int x9])), (tp, .inr (7, [.int (nI T), .ref ta])), (ta, .inl (G 0, 320, .inl f)), (td, .inr (9, [.int (nI N), .int (nI B), .int (nI D), .ref a1, .ref a2, .ref a3, .ref a4, .ref a5, .ref a6])), (a1, .inl (G 0, 10, .inl g1)), (a2, .inl (G 0, 10, .inl g2))]) [3, 4, 5, 0, 1, 2] (by decide) rfl
      refine W.widen (k := 0) (n := 0) (by omega) (by omega) ?_
      exact W.zret (v := 0) hx hb hr (by first | rfl | decide | exact rfl) (fun t ht hW => ⟨⟨0, (u5, u6, u7, u8, u9, N, g1, g2), rfl, ⟨hpost, (by have t_n2 := n2; have t_c10 := eqI c10; have : (0 : Int32).toInt = 0 := (by decide); have t_n0 : (nI F).toInt = (F : Int) := nI_toInt (by omega); have t_n1 : (nI P).toInt = (P : Int) := nI_toInt (by omega); have t_n2 : (nI T).toInt = (T : Int) := nI_toInt (by omega); have t_n3 : (nI N).toInt = (N : Int) := nI_toInt (by omega); have t_n4 : (nI B).toInt = (B : Int) := nI_toInt (by omega); have t_n5 : (nI D).toInt = (D : Int) := nI_toInt (by omega); have z0 : (0 : Int32).toInt = 0 := (by decide); have z1 : (1 : Int32).toInt = 1 := (by decide); have z2 : (2 : Int32).toInt = 2 := (by decide); have z3 : (3 : Int32).toInt = 3 := (by decide); have z5 : (5 : Int32).toInt = 5 := (by decide); have z9 : (9 : Int32).toInt = 9 := (by decide); refine ⟨by omega, by omega, by omega, ?_⟩; unfold cSR; (try rw [vw4]); (try rw [ew4]); (try (repeat (first | rw [if_pos (by assumption)] | rw [if_neg (by assumption)] | rw [if_pos (by omega)] | rw [if_neg (by omega)] | rw [if_pos (by decide)] | rw [if_neg (by decide)]))); all_goals rfl; skip)⟩, ⟨by rw [ht]; exact hP9, hD9⟩⟩, hS.F ht⟩) hS.2.2 dX5_readStretch_33
  · skip
    have n35 : 10 ≤ N := by have t := nltI c1; rw [nI_toInt (n := N) (by omega)] at t; have : (10 : Int32).toInt = 10 := (by decide); omega
    refine lv_aload_n hx hb dX5_readStretch_12 rfl (lv_at hl 0 rfl) ?_
    refine lv_iconst (v := 5) hx hb dX5_readStretch_13 (by decide) ?_
    refine lv_aload_n hx hb dX5_readStretch_14 rfl (lv_at hl 0 rfl) ?_
    refine va_get (D := (dC, dI)) (ci := 5) (v := .int (nI F)) (C := RX5) (T := TX5) (N := 12) hx hb hg inG5 hown hK.1 hP 0 rfl rfl 6 (by decide) (hg _ wt_116) (fun _ h9 => h9) rfl dX5_readStretch_15 ?_
    have hPc := hP.sub (ws' := [(h0, .inr (5, [.ref tp, .ref td, .int x0, .int x1, .int x2, .int x3, .int (nI F), .int (nI P), .int x6, .int x7, .int x8, .int x9]))]) [0] rfl
    have hDc := hD.sub (ws' := [(h0, .inr (5, [.ref tp, .ref td, .int x0, .int x1, .int x2, .int x3, .int (nI F), .int (nI P), .int x6, .int x7, .int x8, .int x9]))]) [0] (by decide) rfl
    have hFc := va_free (wc := [(h0, .inr (5, [.ref tp, .ref td, .int x0, .int x1, .int x2, .int x3, .int (nI F), .int (nI P), .int x6, .int x7, .int x8, .int x9]))]) hD hS hA [0] rfl
    refine va_calli (va_runV (As := [.int 5, .int (nI F)]) (rest := []) ⟨hx, hb, hml, hown, hg⟩ (c_X5_refuseE l dC dI G _ h0 tp td x0 x1 x2 x3 (nI F) (nI P) x6 x7 x8 x9 5 (nI F) ) (kwV hg mfX5_refuse wt_386 ⟨Nat.le_of_ble_eq_true rfl, Nat.le_of_ble_eq_true rfl⟩) (preVW hK hPc hDc (ci := 5) rfl rfl) rfl rfl hl.1 rfl (lv_room (Nat.le_of_ble_eq_true rfl)) dX5_readStretch_18 ⟨Nat.le_of_ble_eq_true rfl, Nat.le_of_ble_eq_true rfl⟩) hS (fun q _ h => hFc q h) hFc (fun r36 ur36 t H1 locs ht hvm w37 hB hz1 hk1 hS => ?_)
    obtain ⟨u38, u39⟩ := ur36
    obtain ⟨hP1, hD1⟩ := hB
    rw [ht] at hP1
    obtain ⟨hP, hD⟩ := va_join (wr := [(tp, .inr (7, [.int (nI T), .ref ta])), (ta, .inl (G 0, 320, .inl f)), (td, .inr (9, [.int (nI N), .int (nI B), .int (nI D), .ref a1, .ref a2, .ref a3, .ref a4, .ref a5, .ref a6])), (a1, .inl (G 0, 10, .inl g1)), (a2, .inl (G 0, 10, .inl g2))]) (w1 := [(h0, .inr (5, [.ref tp, .ref td, .int u38, .int u39, .int x2, .int x3, .int (nI F), .int (nI P), .int x6, .int x7, .int x8, .int x9]))]) hP hD [0] [1, 2, 3, 4, 5] rfl rfl (by decide) (by decide) hk1 hFc hP1 hD1
    generalize H1 = H at hP hS ⊢
    have hP : va_P (dC, dI) vwCl [(tp, .inr (7, [.int (nI T), .ref ta])), (ta, .inl (G 0, 320, .inl f)), (td, .inr (9, [.int (nI N), .int (nI B), .int (nI D), .ref a1, .ref a2, .ref a3, .ref a4, .ref a5, .ref a6])), (a1, .inl (G 0, 10, .inl g1)), (a2, .inl (G 0, 10, .inl g2)), (h0, .inr (5, [.ref tp, .ref td, .int u38, .int u39, .int x2, .int x3, .int (nI F), .int (nI P), .int x6, .int x7, .int x8, .int x9]))] H := hP
    have hD : va_D A [(tp, .inr (7, [.int (nI T), .ref ta])), (ta, .inl (G 0, 320, .inl f)), (td, .inr (9, [.int (nI N), .int (nI B), .int (nI D), .ref a1, .ref a2, .ref a3, .ref a4, .ref a5, .ref a6])), (a1, .inl (G 0, 10, .inl g1)), (a2, .inl (G 0, 10, .inl g2)), (h0, .inr (5, [.ref tp, .ref td, .int u38, .int u39, .int x2, .int x3, .int (nI F), .int (nI P), .int x6, .int x7, .int x8, .int x9]))] := hD
    obtain ⟨w37, w37x⟩ := w37
    subst w37
    have ew37 : cRF 5 (x0, x1, x3, F, P) = (u38, u39, x3, F, P) := (by show (flB _ _, flP _ _ _, _, _, _) = _; rw [← w37x.1, ← w37x.2])
    have hpost : ((0 : Int32) = 0 ∨ (0 : Int32) = 1) ∧ (0 : Int32) = (cSR f T (x0, x1, x3, F, P) N g1 g2).1 := by
      have t_n35 := n35
      have t_n0 : (nI F).toInt = (F : Int) := nI_toInt (by omega)
      have t_n1 : (nI P).toInt = (P : Int) := nI_toInt (by omega)
      have t_n2 : (nI T).toInt = (T : Int) := nI_toInt (by omega)
      have t_n3 : (nI N).toInt = (N : Int) := nI_toInt (by omega)
      have t_n4 : (nI B).toInt = (B : Int) := nI_toInt (by omega)
      have t_n5 : (nI D).toInt = (D : Int) := nI_toInt (by omega)
      have z0 : (0 : Int32).toInt = 0 := (by decide)
      have z1 : (1 : Int32).toInt = 1 := (by decide)
      have z2 : (2 : Int32).toInt = 2 := (by decide)
      have z3 : (3 : Int32).toInt = 3 := (by decide)
      have z5 : (5 : Int32).toInt = 5 := (by decide)
      have z9 : (9 : Int32).toInt = 9 := (by decide)
      refine ⟨Or.inl rfl, ?_⟩
      unfold cSR
      (try rw [ew37])
      (try (repeat (first | rw [if_pos (by assumption)] | rw [if_neg (by assumption)] | rw [if_pos (by omega)] | rw [if_neg (by omega)] | rw [if_pos (by decide)] | rw [if_neg (by decide)])))
      all_goals rfl
    have hP9 := hP.sub (ws' := [(h0, .inr (5, [.ref tp, .ref td, .int u38, .int u39, .int x2, .int x3, .int (nI F), .int (nI P), .int x6, .int x7, .int x8, .int x9])), (tp, .inr (7, [.int (nI T), .ref ta])), (ta, .inl (G 0, 320, .inl f)), (td, .inr (9, [.int (nI N), .int (nI B), .int (nI D), .ref a1, .ref a2, .ref a3, .ref a4, .ref a5, .ref a6])), (a1, .inl (G 0, 10, .inl g1)), (a2, .inl (G 0, 10, .inl g2))]) [5, 0, 1, 2, 3, 4] rfl
    have hD9 := hD.sub (ws' := [(h0, .inr (5, [.ref tp, .ref td, .int u38, .int u39, .int x2, .int x3, .int (nI F), .int (nI P), .int x6, .int x7, .int x8, .int x9])), (tp, .inr (7, [.int (nI T), .ref ta])), (ta, .inl (G 0, 320, .inl f)), (td, .inr (9, [.int (nI N), .int (nI B), .int (nI D), .ref a1, .ref a2, .ref a3, .ref a4, .ref a5, .ref a6])), (a1, .inl (G 0, 10, .inl g1)), (a2, .inl (G 0, 10, .inl g2))]) [5, 0, 1, 2, 3, 4] (by decide) rfl
    refine W.widen (k := 0) (n := 0) (by omega) (by omega) ?_
    exact W.zret (v := 0) hx hb hr (by first | rfl | decide | exact rfl) (fun t ht hW => ⟨⟨0, (u38, u39, x3, F, P, N, g1, g2), rfl, ⟨hpost, (by have t_n35 := n35; have t_n0 : (nI F).toInt = (F : Int) := nI_toInt (by omega); have t_n1 : (nI P).toInt = (P : Int) := nI_toInt (by omega); have t_n2 : (nI T).toInt = (T : Int) := nI_toInt (by omega); have t_n3 : (nI N).toInt = (N : Int) := nI_toInt (by omega); have t_n4 : (nI B).toInt = (B : Int) := nI_toInt (by omega); have t_n5 : (nI D).toInt = (D : Int) := nI_toInt (by omega); have z0 : (0 : Int32).toInt = 0 := (by decide); have z1 : (1 : Int32).toInt = 1 := (by decide); have z2 : (2 : Int32).toInt = 2 := (by decide); have z3 : (3 : Int32).toInt = 3 := (by decide); have z5 : (5 : Int32).toInt = 5 := (by decide); have z9 : (9 : Int32).toInt = 9 := (by decide); refine ⟨by omega, by omega, by omega, ?_⟩; unfold cSR; (try rw [ew37]); (try (repeat (first | rw [if_pos (by assumption)] | rw [if_neg (by assumption)] | rw [if_pos (by omega)] | rw [if_neg (by omega)] | rw [if_pos (by decide)] | rw [if_neg (by decide)]))); all_goals rfl; skip)⟩, ⟨by rw [ht]; exact hP9, hD9⟩⟩, hS.F ht⟩) hS.2.2 dX5_readStretch_21
