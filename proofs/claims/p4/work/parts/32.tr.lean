set_option maxHeartbeats 1000000 in
set_option maxRecDepth 100000 in
theorem c_X9_clearE (l : Launch) (dC : Nat → ClassId) (dI : Nat → Nat → Nat) (G : Nat → ClassId) (sz : Nat) (h0 a1 a2 a3 a4 a5 a6 : Nat) (x1 x2 x3 : Int32) (f3 : Nat → Int32)  : Met l yX9_clear (Cond.code yX9_clear cX9_clear 2 none :: GT) ({ frames := 0, cells := 0, slots := 0, locals := 0 } : Room) (PcW [.ref h0] dC dI G [(h0, .inr (9, [.int x1, .int x2, .int x3, .ref a1, .ref a2, .ref a3, .ref a4, .ref a5, .ref a6])), (a3, .inl (G 0, 10, .inl f3))] sz) (va_Qv (fun (u : (Nat → Int32)) => match u with | u0 => u0 = zpF 10 f3) (fun (u : (Nat → Int32)) (t : State) => match u with | u0 => va_P (dC, dI) vwCl [(h0, .inr (9, [.int 0, .int 0, .int 5, .ref a1, .ref a2, .ref a3, .ref a4, .ref a5, .ref a6])), (a3, .inl (G 0, 10, .inl u0))] t.heap ∧ va_D (va_A [(h0, .inr (9, [.int x1, .int x2, .int x3, .ref a1, .ref a2, .ref a3, .ref a4, .ref a5, .ref a6])), (a3, .inl (G 0, 10, .inl f3))] sz) [(h0, .inr (9, [.int 0, .int 0, .int 5, .ref a1, .ref a2, .ref a3, .ref a4, .ref a5, .ref a6])), (a3, .inl (G 0, 10, .inl u0))]) (va_A [(h0, .inr (9, [.int x1, .int x2, .int x3, .ref a1, .ref a2, .ref a3, .ref a4, .ref a5, .ref a6])), (a3, .inl (G 0, 10, .inl f3))] sz)) 0 0 (va_A [(h0, .inr (9, [.int x1, .int x2, .int x3, .ref a1, .ref a2, .ref a3, .ref a4, .ref a5, .ref a6])), (a3, .inl (G 0, 10, .inl f3))] sz) := by
  refine Met.ofW (cc := cX9_clear) (maxL := 2) (ret := none) (by decide) rfl ?_
  intro p e s m args below meth c s₁ Bd hml hv
  obtain ⟨rfl, hsz, hP, hK, hD0⟩ := hv
  have hx := Bd.exec
  have hb := Bd.bytes
  have hr := Bd.returns
  have hg : ∀ w ∈ GT, w.before ([.ref h0] : List Value).toArray s = true := fun w h => atoms_spec (ws := Cond.code yX9_clear cX9_clear 2 none :: GT) Bd.pre w (List.mem_cons_of_mem _ h)
  have hown : s.vm.findClass RX9 = some m.cls := findClass_of_methodNamed Bd.named
  have hlocks := Bd.notSynchronized
  subst hsz
  have hD := hD0.self (sz := s.heap.size)
  generalize hAe : va_A [(h0, .inr (9, [.int x1, .int x2, .int x3, .ref a1, .ref a2, .ref a3, .ref a4, .ref a5, .ref a6])), (a3, .inl (G 0, 10, .inl f3))] s.heap.size = A at hD ⊢
  have hA : ∀ q : Nat, s.heap.size ≤ q → A q := fun q h => by rw [← hAe]; exact Or.inr h
  have hS : va_S A s.heap s.heap [] := va_S.rf
  have hl := lv_entry ([.ref h0]) (n := 2) (Nat.le_of_ble_eq_true rfl)
  rw [lg_entry_eq]
  generalize (lg_sl ([.ref h0]) ++ List.replicate (2 - (lg_sl ([.ref h0])).length) Slot.unset).toArray = ls at hl ⊢
  have hl : lv_has ls 2 [(0, .ref h0)] := hl
  refine lv_aload_n hx hb dX9_clear_0 rfl (lv_at hl 0 rfl) ?_
  refine lv_iconst (v := 0) hx hb dX9_clear_1 (by decide) ?_
  refine va_put (D := (dC, dI)) (ci := 9) (v := .int 0) (ty := .int) (C := RX9) (T := TX9) (N := 9) hx hb hg inG9 tyX9 tyX9_ok nmX9 hown hK.1 hP hD hS 0 rfl rfl 0 (by decide) (hg _ wt_56) (fun _ h9 => h9) rfl (by decide +kernel) rfl rfl (Nat.le_of_ble_eq_true rfl) dX9_clear_2 (fun H locs hP hD hS => ?_)
  have hP : va_P (dC, dI) vwCl [(h0, .inr (9, [.int 0, .int x2, .int x3, .ref a1, .ref a2, .ref a3, .ref a4, .ref a5, .ref a6])), (a3, .inl (G 0, 10, .inl f3))] H := hP
  have hD : va_D A [(h0, .inr (9, [.int 0, .int x2, .int x3, .ref a1, .ref a2, .ref a3, .ref a4, .ref a5, .ref a6])), (a3, .inl (G 0, 10, .inl f3))] := hD
  refine lv_aload_n hx hb dX9_clear_5 rfl (lv_at hl 0 rfl) ?_
  refine lv_iconst (v := 0) hx hb dX9_clear_6 (by decide) ?_
  refine va_put (D := (dC, dI)) (ci := 9) (v := .int 0) (ty := .int) (C := RX9) (T := TX9) (N := 9) hx hb hg inG9 tyX9 tyX9_ok nmX9 hown hK.1 hP hD hS 0 rfl rfl 1 (by decide) (hg _ wt_62) (fun _ h9 => h9) rfl (by decide +kernel) rfl rfl (Nat.le_of_ble_eq_true rfl) dX9_clear_7 (fun H locs hP hD hS => ?_)
  have hP : va_P (dC, dI) vwCl [(h0, .inr (9, [.int 0, .int 0, .int x3, .ref a1, .ref a2, .ref a3, .ref a4, .ref a5, .ref a6])), (a3, .inl (G 0, 10, .inl f3))] H := hP
  have hD : va_D A [(h0, .inr (9, [.int 0, .int 0, .int x3, .ref a1, .ref a2, .ref a3, .ref a4, .ref a5, .ref a6])), (a3, .inl (G 0, 10, .inl f3))] := hD
  refine lv_aload_n hx hb dX9_clear_10 rfl (lv_at hl 0 rfl) ?_
  refine lv_iconst (v := 5) hx hb dX9_clear_11 (by decide) ?_
  refine va_put (D := (dC, dI)) (ci := 9) (v := .int 5) (ty := .int) (C := RX9) (T := TX9) (N := 9) hx hb hg inG9 tyX9 tyX9_ok nmX9 hown hK.1 hP hD hS 0 rfl rfl 2 (by decide) (hg _ wt_66) (fun _ h9 => h9) rfl (by decide +kernel) rfl rfl (Nat.le_of_ble_eq_true rfl) dX9_clear_12 (fun H locs hP hD hS => ?_)
  have hP : va_P (dC, dI) vwCl [(h0, .inr (9, [.int 0, .int 0, .int 5, .ref a1, .ref a2, .ref a3, .ref a4, .ref a5, .ref a6])), (a3, .inl (G 0, 10, .inl f3))] H := hP
  have hD : va_D A [(h0, .inr (9, [.int 0, .int 0, .int 5, .ref a1, .ref a2, .ref a3, .ref a4, .ref a5, .ref a6])), (a3, .inl (G 0, 10, .inl f3))] := hD
  refine lv_iconst (v := 0) hx hb dX9_clear_15 (by decide) ?_
  refine lv_istore_n (lv' := [(1, .int 0), (0, .ref h0)]) hx hb dX9_clear_16 rfl hl (by decide) rfl (fun ls hl => ?_)
  have loop17_3 : ∀ (nf j1 : Nat), 10 + 1 ≤ j1 + nf → j1 ≤ 10 → ∀ (g2 : Nat → Int32) (H : Heap) (locs : List Loc), g2 = zpF j1 f3 → va_P (dC, dI) vwCl [(h0, .inr (9, [.int 0, .int 0, .int 5, .ref a1, .ref a2, .ref a3, .ref a4, .ref a5, .ref a6])), (a3, .inl (G 0, 10, .inl g2))] H → va_D A [(h0, .inr (9, [.int 0, .int 0, .int 5, .ref a1, .ref a2, .ref a3, .ref a4, .ref a5, .ref a6])), (a3, .inl (G 0, 10, .inl g2))] → va_S A s.heap H locs → ∀ (ls : Array Slot), lv_has ls 2 [(1, .int (nI j1)), (0, .ref h0)] → W p l e (headSpec (Cond.code yX9_clear cX9_clear 2 none :: GT) ({ frames := 0, cells := 0, slots := 0, locals := 0 } : Room)).room s m ([.ref h0] : List Value).toArray below meth c H locs 0 0 (MQ below (va_Qv (fun (u : (Nat → Int32)) => match u with | u0 => u0 = zpF 10 f3) (fun (u : (Nat → Int32)) (t : State) => match u with | u0 => va_P (dC, dI) vwCl [(h0, .inr (9, [.int 0, .int 0, .int 5, .ref a1, .ref a2, .ref a3, .ref a4, .ref a5, .ref a6])), (a3, .inl (G 0, 10, .inl u0))] t.heap ∧ va_D A [(h0, .inr (9, [.int 0, .int 0, .int 5, .ref a1, .ref a2, .ref a3, .ref a4, .ref a5, .ref a6])), (a3, .inl (G 0, 10, .inl u0))]) A) ([.ref h0] : List Value).toArray s 0 0 A) (F0 m 17 ls []) := by
    intro nf
    induction nf with
    | zero => intro j1 h1 h2; exact absurd h1 (by omega)
    | succ nf ih17_3 =>
      intro j1 hn4 hj5 g2 H locs hinv hP hD hS ls hl
      refine lv_iload_n hx hb dX9_clear_17 rfl (lv_at hl 0 rfl) ?_
      refine lv_bipush (v := 10) hx hb dX9_clear_18 (by decide) ?_
      refine lv_icmp_ge (tgt := 36) hx hb dX9_clear_20 (by decide) (fun c6 => ?_) (fun c6 => ?_)
      · skip
        have n7 : 10 ≤ j1 := by have t := leI c6; rw [nI_toInt (n := j1) (by omega)] at t; have : (10 : Int32).toInt = 10 := (by decide); omega
        have hP9 := hP.sub (ws' := [(h0, .inr (9, [.int 0, .int 0, .int 5, .ref a1, .ref a2, .ref a3, .ref a4, .ref a5, .ref a6])), (a3, .inl (G 0, 10, .inl g2))]) [0, 1] rfl
        have hD9 := hD.sub (ws' := [(h0, .inr (9, [.int 0, .int 0, .int 5, .ref a1, .ref a2, .ref a3, .ref a4, .ref a5, .ref a6])), (a3, .inl (G 0, 10, .inl g2))]) [0, 1] (by decide) rfl
        refine W.widen (k := 0) (n := 0) (by omega) (by omega) ?_
        exact W.vret hx hb hr (fun t ht hW => ⟨⟨g2, rfl, (by have t_hj5 := hj5; have t_n7 := n7; have t_n0 : (nI j1).toInt = (j1 : Int) := nI_toInt (by omega); rw [hinv, show j1 = 10 by omega]), ⟨by rw [ht]; exact hP9, hD9⟩⟩, hS.F ht⟩) hS.2.2 dX9_clear_36
      · skip
        have n8 : j1 < 10 := by have t := nleI c6; rw [nI_toInt (n := j1) (by omega)] at t; have : (10 : Int32).toInt = 10 := (by decide); omega
        refine lv_aload_n hx hb dX9_clear_23 rfl (lv_at hl 1 rfl) ?_
        refine va_get (D := (dC, dI)) (ci := 9) (v := .ref a3) (C := RX9) (T := TX9) (N := 9) hx hb hg inG9 hown hK.1 hP 0 rfl rfl 5 (by decide) (hg _ wt_77) (fun _ h9 => h9) rfl dX9_clear_24 ?_
        refine lv_iload_n hx hb dX9_clear_27 rfl (lv_at hl 0 rfl) ?_
        refine lv_iconst (v := 0) hx hb dX9_clear_28 (by decide) ?_
        refine va_iast hx hb hK.1 hP hD hS 1 0 rfl rfl (vp_in_nI (by have t_hj5 := hj5; have t_n8 := n8; have t_n0 : (nI j1).toInt = (j1 : Int) := nI_toInt (by omega); omega) (by decide)) dX9_clear_29 (fun H locs hP hD hS => ?_)
        rw [nI_clamp (by omega)] at hP hD
        have hP : va_P (dC, dI) vwCl [(h0, .inr (9, [.int 0, .int 0, .int 5, .ref a1, .ref a2, .ref a3, .ref a4, .ref a5, .ref a6])), (a3, .inl (G 0, 10, .inl (upd g2 j1 0)))] H := hP
        have hD : va_D A [(h0, .inr (9, [.int 0, .int 0, .int 5, .ref a1, .ref a2, .ref a3, .ref a4, .ref a5, .ref a6])), (a3, .inl (G 0, 10, .inl (upd g2 j1 0)))] := hD
        refine lv_iinc (v := nI (j1 + 1)) (lv' := [(1, .int (nI (j1 + 1))), (0, .ref h0)]) hx hb dX9_clear_30 hl (k := 0) rfl (by rw [show Int32.ofInt 1 = nI 1 from by decide]; exact nI_add _ _) (by decide) rfl (fun ls hl => ?_)
        refine lv_goto (tgt := 17) hx hb dX9_clear_33 (by decide) ?_
        exact ih17_3 (j1 + 1) (by omega) (by omega) (upd g2 j1 0) _ _ (by rw [hinv]; exact zpF_s) hP hD hS ls (lv_sub hl [0, 1] rfl)
  exact loop17_3 (10 + 1) 0 (by omega) (by omega) f3 _ _ zpF_0 hP hD hS ls (lv_sub hl [0, 1] rfl)

set_option maxHeartbeats 1000000 in
set_option maxRecDepth 100000 in
theorem c_X9_copyOfE (l : Launch) (dC : Nat → ClassId) (dI : Nat → Nat → Nat) (G : Nat → ClassId) (sz : Nat) (h0 o0 a1 a2 a3 a4 a5 a6 c1 c2 c3 c4 c5 c6 : Nat) (x1 x2 x3 y1 y2 y3 : Int32) (f1 f2 f3 f4 f5 f6 z1 z2 z3 z4 z5 z6 : Nat → Int32)  : Met l yX9_copyOf (Cond.code yX9_copyOf cX9_copyOf 2 none :: GT) ({ frames := 1, cells := 0, slots := 0, locals := 100 } : Room) (PcW [.ref h0, .ref o0] dC dI G [(h0, .inr (9, [.int x1, .int x2, .int x3, .ref a1, .ref a2, .ref a3, .ref a4, .ref a5, .ref a6])), (a1, .inl (G 0, 10, .inl f1)), (a2, .inl (G 0, 10, .inl f2)), (a3, .inl (G 0, 10, .inl f3)), (a4, .inl (G 0, 6, .inl f4)), (a5, .inl (G 0, 6, .inl f5)), (a6, .inl (G 0, 6, .inl f6)), (o0, .inr (9, [.int y1, .int y2, .int y3, .ref c1, .ref c2, .ref c3, .ref c4, .ref c5, .ref c6])), (c1, .inl (G 0, 10, .inl z1)), (c2, .inl (G 0, 10, .inl z2)), (c3, .inl (G 0, 10, .inl z3)), (c4, .inl (G 0, 6, .inl z4)), (c5, .inl (G 0, 6, .inl z5)), (c6, .inl (G 0, 6, .inl z6))] sz) (va_Qv (fun (u : (Nat → Int32) × (Nat → Int32) × (Nat → Int32) × (Nat → Int32) × (Nat → Int32) × (Nat → Int32)) => match u with | (u1, u2, u3, u4, u5, u6) => u1 = va_cpy z1 f1 0 0 10 ∧ u2 = va_cpy z2 f2 0 0 10 ∧ u3 = va_cpy z3 f3 0 0 10 ∧ u4 = va_cpy z4 f4 0 0 6 ∧ u5 = va_cpy z5 f5 0 0 6 ∧ u6 = va_cpy z6 f6 0 0 6) (fun (u : (Nat → Int32) × (Nat → Int32) × (Nat → Int32) × (Nat → Int32) × (Nat → Int32) × (Nat → Int32)) (t : State) => match u with | (u1, u2, u3, u4, u5, u6) => va_P (dC, dI) vwCl [(h0, .inr (9, [.int y1, .int y2, .int y3, .ref a1, .ref a2, .ref a3, .ref a4, .ref a5, .ref a6])), (a1, .inl (G 0, 10, .inl u1)), (a2, .inl (G 0, 10, .inl u2)), (a3, .inl (G 0, 10, .inl u3)), (a4, .inl (G 0, 6, .inl u4)), (a5, .inl (G 0, 6, .inl u5)), (a6, .inl (G 0, 6, .inl u6)), (o0, .inr (9, [.int y1, .int y2, .int y3, .ref c1, .ref c2, .ref c3, .ref c4, .ref c5, .ref c6])), (c1, .inl (G 0, 10, .inl z1)), (c2, .inl (G 0, 10, .inl z2)), (c3, .inl (G 0, 10, .inl z3)), (c4, .inl (G 0, 6, .inl z4)), (c5, .inl (G 0, 6, .inl z5)), (c6, .inl (G 0, 6, .inl z6))] t.heap ∧ va_D (va_A [(h0, .inr (9, [.int x1, .int x2, .int x3, .ref a1, .ref a2, .ref a3, .ref a4, .ref a5, .ref a6])), (a1, .inl (G 0, 10, .inl f1)), (a2, .inl (G 0, 10, .inl f2)), (a3, .inl (G 0, 10, .inl f3)), (a4, .inl (G 0, 6, .inl f4)), (a5, .inl (G 0, 6, .inl f5)), (a6, .inl (G 0, 6, .inl f6)), (o0, .inr (9, [.int y1, .int y2, .int y3, .ref c1, .ref c2, .ref c3, .ref c4, .ref c5, .ref c6])), (c1, .inl (G 0, 10, .inl z1)), (c2, .inl (G 0, 10, .inl z2)), (c3, .inl (G 0, 10, .inl z3)), (c4, .inl (G 0, 6, .inl z4)), (c5, .inl (G 0, 6, .inl z5)), (c6, .inl (G 0, 6, .inl z6))] sz) [(h0, .inr (9, [.int y1, .int y2, .int y3, .ref a1, .ref a2, .ref a3, .ref a4, .ref a5, .ref a6])), (a1, .inl (G 0, 10, .inl u1)), (a2, .inl (G 0, 10, .inl u2)), (a3, .inl (G 0, 10, .inl u3)), (a4, .inl (G 0, 6, .inl u4)), (a5, .inl (G 0, 6, .inl u5)), (a6, .inl (G 0, 6, .inl u6)), (o0, .inr (9, [.int y1, .int y2, .int y3, .ref c1, .ref c2, .ref c3, .ref c4, .ref c5, .ref c6])), (c1, .inl (G 0, 10, .inl z1)), (c2, .inl (G 0, 10, .inl z2)), (c3, .inl (G 0, 10, .inl z3)), (c4, .inl (G 0, 6, .inl z4)), (c5, .inl (G 0, 6, .inl z5)), (c6, .inl (G 0, 6, .inl z6))]) (va_A [(h0, .inr (9, [.int x1, .int x2, .int x3, .ref a1, .ref a2, .ref a3, .ref a4, .ref a5, .ref a6])), (a1, .inl (G 0, 10, .inl f1)), (a2, .inl (G 0, 10, .inl f2)), (a3, .inl (G 0, 10, .inl f3)), (a4, .inl (G 0, 6, .inl f4)), (a5, .inl (G 0, 6, .inl f5)), (a6, .inl (G 0, 6, .inl f6)), (o0, .inr (9, [.int y1, .int y2, .int y3, .ref c1, .ref c2, .ref c3, .ref c4, .ref c5, .ref c6])), (c1, .inl (G 0, 10, .inl z1)), (c2, .inl (G 0, 10, .inl z2)), (c3, .inl (G 0, 10, .inl z3)), (c4, .inl (G 0, 6, .inl z4)), (c5, .inl (G 0, 6, .inl z5)), (c6, .inl (G 0, 6, .inl z6))] sz)) 0 0 (va_A [(h0, .inr (9, [.int x1, .int x2, .int x3, .ref a1, .ref a2, .ref a3, .ref a4, .ref a5, .ref a6])), (a1, .inl (G 0, 10, .inl f1)), (a2, .inl (G 0, 10, .inl f2)), (a3, .inl (G 0, 10, .inl f3)), (a4, .inl (G 0, 6, .inl f4)), (a5, .inl (G 0, 6, .inl f5)), (a6, .inl (G 0, 6, .inl f6)), (o0, .inr (9, [.int y1, .int y2, .int y3, .ref c1, .ref c2, .ref c3, .ref c4, .ref c5, .ref c6])), (c1, .inl (G 0, 10, .inl z1)), (c2, .inl (G 0, 10, .inl z2)), (c3, .inl (G 0, 10, .inl z3)), (c4, .inl (G 0, 6, .inl z4)), (c5, .inl (G 0, 6, .inl z5)), (c6, .inl (G 0, 6, .inl z6))] sz) := by
  refine Met.ofW (cc := cX9_copyOf) (maxL := 2) (ret := none) (by decide) rfl ?_
  intro p e s m args below meth c s₁ Bd hml hv
  obtain ⟨rfl, hsz, hP, hK, hD0⟩ := hv
  have hx := Bd.exec
  have hb := Bd.bytes
  have hr := Bd.returns
  have hg : ∀ w ∈ GT, w.before ([.ref h0, .ref o0] : List Value).toArray s = true := fun w h => atoms_spec (ws := Cond.code yX9_copyOf cX9_copyOf 2 none :: GT) Bd.pre w (List.mem_cons_of_mem _ h)
  have hown : s.vm.findClass RX9 = some m.cls := findClass_of_methodNamed Bd.named
  have hlocks := Bd.notSynchronized
  subst hsz
  have hD := hD0.self (sz := s.heap.size)
  generalize hAe : va_A [(h0, .inr (9, [.int x1, .int x2, .int x3, .ref a1, .ref a2, .ref a3, .ref a4, .ref a5, .ref a6])), (a1, .inl (G 0, 10, .inl f1)), (a2, .inl (G 0, 10, .inl f2)), (a3, .inl (G 0, 10, .inl f3)), (a4, .inl (G 0, 6, .inl f4)), (a5, .inl (G 0, 6, .inl f5)), (a6, .inl (G 0, 6, .inl f6)), (o0, .inr (9, [.int y1, .int y2, .int y3, .ref c1, .ref c2, .ref c3, .ref c4, .ref c5, .ref c6])), (c1, .inl (G 0, 10, .inl z1)), (c2, .inl (G 0, 10, .inl z2)), (c3, .inl (G 0, 10, .inl z3)), (c4, .inl (G 0, 6, .inl z4)), (c5, .inl (G 0, 6, .inl z5)), (c6, .inl (G 0, 6, .inl z6))] s.heap.size = A at hD ⊢
  have hA : ∀ q : Nat, s.heap.size ≤ q → A q := fun q h => by rw [← hAe]; exact Or.inr h
  have hS : va_S A s.heap s.heap [] := va_S.rf
  have hl := lv_entry ([.ref h0, .ref o0]) (n := 2) (Nat.le_of_ble_eq_true rfl)
  rw [lg_entry_eq]
  generalize (lg_sl ([.ref h0, .ref o0]) ++ List.replicate (2 - (lg_sl ([.ref h0, .ref o0])).length) Slot.unset).toArray = ls at hl ⊢
  have hl : lv_has ls 2 [(0, .ref h0), (1, .ref o0)] := hl
  refine lv_aload_n hx hb dX9_copyOf_0 rfl (lv_at hl 0 rfl) ?_
  refine lv_aload_n hx hb dX9_copyOf_1 rfl (lv_at hl 1 rfl) ?_
  refine va_get (D := (dC, dI)) (ci := 9) (v := .int y1) (C := RX9) (T := TX9) (N := 9) hx hb hg inG9 hown hK.1 hP 7 rfl rfl 0 (by decide) (hg _ wt_56) (fun _ h9 => h9) rfl dX9_copyOf_2 ?_
  refine va_put (D := (dC, dI)) (ci := 9) (v := .int y1) (ty := .int) (C := RX9) (T := TX9) (N := 9) hx hb hg inG9 tyX9 tyX9_ok nmX9 hown hK.1 hP hD hS 0 rfl rfl 0 (by decide) (hg _ wt_56) (fun _ h9 => h9) rfl (by decide +kernel) rfl rfl (Nat.le_of_ble_eq_true rfl) dX9_copyOf_5 (fun H locs hP hD hS => ?_)
  have hP : va_P (dC, dI) vwCl [(h0, .inr (9, [.int y1, .int x2, .int x3, .ref a1, .ref a2, .ref a3, .ref a4, .ref a5, .ref a6])), (a1, .inl (G 0, 10, .inl f1)), (a2, .inl (G 0, 10, .inl f2)), (a3, .inl (G 0, 10, .inl f3)), (a4, .inl (G 0, 6, .inl f4)), (a5, .inl (G 0, 6, .inl f5)), (a6, .inl (G 0, 6, .inl f6)), (o0, .inr (9, [.int y1, .int y2, .int y3, .ref c1, .ref c2, .ref c3, .ref c4, .ref c5, .ref c6])), (c1, .inl (G 0, 10, .inl z1)), (c2, .inl (G 0, 10, .inl z2)), (c3, .inl (G 0, 10, .inl z3)), (c4, .inl (G 0, 6, .inl z4)), (c5, .inl (G 0, 6, .inl z5)), (c6, .inl (G 0, 6, .inl z6))] H := hP
  have hD : va_D A [(h0, .inr (9, [.int y1, .int x2, .int x3, .ref a1, .ref a2, .ref a3, .ref a4, .ref a5, .ref a6])), (a1, .inl (G 0, 10, .inl f1)), (a2, .inl (G 0, 10, .inl f2)), (a3, .inl (G 0, 10, .inl f3)), (a4, .inl (G 0, 6, .inl f4)), (a5, .inl (G 0, 6, .inl f5)), (a6, .inl (G 0, 6, .inl f6)), (o0, .inr (9, [.int y1, .int y2, .int y3, .ref c1, .ref c2, .ref c3, .ref c4, .ref c5, .ref c6])), (c1, .inl (G 0, 10, .inl z1)), (c2, .inl (G 0, 10, .inl z2)), (c3, .inl (G 0, 10, .inl z3)), (c4, .inl (G 0, 6, .inl z4)), (c5, .inl (G 0, 6, .inl z5)), (c6, .inl (G 0, 6, .inl z6))] := hD
  refine lv_aload_n hx hb dX9_copyOf_8 rfl (lv_at hl 0 rfl) ?_
  refine lv_aload_n hx hb dX9_copyOf_9 rfl (lv_at hl 1 rfl) ?_
  refine va_get (D := (dC, dI)) (ci := 9) (v := .int y2) (C := RX9) (T := TX9) (N := 9) hx hb hg inG9 hown hK.1 hP 7 rfl rfl 1 (by decide) (hg _ wt_62) (fun _ h9 => h9) rfl dX9_copyOf_10 ?_
  refine va_put (D := (dC, dI)) (ci := 9) (v := .int y2) (ty := .int) (C := RX9) (T := TX9) (N := 9) hx hb hg inG9 tyX9 tyX9_ok nmX9 hown hK.1 hP hD hS 0 rfl rfl 1 (by decide) (hg _ wt_62) (fun _ h9 => h9) rfl (by decide +kernel) rfl rfl (Nat.le_of_ble_eq_true rfl) dX9_copyOf_13 (fun H locs hP hD hS => ?_)
  have hP : va_P (dC, dI) vwCl [(h0, .inr (9, [.int y1, .int y2, .int x3, .ref a1, .ref a2, .ref a3, .ref a4, .ref a5, .ref a6])), (a1, .inl (G 0, 10, .inl f1)), (a2, .inl (G 0, 10, .inl f2)), (a3, .inl (G 0, 10, .inl f3)), (a4, .inl (G 0, 6, .inl f4)), (a5, .inl (G 0, 6, .inl f5)), (a6, .inl (G 0, 6, .inl f6)), (o0, .inr (9, [.int y1, .int y2, .int y3, .ref c1, .ref c2, .ref c3, .ref c4, .ref c5, .ref c6])), (c1, .inl (G 0, 10, .inl z1)), (c2, .inl (G 0, 10, .inl z2)), (c3, .inl (G 0, 10, .inl z3)), (c4, .inl (G 0, 6, .inl z4)), (c5, .inl (G 0, 6, .inl z5)), (c6, .inl (G 0, 6, .inl z6))] H := hP
  have hD : va_D A [(h0, .inr (9, [.int y1, .int y2, .int x3, .ref a1, .ref a2, .ref a3, .ref a4, .ref a5, .ref a6])), (a1, .inl (G 0, 10, .inl f1)), (a2, .inl (G 0, 10, .inl f2)), (a3, .inl (G 0, 10, .inl f3)), (a4, .inl (G 0, 6, .inl f4)), (a5, .inl (G 0, 6, .inl f5)), (a6, .inl (G 0, 6, .inl f6)), (o0, .inr (9, [.int y1, .int y2, .int y3, .ref c1, .ref c2, .ref c3, .ref c4, .ref c5, .ref c6])), (c1, .inl (G 0, 10, .inl z1)), (c2, .inl (G 0, 10, .inl z2)), (c3, .inl (G 0, 10, .inl z3)), (c4, .inl (G 0, 6, .inl z4)), (c5, .inl (G 0, 6, .inl z5)), (c6, .inl (G 0, 6, .inl z6))] := hD
  refine lv_aload_n hx hb dX9_copyOf_16 rfl (lv_at hl 0 rfl) ?_
  refine lv_aload_n hx hb dX9_copyOf_17 rfl (lv_at hl 1 rfl) ?_
  refine va_get (D := (dC, dI)) (ci := 9) (v := .int y3) (C := RX9) (T := TX9) (N := 9) hx hb hg inG9 hown hK.1 hP 7 rfl rfl 2 (by decide) (hg _ wt_66) (fun _ h9 => h9) rfl dX9_copyOf_18 ?_
  refine va_put (D := (dC, dI)) (ci := 9) (v := .int y3) (ty := .int) (C := RX9) (T := TX9) (N := 9) hx hb hg inG9 tyX9 tyX9_ok nmX9 hown hK.1 hP hD hS 0 rfl rfl 2 (by decide) (hg _ wt_66) (fun _ h9 => h9) rfl (by decide +kernel) rfl rfl (Nat.le_of_ble_eq_true rfl) dX9_copyOf_21 (fun H locs hP hD hS => ?_)
  have hP : va_P (dC, dI) vwCl [(h0, .inr (9, [.int y1, .int y2, .int y3, .ref a1, .ref a2, .ref a3, .ref a4, .ref a5, .ref a6])), (a1, .inl (G 0, 10, .inl f1)), (a2, .inl (G 0, 10, .inl f2)), (a3, .inl (G 0, 10, .inl f3)), (a4, .inl (G 0, 6, .inl f4)), (a5, .inl (G 0, 6, .inl f5)), (a6, .inl (G 0, 6, .inl f6)), (o0, .inr (9, [.int y1, .int y2, .int y3, .ref c1, .ref c2, .ref c3, .ref c4, .ref c5, .ref c6])), (c1, .inl (G 0, 10, .inl z1)), (c2, .inl (G 0, 10, .inl z2)), (c3, .inl (G 0, 10, .inl z3)), (c4, .inl (G 0, 6, .inl z4)), (c5, .inl (G 0, 6, .inl z5)), (c6, .inl (G 0, 6, .inl z6))] H := hP
  have hD : va_D A [(h0, .inr (9, [.int y1, .int y2, .int y3, .ref a1, .ref a2, .ref a3, .ref a4, .ref a5, .ref a6])), (a1, .inl (G 0, 10, .inl f1)), (a2, .inl (G 0, 10, .inl f2)), (a3, .inl (G 0, 10, .inl f3)), (a4, .inl (G 0, 6, .inl f4)), (a5, .inl (G 0, 6, .inl f5)), (a6, .inl (G 0, 6, .inl f6)), (o0, .inr (9, [.int y1, .int y2, .int y3, .ref c1, .ref c2, .ref c3, .ref c4, .ref c5, .ref c6])), (c1, .inl (G 0, 10, .inl z1)), (c2, .inl (G 0, 10, .inl z2)), (c3, .inl (G 0, 10, .inl z3)), (c4, .inl (G 0, 6, .inl z4)), (c5, .inl (G 0, 6, .inl z5)), (c6, .inl (G 0, 6, .inl z6))] := hD
  refine lv_aload_n hx hb dX9_copyOf_24 rfl (lv_at hl 1 rfl) ?_
  refine va_get (D := (dC, dI)) (ci := 9) (v := .ref c1) (C := RX9) (T := TX9) (N := 9) hx hb hg inG9 hown hK.1 hP 7 rfl rfl 3 (by decide) (hg _ wt_73) (fun _ h9 => h9) rfl dX9_copyOf_25 ?_
  refine lv_iconst (v := 0) hx hb dX9_copyOf_28 (by decide) ?_
  refine lv_aload_n hx hb dX9_copyOf_29 rfl (lv_at hl 0 rfl) ?_
  refine va_get (D := (dC, dI)) (ci := 9) (v := .ref a1) (C := RX9) (T := TX9) (N := 9) hx hb hg inG9 hown hK.1 hP 0 rfl rfl 3 (by decide) (hg _ wt_73) (fun _ h9 => h9) rfl dX9_copyOf_30 ?_
  refine lv_iconst (v := 0) hx hb dX9_copyOf_33 (by decide) ?_
  refine lv_bipush (v := 10) hx hb dX9_copyOf_34 (by decide) ?_
  refine va_copyi hx hb (by rw [hml]; exact hl.1.symm) hown (hg _ wt_511) (hg _ wt_513) (hg _ wt_512) (hg _ wt_18) hK.1 hP hD hS 8 1 0 0 rfl rfl rfl rfl rfl (by decide) (by decide) (by decide) (by decide) (by decide) (fun _ _ => rfl) (Nat.le_of_ble_eq_true rfl) (Nat.le_of_ble_eq_true rfl) dX9_copyOf_36 (fun H locs hP hD hS => ?_)
  have hP : va_P (dC, dI) vwCl [(h0, .inr (9, [.int y1, .int y2, .int y3, .ref a1, .ref a2, .ref a3, .ref a4, .ref a5, .ref a6])), (a1, .inl (G 0, 10, .inl (va_cpy z1 f1 0 0 10))), (a2, .inl (G 0, 10, .inl f2)), (a3, .inl (G 0, 10, .inl f3)), (a4, .inl (G 0, 6, .inl f4)), (a5, .inl (G 0, 6, .inl f5)), (a6, .inl (G 0, 6, .inl f6)), (o0, .inr (9, [.int y1, .int y2, .int y3, .ref c1, .ref c2, .ref c3, .ref c4, .ref c5, .ref c6])), (c1, .inl (G 0, 10, .inl z1)), (c2, .inl (G 0, 10, .inl z2)), (c3, .inl (G 0, 10, .inl z3)), (c4, .inl (G 0, 6, .inl z4)), (c5, .inl (G 0, 6, .inl z5)), (c6, .inl (G 0, 6, .inl z6))] H := hP
  have hD : va_D A [(h0, .inr (9, [.int y1, .int y2, .int y3, .ref a1, .ref a2, .ref a3, .ref a4, .ref a5, .ref a6])), (a1, .inl (G 0, 10, .inl (va_cpy z1 f1 0 0 10))), (a2, .inl (G 0, 10, .inl f2)), (a3, .inl (G 0, 10, .inl f3)), (a4, .inl (G 0, 6, .inl f4)), (a5, .inl (G 0, 6, .inl f5)), (a6, .inl (G 0, 6, .inl f6)), (o0, .inr (9, [.int y1, .int y2, .int y3, .ref c1, .ref c2, .ref c3, .ref c4, .ref c5, .ref c6])), (c1, .inl (G 0, 10, .inl z1)), (c2, .inl (G 0, 10, .inl z2)), (c3, .inl (G 0, 10, .inl z3)), (c4, .inl (G 0, 6, .inl z4)), (c5, .inl (G 0, 6, .inl z5)), (c6, .inl (G 0, 6, .inl z6))] := hD
  refine lv_aload_n hx hb dX9_copyOf_39 rfl (lv_at hl 1 rfl) ?_
  refine va_get (D := (dC, dI)) (ci := 9) (v := .ref c2) (C := RX9) (T := TX9) (N := 9) hx hb hg inG9 hown hK.1 hP 7 rfl rfl 4 (by decide) (hg _ wt_75) (fun _ h9 => h9) rfl dX9_copyOf_40 ?_
  refine lv_iconst (v := 0) hx hb dX9_copyOf_43 (by decide) ?_
  refine lv_aload_n hx hb dX9_copyOf_44 rfl (lv_at hl 0 rfl) ?_
  refine va_get (D := (dC, dI)) (ci := 9) (v := .ref a2) (C := RX9) (T := TX9) (N := 9) hx hb hg inG9 hown hK.1 hP 0 rfl rfl 4 (by decide) (hg _ wt_75) (fun _ h9 => h9) rfl dX9_copyOf_45 ?_
  refine lv_iconst (v := 0) hx hb dX9_copyOf_48 (by decide) ?_
  refine lv_bipush (v := 10) hx hb dX9_copyOf_49 (by decide) ?_
  refine va_copyi hx hb (by rw [hml]; exact hl.1.symm) hown (hg _ wt_511) (hg _ wt_513) (hg _ wt_512) (hg _ wt_18) hK.1 hP hD hS 9 2 0 0 rfl rfl rfl rfl rfl (by decide) (by decide) (by decide) (by decide) (by decide) (fun _ _ => rfl) (Nat.le_of_ble_eq_true rfl) (Nat.le_of_ble_eq_true rfl) dX9_copyOf_51 (fun H locs hP hD hS => ?_)
  have hP : va_P (dC, dI) vwCl [(h0, .inr (9, [.int y1, .int y2, .int y3, .ref a1, .ref a2, .ref a3, .ref a4, .ref a5, .ref a6])), (a1, .inl (G 0, 10, .inl (va_cpy z1 f1 0 0 10))), (a2, .inl (G 0, 10, .inl (va_cpy z2 f2 0 0 10))), (a3, .inl (G 0, 10, .inl f3)), (a4, .inl (G 0, 6, .inl f4)), (a5, .inl (G 0, 6, .inl f5)), (a6, .inl (G 0, 6, .inl f6)), (o0, .inr (9, [.int y1, .int y2, .int y3, .ref c1, .ref c2, .ref c3, .ref c4, .ref c5, .ref c6])), (c1, .inl (G 0, 10, .inl z1)), (c2, .inl (G 0, 10, .inl z2)), (c3, .inl (G 0, 10, .inl z3)), (c4, .inl (G 0, 6, .inl z4)), (c5, .inl (G 0, 6, .inl z5)), (c6, .inl (G 0, 6, .inl z6))] H := hP
  have hD : va_D A [(h0, .inr (9, [.int y1, .int y2, .int y3, .ref a1, .ref a2, .ref a3, .ref a4, .ref a5, .ref a6])), (a1, .inl (G 0, 10, .inl (va_cpy z1 f1 0 0 10))), (a2, .inl (G 0, 10, .inl (va_cpy z2 f2 0 0 10))), (a3, .inl (G 0, 10, .inl f3)), (a4, .inl (G 0, 6, .inl f4)), (a5, .inl (G 0, 6, .inl f5)), (a6, .inl (G 0, 6, .inl f6)), (o0, .inr (9, [.int y1, .int y2, .int y3, .ref c1, .ref c2, .ref c3, .ref c4, .ref c5, .ref c6])), (c1, .inl (G 0, 10, .inl z1)), (c2, .inl (G 0, 10, .inl z2)), (c3, .inl (G 0, 10, .inl z3)), (c4, .inl (G 0, 6, .inl z4)), (c5, .inl (G 0, 6, .inl z5)), (c6, .inl (G 0, 6, .inl z6))] := hD
  refine lv_aload_n hx hb dX9_copyOf_54 rfl (lv_at hl 1 rfl) ?_
  refine va_get (D := (dC, dI)) (ci := 9) (v := .ref c3) (C := RX9) (T := TX9) (N := 9) hx hb hg inG9 hown hK.1 hP 7 rfl rfl 5 (by decide) (hg _ wt_77) (fun _ h9 => h9) rfl dX9_copyOf_55 ?_
  refine lv_iconst (v := 0) hx hb dX9_copyOf_58 (by decide) ?_
  refine lv_aload_n hx hb dX9_copyOf_59 rfl (lv_at hl 0 rfl) ?_
  refine va_get (D := (dC, dI)) (ci := 9) (v := .ref a3) (C := RX9) (T := TX9) (N := 9) hx hb hg inG9 hown hK.1 hP 0 rfl rfl 5 (by decide) (hg _ wt_77) (fun _ h9 => h9) rfl dX9_copyOf_60 ?_
  refine lv_iconst (v := 0) hx hb dX9_copyOf_63 (by decide) ?_
  refine lv_bipush (v := 10) hx hb dX9_copyOf_64 (by decide) ?_
  refine va_copyi hx hb (by rw [hml]; exact hl.1.symm) hown (hg _ wt_511) (hg _ wt_513) (hg _ wt_512) (hg _ wt_18) hK.1 hP hD hS 10 3 0 0 rfl rfl rfl rfl rfl (by decide) (by decide) (by decide) (by decide) (by decide) (fun _ _ => rfl) (Nat.le_of_ble_eq_true rfl) (Nat.le_of_ble_eq_true rfl) dX9_copyOf_66 (fun H locs hP hD hS => ?_)
  have hP : va_P (dC, dI) vwCl [(h0, .inr (9, [.int y1, .int y2, .int y3, .ref a1, .ref a2, .ref a3, .ref a4, .ref a5, .ref a6])), (a1, .inl (G 0, 10, .inl (va_cpy z1 f1 0 0 10))), (a2, .inl (G 0, 10, .inl (va_cpy z2 f2 0 0 10))), (a3, .inl (G 0, 10, .inl (va_cpy z3 f3 0 0 10))), (a4, .inl (G 0, 6, .inl f4)), (a5, .inl (G 0, 6, .inl f5)), (a6, .inl (G 0, 6, .inl f6)), (o0, .inr (9, [.int y1, .int y2, .int y3, .ref c1, .ref c2, .ref c3, .ref c4, .ref c5, .ref c6])), (c1, .inl (G 0, 10, .inl z1)), (c2, .inl (G 0, 10, .inl z2)), (c3, .inl (G 0, 10, .inl z3)), (c4, .inl (G 0, 6, .inl z4)), (c5, .inl (G 0, 6, .inl z5)), (c6, .inl (G 0, 6, .inl z6))] H := hP
  have hD : va_D A [(h0, .inr (9, [.int y1, .int y2, .int y3, .ref a1, .ref a2, .ref a3, .ref a4, .ref a5, .ref a6])), (a1, .inl (G 0, 10, .inl (va_cpy z1 f1 0 0 10))), (a2, .inl (G 0, 10, .inl (va_cpy z2 f2 0 0 10))), (a3, .inl (G 0, 10, .inl (va_cpy z3 f3 0 0 10))), (a4, .inl (G 0, 6, .inl f4)), (a5, .inl (G 0, 6, .inl f5)), (a6, .inl (G 0, 6, .inl f6)), (o0, .inr (9, [.int y1, .int y2, .int y3, .ref c1, .ref c2, .ref c3, .ref c4, .ref c5, .ref c6])), (c1, .inl (G 0, 10, .inl z1)), (c2, .inl (G 0, 10, .inl z2)), (c3, .inl (G 0, 10, .inl z3)), (c4, .inl (G 0, 6, .inl z4)), (c5, .inl (G 0, 6, .inl z5)), (c6, .inl (G 0, 6, .inl z6))] := hD
  refine lv_aload_n hx hb dX9_copyOf_69 rfl (lv_at hl 1 rfl) ?_
  refine va_get (D := (dC, dI)) (ci := 9) (v := .ref c4) (C := RX9) (T := TX9) (N := 9) hx hb hg inG9 hown hK.1 hP 7 rfl rfl 6 (by decide) (hg _ wt_80) (fun _ h9 => h9) rfl dX9_copyOf_70 ?_
  refine lv_iconst (v := 0) hx hb dX9_copyOf_73 (by decide) ?_
  refine lv_aload_n hx hb dX9_copyOf_74 rfl (lv_at hl 0 rfl) ?_
  refine va_get (D := (dC, dI)) (ci := 9) (v := .ref a4) (C := RX9) (T := TX9) (N := 9) hx hb hg inG9 hown hK.1 hP 0 rfl rfl 6 (by decide) (hg _ wt_80) (fun _ h9 => h9) rfl dX9_copyOf_75 ?_
  refine lv_iconst (v := 0) hx hb dX9_copyOf_78 (by decide) ?_
  refine lv_bipush (v := 6) hx hb dX9_copyOf_79 (by decide) ?_
  refine va_copyi hx hb (by rw [hml]; exact hl.1.symm) hown (hg _ wt_511) (hg _ wt_513) (hg _ wt_512) (hg _ wt_18) hK.1 hP hD hS 11 4 0 0 rfl rfl rfl rfl rfl (by decide) (by decide) (by decide) (by decide) (by decide) (fun _ _ => rfl) (Nat.le_of_ble_eq_true rfl) (Nat.le_of_ble_eq_true rfl) dX9_copyOf_81 (fun H locs hP hD hS => ?_)
  have hP : va_P (dC, dI) vwCl [(h0, .inr (9, [.int y1, .int y2, .int y3, .ref a1, .ref a2, .ref a3, .ref a4, .ref a5, .ref a6])), (a1, .inl (G 0, 10, .inl (va_cpy z1 f1 0 0 10))), (a2, .inl (G 0, 10, .inl (va_cpy z2 f2 0 0 10))), (a3, .inl (G 0, 10, .inl (va_cpy z3 f3 0 0 10))), (a4, .inl (G 0, 6, .inl (va_cpy z4 f4 0 0 6))), (a5, .inl (G 0, 6, .inl f5)), (a6, .inl (G 0, 6, .inl f6)), (o0, .inr (9, [.int y1, .int y2, .int y3, .ref c1, .ref c2, .ref c3, .ref c4, .ref c5, .ref c6])), (c1, .inl (G 0, 10, .inl z1)), (c2, .inl (G 0, 10, .inl z2)), (c3, .inl (G 0, 10, .inl z3)), (c4, .inl (G 0, 6, .inl z4)), (c5, .inl (G 0, 6, .inl z5)), (c6, .inl (G 0, 6, .inl z6))] H := hP
  have hD : va_D A [(h0, .inr (9, [.int y1, .int y2, .int y3, .ref a1, .ref a2, .ref a3, .ref a4, .ref a5, .ref a6])), (a1, .inl (G 0, 10, .inl (va_cpy z1 f1 0 0 10))), (a2, .inl (G 0, 10, .inl (va_cpy z2 f2 0 0 10))), (a3, .inl (G 0, 10, .inl (va_cpy z3 f3 0 0 10))), (a4, .inl (G 0, 6, .inl (va_cpy z4 f4 0 0 6))), (a5, .inl (G 0, 6, .inl f5)), (a6, .inl (G 0, 6, .inl f6)), (o0, .inr (9, [.int y1, .int y2, .int y3, .ref c1, .ref c2, .ref c3, .ref c4, .ref c5, .ref c6])), (c1, .inl (G 0, 10, .inl z1)), (c2, .inl (G 0, 10, .inl z2)), (c3, .inl (G 0, 10, .inl z3)), (c4, .inl (G 0, 6, .inl z4)), (c5, .inl (G 0, 6, .inl z5)), (c6, .inl (G 0, 6, .inl z6))] := hD
  refine lv_aload_n hx hb dX9_copyOf_84 rfl (lv_at hl 1 rfl) ?_
  refine va_get (D := (dC, dI)) (ci := 9) (v := .ref c5) (C := RX9) (T := TX9) (N := 9) hx hb hg inG9 hown hK.1 hP 7 rfl rfl 7 (by decide) (hg _ wt_82) (fun _ h9 => h9) rfl dX9_copyOf_85 ?_
  refine lv_iconst (v := 0) hx hb dX9_copyOf_88 (by decide) ?_
  refine lv_aload_n hx hb dX9_copyOf_89 rfl (lv_at hl 0 rfl) ?_
  refine va_get (D := (dC, dI)) (ci := 9) (v := .ref a5) (C := RX9) (T := TX9) (N := 9) hx hb hg inG9 hown hK.1 hP 0 rfl rfl 7 (by decide) (hg _ wt_82) (fun _ h9 => h9) rfl dX9_copyOf_90 ?_
  refine lv_iconst (v := 0) hx hb dX9_copyOf_93 (by decide) ?_
  refine lv_bipush (v := 6) hx hb dX9_copyOf_94 (by decide) ?_
  refine va_copyi hx hb (by rw [hml]; exact hl.1.symm) hown (hg _ wt_511) (hg _ wt_513) (hg _ wt_512) (hg _ wt_18) hK.1 hP hD hS 12 5 0 0 rfl rfl rfl rfl rfl (by decide) (by decide) (by decide) (by decide) (by decide) (fun _ _ => rfl) (Nat.le_of_ble_eq_true rfl) (Nat.le_of_ble_eq_true rfl) dX9_copyOf_96 (fun H locs hP hD hS => ?_)
  have hP : va_P (dC, dI) vwCl [(h0, .inr (9, [.int y1, .int y2, .int y3, .ref a1, .ref a2, .ref a3, .ref a4, .ref a5, .ref a6])), (a1, .inl (G 0, 10, .inl (va_cpy z1 f1 0 0 10))), (a2, .inl (G 0, 10, .inl (va_cpy z2 f2 0 0 10))), (a3, .inl (G 0, 10, .inl (va_cpy z3 f3 0 0 10))), (a4, .inl (G 0, 6, .inl (va_cpy z4 f4 0 0 6))), (a5, .inl (G 0, 6, .inl (va_cpy z5 f5 0 0 6))), (a6, .inl (G 0, 6, .inl f6)), (o0, .inr (9, [.int y1, .int y2, .int y3, .ref c1, .ref c2, .ref c3, .ref c4, .ref c5, .ref c6])), (c1, .inl (G 0, 10, .inl z1)), (c2, .inl (G 0, 10, .inl z2)), (c3, .inl (G 0, 10, .inl z3)), (c4, .inl (G 0, 6, .inl z4)), (c5, .inl (G 0, 6, .inl z5)), (c6, .inl (G 0, 6, .inl z6))] H := hP
  have hD : va_D A [(h0, .inr (9, [.int y1, .int y2, .int y3, .ref a1, .ref a2, .ref a3, .ref a4, .ref a5, .ref a6])), (a1, .inl (G 0, 10, .inl (va_cpy z1 f1 0 0 10))), (a2, .inl (G 0, 10, .inl (va_cpy z2 f2 0 0 10))), (a3, .inl (G 0, 10, .inl (va_cpy z3 f3 0 0 10))), (a4, .inl (G 0, 6, .inl (va_cpy z4 f4 0 0 6))), (a5, .inl (G 0, 6, .inl (va_cpy z5 f5 0 0 6))), (a6, .inl (G 0, 6, .inl f6)), (o0, .inr (9, [.int y1, .int y2, .int y3, .ref c1, .ref c2, .ref c3, .ref c4, .ref c5, .ref c6])), (c1, .inl (G 0, 10, .inl z1)), (c2, .inl (G 0, 10, .inl z2)), (c3, .inl (G 0, 10, .inl z3)), (c4, .inl (G 0, 6, .inl z4)), (c5, .inl (G 0, 6, .inl z5)), (c6, .inl (G 0, 6, .inl z6))] := hD
  refine lv_aload_n hx hb dX9_copyOf_99 rfl (lv_at hl 1 rfl) ?_
  refine va_get (D := (dC, dI)) (ci := 9) (v := .ref c6) (C := RX9) (T := TX9) (N := 9) hx hb hg inG9 hown hK.1 hP 7 rfl rfl 8 (by decide) (hg _ wt_84) (fun _ h9 => h9) rfl dX9_copyOf_100 ?_
  refine lv_iconst (v := 0) hx hb dX9_copyOf_103 (by decide) ?_
  refine lv_aload_n hx hb dX9_copyOf_104 rfl (lv_at hl 0 rfl) ?_
  refine va_get (D := (dC, dI)) (ci := 9) (v := .ref a6) (C := RX9) (T := TX9) (N := 9) hx hb hg inG9 hown hK.1 hP 0 rfl rfl 8 (by decide) (hg _ wt_84) (fun _ h9 => h9) rfl dX9_copyOf_105 ?_
  refine lv_iconst (v := 0) hx hb dX9_copyOf_108 (by decide) ?_
  refine lv_bipush (v := 6) hx hb dX9_copyOf_109 (by decide) ?_
  refine va_copyi hx hb (by rw [hml]; exact hl.1.symm) hown (hg _ wt_511) (hg _ wt_513) (hg _ wt_512) (hg _ wt_18) hK.1 hP hD hS 13 6 0 0 rfl rfl rfl rfl rfl (by decide) (by decide) (by decide) (by decide) (by decide) (fun _ _ => rfl) (Nat.le_of_ble_eq_true rfl) (Nat.le_of_ble_eq_true rfl) dX9_copyOf_111 (fun H locs hP hD hS => ?_)
  have hP : va_P (dC, dI) vwCl [(h0, .inr (9, [.int y1, .int y2, .int y3, .ref a1, .ref a2, .ref a3, .ref a4, .ref a5, .ref a6])), (a1, .inl (G 0, 10, .inl (va_cpy z1 f1 0 0 10))), (a2, .inl (G 0, 10, .inl (va_cpy z2 f2 0 0 10))), (a3, .inl (G 0, 10, .inl (va_cpy z3 f3 0 0 10))), (a4, .inl (G 0, 6, .inl (va_cpy z4 f4 0 0 6))), (a5, .inl (G 0, 6, .inl (va_cpy z5 f5 0 0 6))), (a6, .inl (G 0, 6, .inl (va_cpy z6 f6 0 0 6))), (o0, .inr (9, [.int y1, .int y2, .int y3, .ref c1, .ref c2, .ref c3, .ref c4, .ref c5, .ref c6])), (c1, .inl (G 0, 10, .inl z1)), (c2, .inl (G 0, 10, .inl z2)), (c3, .inl (G 0, 10, .inl z3)), (c4, .inl (G 0, 6, .inl z4)), (c5, .inl (G 0, 6, .inl z5)), (c6, .inl (G 0, 6, .inl z6))] H := hP
  have hD : va_D A [(h0, .inr (9, [.int y1, .int y2, .int y3, .ref a1, .ref a2, .ref a3, .ref a4, .ref a5, .ref a6])), (a1, .inl (G 0, 10, .inl (va_cpy z1 f1 0 0 10))), (a2, .inl (G 0, 10, .inl (va_cpy z2 f2 0 0 10))), (a3, .inl (G 0, 10, .inl (va_cpy z3 f3 0 0 10))), (a4, .inl (G 0, 6, .inl (va_cpy z4 f4 0 0 6))), (a5, .inl (G 0, 6, .inl (va_cpy z5 f5 0 0 6))), (a6, .inl (G 0, 6, .inl (va_cpy z6 f6 0 0 6))), (o0, .inr (9, [.int y1, .int y2, .int y3, .ref c1, .ref c2, .ref c3, .ref c4, .ref c5, .ref c6])), (c1, .inl (G 0, 10, .inl z1)), (c2, .inl (G 0, 10, .inl z2)), (c3, .inl (G 0, 10, .inl z3)), (c4, .inl (G 0, 6, .inl z4)), (c5, .inl (G 0, 6, .inl z5)), (c6, .inl (G 0, 6, .inl z6))] := hD
  have hP9 := hP.sub (ws' := [(h0, .inr (9, [.int y1, .int y2, .int y3, .ref a1, .ref a2, .ref a3, .ref a4, .ref a5, .ref a6])), (a1, .inl (G 0, 10, .inl (va_cpy z1 f1 0 0 10))), (a2, .inl (G 0, 10, .inl (va_cpy z2 f2 0 0 10))), (a3, .inl (G 0, 10, .inl (va_cpy z3 f3 0 0 10))), (a4, .inl (G 0, 6, .inl (va_cpy z4 f4 0 0 6))), (a5, .inl (G 0, 6, .inl (va_cpy z5 f5 0 0 6))), (a6, .inl (G 0, 6, .inl (va_cpy z6 f6 0 0 6))), (o0, .inr (9, [.int y1, .int y2, .int y3, .ref c1, .ref c2, .ref c3, .ref c4, .ref c5, .ref c6])), (c1, .inl (G 0, 10, .inl z1)), (c2, .inl (G 0, 10, .inl z2)), (c3, .inl (G 0, 10, .inl z3)), (c4, .inl (G 0, 6, .inl z4)), (c5, .inl (G 0, 6, .inl z5)), (c6, .inl (G 0, 6, .inl z6))]) [0, 1, 2, 3, 4, 5, 6, 7, 8, 9, 10, 11, 12, 13] rfl
  have hD9 := hD.sub (ws' := [(h0, .inr (9, [.int y1, .int y2, .int y3, .ref a1, .ref a2, .ref a3, .ref a4, .ref a5, .ref a6])), (a1, .inl (G 0, 10, .inl (va_cpy z1 f1 0 0 10))), (a2, .inl (G 0, 10, .inl (va_cpy z2 f2 0 0 10))), (a3, .inl (G 0, 10, .inl (va_cpy z3 f3 0 0 10))), (a4, .inl (G 0, 6, .inl (va_cpy z4 f4 0 0 6))), (a5, .inl (G 0, 6, .inl (va_cpy z5 f5 0 0 6))), (a6, .inl (G 0, 6, .inl (va_cpy z6 f6 0 0 6))), (o0, .inr (9, [.int y1, .int y2, .int y3, .ref c1, .ref c2, .ref c3, .ref c4, .ref c5, .ref c6])), (c1, .inl (G 0, 10, .inl z1)), (c2, .inl (G 0, 10, .inl z2)), (c3, .inl (G 0, 10, .inl z3)), (c4, .inl (G 0, 6, .inl z4)), (c5, .inl (G 0, 6, .inl z5)), (c6, .inl (G 0, 6, .inl z6))]) [0, 1, 2, 3, 4, 5, 6, 7, 8, 9, 10, 11, 12, 13] (by decide) rfl
  refine W.widen (k := 0) (n := 0) (by omega) (by omega) ?_
  exact W.vret hx hb hr (fun t ht hW => ⟨⟨((va_cpy z1 f1 0 0 10), (va_cpy z2 f2 0 0 10), (va_cpy z3 f3 0 0 10), (va_cpy z4 f4 0 0 6), (va_cpy z5 f5 0 0 6), (va_cpy z6 f6 0 0 6)), rfl, ⟨rfl, rfl, rfl, rfl, rfl, rfl⟩, ⟨by rw [ht]; exact hP9, hD9⟩⟩, hS.F ht⟩) hS.2.2 dX9_copyOf_114

set_option maxHeartbeats 1000000 in
set_option maxRecDepth 100000 in
theorem c_X5_beginE (l : Launch) (dC : Nat → ClassId) (dI : Nat → Nat → Nat) (G : Nat → ClassId) (sz : Nat) (h0 tp td a1 a2 a3 a4 a5 a6 : Nat) (x0 x1 x2 x3 x4 x5 x6 x7 x8 x9 n1 n2 n3 : Int32) (f3 : Nat → Int32)  : Met l yX5_begin (Cond.code yX5_begin cX5_begin 1 none :: GT) ({ frames := 1, cells := 0, slots := 0, locals := 21 } : Room) (PcW [.ref h0] dC dI G [(h0, .inr (5, [.ref tp, .ref td, .int x0, .int x1, .int x2, .int x3, .int x4, .int x5, .int x6, .int x7, .int x8, .int x9])), (td, .inr (9, [.int n1, .int n2, .int n3, .ref a1, .ref a2, .ref a3, .ref a4, .ref a5, .ref a6])), (a3, .inl (G 0, 10, .inl f3))] sz) (va_Qv (fun (u : (Nat → Int32)) => match u with | u0 => u0 = zpF 10 f3) (fun (u : (Nat → Int32)) (t : State) => match u with | u0 => va_P (dC, dI) vwCl [(h0, .inr (5, [.ref tp, .ref td, .int 0, .int 0, .int 0, .int x3, .int x4, .int 0, .int 0, .int 0, .int (-4), .int (-4)])), (td, .inr (9, [.int 0, .int 0, .int 5, .ref a1, .ref a2, .ref a3, .ref a4, .ref a5, .ref a6])), (a3, .inl (G 0, 10, .inl u0))] t.heap ∧ va_D (va_A [(h0, .inr (5, [.ref tp, .ref td, .int x0, .int x1, .int x2, .int x3, .int x4, .int x5, .int x6, .int x7, .int x8, .int x9])), (td, .inr (9, [.int n1, .int n2, .int n3, .ref a1, .ref a2, .ref a3, .ref a4, .ref a5, .ref a6])), (a3, .inl (G 0, 10, .inl f3))] sz) [(h0, .inr (5, [.ref tp, .ref td, .int 0, .int 0, .int 0, .int x3, .int x4, .int 0, .int 0, .int 0, .int (-4), .int (-4)])), (td, .inr (9, [.int 0, .int 0, .int 5, .ref a1, .ref a2, .ref a3, .ref a4, .ref a5, .ref a6])), (a3, .inl (G 0, 10, .inl u0))]) (va_A [(h0, .inr (5, [.ref tp, .ref td, .int x0, .int x1, .int x2, .int x3, .int x4, .int x5, .int x6, .int x7, .int x8, .int x9])), (td, .inr (9, [.int n1, .int n2, .int n3, .ref a1, .ref a2, .ref a3, .ref a4, .ref a5, .ref a6])), (a3, .inl (G 0, 10, .inl f3))] sz)) 0 0 (va_A [(h0, .inr (5, [.ref tp, .ref td, .int x0, .int x1, .int x2, .int x3, .int x4, .int x5, .int x6, .int x7, .int x8, .int x9])), (td, .inr (9, [.int n1, .int n2, .int n3, .ref a1, .ref a2, .ref a3, .ref a4, .ref a5, .ref a6])), (a3, .inl (G 0, 10, .inl f3))] sz) := by
  refine Met.ofW (cc := cX5_begin) (maxL := 1) (ret := none) (by decide) rfl ?_
  intro p e s m args below meth c s₁ Bd hml hv
  obtain ⟨rfl, hsz, hP, hK, hD0⟩ := hv
  have hx := Bd.exec
  have hb := Bd.bytes
  have hr := Bd.returns
  have hg : ∀ w ∈ GT, w.before ([.ref h0] : List Value).toArray s = true := fun w h => atoms_spec (ws := Cond.code yX5_begin cX5_begin 1 none :: GT) Bd.pre w (List.mem_cons_of_mem _ h)
  have hown : s.vm.findClass RX5 = some m.cls := findClass_of_methodNamed Bd.named
  have hlocks := Bd.notSynchronized
  subst hsz
  have hD := hD0.self (sz := s.heap.size)
  generalize hAe : va_A [(h0, .inr (5, [.ref tp, .ref td, .int x0, .int x1, .int x2, .int x3, .int x4, .int x5, .int x6, .int x7, .int x8, .int x9])), (td, .inr (9, [.int n1, .int n2, .int n3, .ref a1, .ref a2, .ref a3, .ref a4, .ref a5, .ref a6])), (a3, .inl (G 0, 10, .inl f3))] s.heap.size = A at hD ⊢
  have hA : ∀ q : Nat, s.heap.size ≤ q → A q := fun q h => by rw [← hAe]; exact Or.inr h
  have hS : va_S A s.heap s.heap [] := va_S.rf
  have hl := lv_entry ([.ref h0]) (n := 1) (Nat.le_of_ble_eq_true rfl)
  rw [lg_entry_eq]
  generalize (lg_sl ([.ref h0]) ++ List.replicate (1 - (lg_sl ([.ref h0])).length) Slot.unset).toArray = ls at hl ⊢
  have hl : lv_has ls 1 [(0, .ref h0)] := hl
  refine lv_aload_n hx hb dX5_begin_0 rfl (lv_at hl 0 rfl) ?_
  refine va_get (D := (dC, dI)) (ci := 5) (v := .ref td) (C := RX5) (T := TX5) (N := 12) hx hb hg inG5 hown hK.1 hP 0 rfl rfl 1 (by decide) (hg _ wt_107) (fun _ h9 => h9) rfl dX5_begin_1 ?_
  have hPc := hP.sub (ws' := [(td, .inr (9, [.int n1, .int n2, .int n3, .ref a1, .ref a2, .ref a3, .ref a4, .ref a5, .ref a6])), (a3, .inl (G 0, 10, .inl f3))]) [1, 2] rfl
  have hDc := hD.sub (ws' := [(td, .inr (9, [.int n1, .int n2, .int n3, .ref a1, .ref a2, .ref a3, .ref a4, .ref a5, .ref a6])), (a3, .inl (G 0, 10, .inl f3))]) [1, 2] (by decide) rfl
  have hFc := va_free (wc := [(td, .inr (9, [.int n1, .int n2, .int n3, .ref a1, .ref a2, .ref a3, .ref a4, .ref a5, .ref a6])), (a3, .inl (G 0, 10, .inl f3))]) hD hS hA [1, 2] rfl
  refine va_callv (va_runVN (As := []) (rest := []) ⟨hx, hb, hml, hown, hg⟩ (c_X9_clearE l dC dI G _ td a1 a2 a3 a4 a5 a6 n1 n2 n3 f3 ) (kwVN hg hK mfX9_clear wn_370 ⟨Nat.le_of_ble_eq_true rfl, Nat.le_of_ble_eq_true rfl⟩) (preVW hK hPc hDc (ci := 9) rfl rfl) rfl rfl hl.1 rfl (lv_room (Nat.le_of_ble_eq_true rfl)) dX5_begin_4 ⟨Nat.le_of_ble_eq_true rfl, Nat.le_of_ble_eq_true rfl⟩) hS (fun q _ h => hFc q h) hFc (fun ur1 t H1 locs ht hvm w2 hB hz1 hk1 hS => ?_)
  obtain ⟨u3, rfl⟩ : ∃ z, z = ur1 := ⟨_, rfl⟩
  obtain ⟨hP1, hD1⟩ := hB
  rw [ht] at hP1
  obtain ⟨hP, hD⟩ := va_join (wr := [(h0, .inr (5, [.ref tp, .ref td, .int x0, .int x1, .int x2, .int x3, .int x4, .int x5, .int x6, .int x7, .int x8, .int x9]))]) (w1 := [(td, .inr (9, [.int 0, .int 0, .int 5, .ref a1, .ref a2, .ref a3, .ref a4, .ref a5, .ref a6])), (a3, .inl (G 0, 10, .inl u3))]) hP hD [1, 2] [0] rfl rfl (by decide) (by decide) hk1 hFc hP1 hD1
  have w2 : u3 = zpF 10 f3 := w2
  generalize H1 = H at hP hS ⊢
  have hP : va_P (dC, dI) vwCl [(h0, .inr (5, [.ref tp, .ref td, .int x0, .int x1, .int x2, .int x3, .int x4, .int x5, .int x6, .int x7, .int x8, .int x9])), (td, .inr (9, [.int 0, .int 0, .int 5, .ref a1, .ref a2, .ref a3, .ref a4, .ref a5, .ref a6])), (a3, .inl (G 0, 10, .inl u3))] H := hP
  have hD : va_D A [(h0, .inr (5, [.ref tp, .ref td, .int x0, .int x1, .int x2, .int x3, .int x4, .int x5, .int x6, .int x7, .int x8, .int x9])), (td, .inr (9, [.int 0, .int 0, .int 5, .ref a1, .ref a2, .ref a3, .ref a4, .ref a5, .ref a6])), (a3, .inl (G 0, 10, .inl u3))] := hD
  refine lv_aload_n hx hb dX5_begin_7 rfl (lv_at hl 0 rfl) ?_
  refine lv_iconst (v := 0) hx hb dX5_begin_8 (by decide) ?_
  refine va_put (D := (dC, dI)) (ci := 5) (v := .int 0) (ty := .int) (C := RX5) (T := TX5) (N := 12) hx hb hg inG5 tyX5 tyX5_ok nmX5 hown hK.1 hP hD hS 0 rfl rfl 2 (by decide) (hg _ wt_109) (fun _ h9 => h9) rfl (by decide +kernel) rfl rfl (Nat.le_of_ble_eq_true rfl) dX5_begin_9 (fun H locs hP hD hS => ?_)
  have hP : va_P (dC, dI) vwCl [(h0, .inr (5, [.ref tp, .ref td, .int 0, .int x1, .int x2, .int x3, .int x4, .int x5, .int x6, .int x7, .int x8, .int x9])), (td, .inr (9, [.int 0, .int 0, .int 5, .ref a1, .ref a2, .ref a3, .ref a4, .ref a5, .ref a6])), (a3, .inl (G 0, 10, .inl u3))] H := hP
  have hD : va_D A [(h0, .inr (5, [.ref tp, .ref td, .int 0, .int x1, .int x2, .int x3, .int x4, .int x5, .int x6, .int x7, .int x8, .int x9])), (td, .inr (9, [.int 0, .int 0, .int 5, .ref a1, .ref a2, .ref a3, .ref a4, .ref a5, .ref a6])), (a3, .inl (G 0, 10, .inl u3))] := hD
  refine lv_aload_n hx hb dX5_begin_12 rfl (lv_at hl 0 rfl) ?_
  refine lv_iconst (v := 0) hx hb dX5_begin_13 (by decide) ?_
  refine va_put (D := (dC, dI)) (ci := 5) (v := .int 0) (ty := .int) (C := RX5) (T := TX5) (N := 12) hx hb hg inG5 tyX5 tyX5_ok nmX5 hown hK.1 hP hD hS 0 rfl rfl 3 (by decide) (hg _ wt_111) (fun _ h9 => h9) rfl (by decide +kernel) rfl rfl (Nat.le_of_ble_eq_true rfl) dX5_begin_14 (fun H locs hP hD hS => ?_)
  have hP : va_P (dC, dI) vwCl [(h0, .inr (5, [.ref tp, .ref td, .int 0, .int 0, .int x2, .int x3, .int x4, .int x5, .int x6, .int x7, .int x8, .int x9])), (td, .inr (9, [.int 0, .int 0, .int 5, .ref a1, .ref a2, .ref a3, .ref a4, .ref a5, .ref a6])), (a3, .inl (G 0, 10, .inl u3))] H := hP
  have hD : va_D A [(h0, .inr (5, [.ref tp, .ref td, .int 0, .int 0, .int x2, .int x3, .int x4, .int x5, .int x6, .int x7, .int x8, .int x9])), (td, .inr (9, [.int 0, .int 0, .int 5, .ref a1, .ref a2, .ref a3, .ref a4, .ref a5, .ref a6])), (a3, .inl (G 0, 10, .inl u3))] := hD
  refine lv_aload_n hx hb dX5_begin_17 rfl (lv_at hl 0 rfl) ?_
  refine lv_iconst (v := 0) hx hb dX5_begin_18 (by decide) ?_
  refine va_put (D := (dC, dI)) (ci := 5) (v := .int 0) (ty := .int) (C := RX5) (T := TX5) (N := 12) hx hb hg inG5 tyX5 tyX5_ok nmX5 hown hK.1 hP hD hS 0 rfl rfl 4 (by decide) (hg _ wt_113) (fun _ h9 => h9) rfl (by decide +kernel) rfl rfl (Nat.le_of_ble_eq_true rfl) dX5_begin_19 (fun H locs hP hD hS => ?_)
  have hP : va_P (dC, dI) vwCl [(h0, .inr (5, [.ref tp, .ref td, .int 0, .int 0, .int 0, .int x3, .int x4, .int x5, .int x6, .int x7, .int x8, .int x9])), (td, .inr (9, [.int 0, .int 0, .int 5, .ref a1, .ref a2, .ref a3, .ref a4, .ref a5, .ref a6])), (a3, .inl (G 0, 10, .inl u3))] H := hP
  have hD : va_D A [(h0, .inr (5, [.ref tp, .ref td, .int 0, .int 0, .int 0, .int x3, .int x4, .int x5, .int x6, .int x7, .int x8, .int x9])), (td, .inr (9, [.int 0, .int 0, .int 5, .ref a1, .ref a2, .ref a3, .ref a4, .ref a5, .ref a6])), (a3, .inl (G 0, 10, .inl u3))] := hD
  refine lv_aload_n hx hb dX5_begin_22 rfl (lv_at hl 0 rfl) ?_
  refine lv_iconst (v := 0) hx hb dX5_begin_23 (by decide) ?_
  refine va_put (D := (dC, dI)) (ci := 5) (v := .int 0) (ty := .int) (C := RX5) (T := TX5) (N := 12) hx hb hg inG5 tyX5 tyX5_ok nmX5 hown hK.1 hP hD hS 0 rfl rfl 7 (by decide) (hg _ wt_117) (fun _ h9 => h9) rfl (by decide +kernel) rfl rfl (Nat.le_of_ble_eq_true rfl) dX5_begin_24 (fun H locs hP hD hS => ?_)
  have hP : va_P (dC, dI) vwCl [(h0, .inr (5, [.ref tp, .ref td, .int 0, .int 0, .int 0, .int x3, .int x4, .int 0, .int x6, .int x7, .int x8, .int x9])), (td, .inr (9, [.int 0, .int 0, .int 5, .ref a1, .ref a2, .ref a3, .ref a4, .ref a5, .ref a6])), (a3, .inl (G 0, 10, .inl u3))] H := hP
  have hD : va_D A [(h0, .inr (5, [.ref tp, .ref td, .int 0, .int 0, .int 0, .int x3, .int x4, .int 0, .int x6, .int x7, .int x8, .int x9])), (td, .inr (9, [.int 0, .int 0, .int 5, .ref a1, .ref a2, .ref a3, .ref a4, .ref a5, .ref a6])), (a3, .inl (G 0, 10, .inl u3))] := hD
  refine lv_aload_n hx hb dX5_begin_27 rfl (lv_at hl 0 rfl) ?_
  refine lv_iconst (v := 0) hx hb dX5_begin_28 (by decide) ?_
  refine va_put (D := (dC, dI)) (ci := 5) (v := .int 0) (ty := .boolean) (C := RX5) (T := TX5) (N := 12) hx hb hg inG5 tyX5 tyX5_ok nmX5 hown hK.1 hP hD hS 0 rfl rfl 8 (by decide) (hg _ wt_118) (fun _ h9 => h9) rfl (by decide +kernel) rfl rfl (Nat.le_of_ble_eq_true rfl) dX5_begin_29 (fun H locs hP hD hS => ?_)
  have hP : va_P (dC, dI) vwCl [(h0, .inr (5, [.ref tp, .ref td, .int 0, .int 0, .int 0, .int x3, .int x4, .int 0, .int 0, .int x7, .int x8, .int x9])), (td, .inr (9, [.int 0, .int 0, .int 5, .ref a1, .ref a2, .ref a3, .ref a4, .ref a5, .ref a6])), (a3, .inl (G 0, 10, .inl u3))] H := hP
  have hD : va_D A [(h0, .inr (5, [.ref tp, .ref td, .int 0, .int 0, .int 0, .int x3, .int x4, .int 0, .int 0, .int x7, .int x8, .int x9])), (td, .inr (9, [.int 0, .int 0, .int 5, .ref a1, .ref a2, .ref a3, .ref a4, .ref a5, .ref a6])), (a3, .inl (G 0, 10, .inl u3))] := hD
  refine lv_aload_n hx hb dX5_begin_32 rfl (lv_at hl 0 rfl) ?_
  refine lv_iconst (v := 0) hx hb dX5_begin_33 (by decide) ?_
  refine va_put (D := (dC, dI)) (ci := 5) (v := .int 0) (ty := .int) (C := RX5) (T := TX5) (N := 12) hx hb hg inG5 tyX5 tyX5_ok nmX5 hown hK.1 hP hD hS 0 rfl rfl 9 (by decide) (hg _ wt_119) (fun _ h9 => h9) rfl (by decide +kernel) rfl rfl (Nat.le_of_ble_eq_true rfl) dX5_begin_34 (fun H locs hP hD hS => ?_)
  have hP : va_P (dC, dI) vwCl [(h0, .inr (5, [.ref tp, .ref td, .int 0, .int 0, .int 0, .int x3, .int x4, .int 0, .int 0, .int 0, .int x8, .int x9])), (td, .inr (9, [.int 0, .int 0, .int 5, .ref a1, .ref a2, .ref a3, .ref a4, .ref a5, .ref a6])), (a3, .inl (G 0, 10, .inl u3))] H := hP
  have hD : va_D A [(h0, .inr (5, [.ref tp, .ref td, .int 0, .int 0, .int 0, .int x3, .int x4, .int 0, .int 0, .int 0, .int x8, .int x9])), (td, .inr (9, [.int 0, .int 0, .int 5, .ref a1, .ref a2, .ref a3, .ref a4, .ref a5, .ref a6])), (a3, .inl (G 0, 10, .inl u3))] := hD
  refine lv_aload_n hx hb dX5_begin_37 rfl (lv_at hl 0 rfl) ?_
  refine lv_bipush (v := (-4)) hx hb dX5_begin_38 (by decide) ?_
  refine va_put (D := (dC, dI)) (ci := 5) (v := .int (-4)) (ty := .int) (C := RX5) (T := TX5) (N := 12) hx hb hg inG5 tyX5 tyX5_ok nmX5 hown hK.1 hP hD hS 0 rfl rfl 10 (by decide) (hg _ wt_120) (fun _ h9 => h9) rfl (by decide +kernel) rfl rfl (Nat.le_of_ble_eq_true rfl) dX5_begin_40 (fun H locs hP hD hS => ?_)
  have hP : va_P (dC, dI) vwCl [(h0, .inr (5, [.ref tp, .ref td, .int 0, .int 0, .int 0, .int x3, .int x4, .int 0, .int 0, .int 0, .int (-4), .int x9])), (td, .inr (9, [.int 0, .int 0, .int 5, .ref a1, .ref a2, .ref a3, .ref a4, .ref a5, .ref a6])), (a3, .inl (G 0, 10, .inl u3))] H := hP
  have hD : va_D A [(h0, .inr (5, [.ref tp, .ref td, .int 0, .int 0, .int 0, .int x3, .int x4, .int 0, .int 0, .int 0, .int (-4), .int x9])), (td, .inr (9, [.int 0, .int 0, .int 5, .ref a1, .ref a2, .ref a3, .ref a4, .ref a5, .ref a6])), (a3, .inl (G 0, 10, .inl u3))] := hD
  refine lv_aload_n hx hb dX5_begin_43 rfl (lv_at hl 0 rfl) ?_
  refine lv_bipush (v := (-4)) hx hb dX5_begin_44 (by decide) ?_
  refine va_put (D := (dC, dI)) (ci := 5) (v := .int (-4)) (ty := .int) (C := RX5) (T := TX5) (N := 12) hx hb hg inG5 tyX5 tyX5_ok nmX5 hown hK.1 hP hD hS 0 rfl rfl 11 (by decide) (hg _ wt_121) (fun _ h9 => h9) rfl (by decide +kernel) rfl rfl (Nat.le_of_ble_eq_true rfl) dX5_begin_46 (fun H locs hP hD hS => ?_)
  have hP : va_P (dC, dI) vwCl [(h0, .inr (5, [.ref tp, .ref td, .int 0, .int 0, .int 0, .int x3, .int x4, .int 0, .int 0, .int 0, .int (-4), .int (-4)])), (td, .inr (9, [.int 0, .int 0, .int 5, .ref a1, .ref a2, .ref a3, .ref a4, .ref a5, .ref a6])), (a3, .inl (G 0, 10, .inl u3))] H := hP
  have hD : va_D A [(h0, .inr (5, [.ref tp, .ref td, .int 0, .int 0, .int 0, .int x3, .int x4, .int 0, .int 0, .int 0, .int (-4), .int (-4)])), (td, .inr (9, [.int 0, .int 0, .int 5, .ref a1, .ref a2, .ref a3, .ref a4, .ref a5, .ref a6])), (a3, .inl (G 0, 10, .inl u3))] := hD
  have hP9 := hP.sub (ws' := [(h0, .inr (5, [.ref tp, .ref td, .int 0, .int 0, .int 0, .int x3, .int x4, .int 0, .int 0, .int 0, .int (-4), .int (-4)])), (td, .inr (9, [.int 0, .int 0, .int 5, .ref a1, .ref a2, .ref a3, .ref a4, .ref a5, .ref a6])), (a3, .inl (G 0, 10, .inl u3))]) [0, 1, 2] rfl
  have hD9 := hD.sub (ws' := [(h0, .inr (5, [.ref tp, .ref td, .int 0, .int 0, .int 0, .int x3, .int x4, .int 0, .int 0, .int 0, .int (-4), .int (-4)])), (td, .inr (9, [.int 0, .int 0, .int 5, .ref a1, .ref a2, .ref a3, .ref a4, .ref a5, .ref a6])), (a3, .inl (G 0, 10, .inl u3))]) [0, 1, 2] (by decide) rfl
  refine W.widen (k := 0) (n := 0) (by omega) (by omega) ?_
  exact W.vret hx hb hr (fun t ht hW => ⟨⟨u3, rfl, (by exact w2), ⟨by rw [ht]; exact hP9, hD9⟩⟩, hS.F ht⟩) hS.2.2 dX5_begin_49

set_option maxHeartbeats 1000000 in
set_option maxRecDepth 100000 in
theorem c_X5_lookBehindAllE (l : Launch) (dC : Nat → ClassId) (dI : Nat → Nat → Nat) (G : Nat → ClassId) (sz : Nat) (h0 tp td ta T F P a1 a2 a3 a4 a5 a6 N B D : Nat) (x0 x1 x2 x3 x6 x7 x8 x9 : Int32) (hF : F ≤ P) (hP0 : P ≤ T) (hT : T ≤ 320) (hN_N : N ≤ 10) (hB_B : B ≤ 6) (hD_D : 1 ≤ D ∧ D ≤ 9) : Met l yX5_lookBehindAll (Cond.code yX5_lookBehindAll cX5_lookBehindAll 1 none :: GT) ({ frames := 1, cells := 0, slots := 0, locals := 22 } : Room) (PcW [.ref h0] dC dI G [(h0, .inr (5, [.ref tp, .ref td, .int x0, .int x1, .int x2, .int x3, .int (nI F), .int (nI P), .int x6, .int x7, .int x8, .int x9])), (tp, .inr (7, [.int (nI T), .ref ta])), (td, .inr (9, [.int (nI N), .int (nI B), .int (nI D), .ref a1, .ref a2, .ref a3, .ref a4, .ref a5, .ref a6]))] sz) (va_Qv (fun (u : Int32 × Int32) => match u with | (u0, u1) => (u0, u1, x3, F, P) = cLB T (x0, x1, x3, F, P) x8 x9 N B) (fun (u : Int32 × Int32) (t : State) => match u with | (u0, u1) => va_P (dC, dI) vwCl [(h0, .inr (5, [.ref tp, .ref td, .int u0, .int u1, .int x2, .int x3, .int (nI F), .int (nI P), .int x6, .int x7, .int x8, .int x9])), (tp, .inr (7, [.int (nI T), .ref ta])), (td, .inr (9, [.int (nI N), .int (nI B), .int (nI D), .ref a1, .ref a2, .ref a3, .ref a4, .ref a5, .ref a6]))] t.heap ∧ va_D (va_A [(h0, .inr (5, [.ref tp, .ref td, .int x0, .int x1, .int x2, .int x3, .int (nI F), .int (nI P), .int x6, .int x7, .int x8, .int x9])), (tp, .inr (7, [.int (nI T), .ref ta])), (td, .inr (9, [.int (nI N), .int (nI B), .int (nI D), .ref a1, .ref a2, .ref a3, .ref a4, .ref a5, .ref a6]))] sz) [(h0, .inr (5, [.ref tp, .ref td, .int u0, .int u1, .int x2, .int x3, .int (nI F), .int (nI P), .int x6, .int x7, .int x8, .int x9])), (tp, .inr (7, [.int (nI T), .ref ta])), (td, .inr (9, [.int (nI N), .int (nI B), .int (nI D), .ref a1, .ref a2, .ref a3, .ref a4, .ref a5, .ref a6]))]) (va_A [(h0, .inr (5, [.ref tp, .ref td, .int x0, .int x1, .int x2, .int x3, .int (nI F), .int (nI P), .int x6, .int x7, .int x8, .int x9])), (tp, .inr (7, [.int (nI T), .ref ta])), (td, .inr (9, [.int (nI N), .int (nI B), .int (nI D), .ref a1, .ref a2, .ref a3, .ref a4, .ref a5, .ref a6]))] sz)) 0 0 (va_A [(h0, .inr (5, [.ref tp, .ref td, .int x0, .int x1, .int x2, .int x3, .int (nI F), .int (nI P), .int x6, .int x7, .int x8, .int x9])), (tp, .inr (7, [.int (nI T), .ref ta])), (td, .inr (9, [.int (nI N), .int (nI B), .int (nI D), .ref a1, .ref a2, .ref a3, .ref a4, .ref a5, .ref a6]))] sz) := by
  refine Met.ofW (cc := cX5_lookBehindAll) (maxL := 1) (ret := none) (by decide) rfl ?_
  intro p e s m args below meth c s₁ Bd hml hv
  obtain ⟨rfl, hsz, hP, hK, hD0⟩ := hv
  have hx := Bd.exec
  have hb := Bd.bytes
  have hr := Bd.returns
  have hg : ∀ w ∈ GT, w.before ([.ref h0] : List Value).toArray s = true := fun w h => atoms_spec (ws := Cond.code yX5_lookBehindAll cX5_lookBehindAll 1 none :: GT) Bd.pre w (List.mem_cons_of_mem _ h)
  have hown : s.vm.findClass RX5 = some m.cls := findClass_of_methodNamed Bd.named
  have hlocks := Bd.notSynchronized
  subst hsz
  have hD := hD0.self (sz := s.heap.size)
  generalize hAe : va_A [(h0, .inr (5, [.ref tp, .ref td, .int x0, .int x1, .int x2, .int x3, .int (nI F), .int (nI P), .int x6, .int x7, .int x8, .int x9])), (tp, .inr (7, [.int (nI T), .ref ta])), (td, .inr (9, [.int (nI N), .int (nI B), .int (nI D), .ref a1, .ref a2, .ref a3, .ref a4, .ref a5, .ref a6]))] s.heap.size = A at hD ⊢
  have hA : ∀ q : Nat, s.heap.size ≤ q → A q := fun q h => by rw [← hAe]; exact Or.inr h
  have hS : va_S A s.heap s.heap [] := va_S.rf
  have hl := lv_entry ([.ref h0]) (n := 1) (Nat.le_of_ble_eq_true rfl)
  rw [lg_entry_eq]
  generalize (lg_sl ([.ref h0]) ++ List.replicate (1 - (lg_sl ([.ref h0])).length) Slot.unset).toArray = ls at hl ⊢
  have hl : lv_has ls 1 [(0, .ref h0)] := hl
  refine lv_aload_n hx hb dX5_lookBehindAll_0 rfl (lv_at hl 0 rfl) ?_
  refine va_get (D := (dC, dI)) (ci := 5) (v := .int x8) (C := RX5) (T := TX5) (N := 12) hx hb hg inG5 hown hK.1 hP 0 rfl rfl 10 (by decide) (hg _ wt_120) (fun _ h9 => h9) rfl dX5_lookBehindAll_1 ?_
  refine lv_aload_n hx hb dX5_lookBehindAll_4 rfl (lv_at hl 0 rfl) ?_
  refine va_get (D := (dC, dI)) (ci := 5) (v := .ref td) (C := RX5) (T := TX5) (N := 12) hx hb hg inG5 hown hK.1 hP 0 rfl rfl 1 (by decide) (hg _ wt_107) (fun _ h9 => h9) rfl dX5_lookBehindAll_5 ?_
  refine va_getN (D := (dC, dI)) (ci := 9) (v := .int (nI N)) (C := RX9) (T := TX9) (N := 9) hx hb hg inG9 hown hK.1 hP 2 rfl rfl 0 (by decide) (hK.nest wn_61) (fun _ h9 => h9) rfl dX5_lookBehindAll_8 ?_
  refine lv_icmp_ge (tgt := 28) hx hb dX5_lookBehindAll_11 (by decide) (fun c1 => ?_) (fun c1 => ?_)
  · skip
    refine lv_aload_n hx hb dX5_lookBehindAll_28 rfl (lv_at hl 0 rfl) ?_
    refine lv_bipush (v := 6) hx hb dX5_lookBehindAll_29 (by decide) ?_
    refine lv_aload_n hx hb dX5_lookBehindAll_31 rfl (lv_at hl 0 rfl) ?_
    refine va_get (D := (dC, dI)) (ci := 5) (v := .ref tp) (C := RX5) (T := TX5) (N := 12) hx hb hg inG5 hown hK.1 hP 0 rfl rfl 0 (by decide) (hg _ wt_105) (fun _ h9 => h9) rfl dX5_lookBehindAll_32 ?_
    refine va_getN (D := (dC, dI)) (ci := 7) (v := .int (nI T)) (C := RX7) (T := TX7) (N := 2) hx hb hg inG7 hown hK.1 hP 1 rfl rfl 0 (by decide) (hK.nest wn_41) (fun _ h9 => h9) rfl dX5_lookBehindAll_35 ?_
    have hPc := hP.sub (ws' := [(h0, .inr (5, [.ref tp, .ref td, .int x0, .int x1, .int x2, .int x3, .int (nI F), .int (nI P), .int x6, .int x7, .int x8, .int x9]))]) [0] rfl
    have hDc := hD.sub (ws' := [(h0, .inr (5, [.ref tp, .ref td, .int x0, .int x1, .int x2, .int x3, .int (nI F), .int (nI P), .int x6, .int x7, .int x8, .int x9]))]) [0] (by decide) rfl
    have hFc := va_free (wc := [(h0, .inr (5, [.ref tp, .ref td, .int x0, .int x1, .int x2, .int x3, .int (nI F), .int (nI P), .int x6, .int x7, .int x8, .int x9]))]) hD hS hA [0] rfl
    refine va_calli (va_runV (As := [.int 6, .int (nI T)]) (rest := []) ⟨hx, hb, hml, hown, hg⟩ (c_X5_refuseE l dC dI G _ h0 tp td x0 x1 x2 x3 (nI F) (nI P) x6 x7 x8 x9 6 (nI T) ) (kwV hg mfX5_refuse wt_386 ⟨Nat.le_of_ble_eq_true rfl, Nat.le_of_ble_eq_true rfl⟩) (preVW hK hPc hDc (ci := 5) rfl rfl) rfl rfl hl.1 rfl (lv_room (Nat.le_of_ble_eq_true rfl)) dX5_lookBehindAll_38 ⟨Nat.le_of_ble_eq_true rfl, Nat.le_of_ble_eq_true rfl⟩) hS (fun q _ h => hFc q h) hFc (fun r2 ur2 t H1 locs ht hvm w3 hB hz1 hk1 hS => ?_)
    obtain ⟨u4, u5⟩ := ur2
    obtain ⟨hP1, hD1⟩ := hB
    rw [ht] at hP1
    obtain ⟨hP, hD⟩ := va_join (wr := [(tp, .inr (7, [.int (nI T), .ref ta])), (td, .inr (9, [.int (nI N), .int (nI B), .int (nI D), .ref a1, .ref a2, .ref a3, .ref a4, .ref a5, .ref a6]))]) (w1 := [(h0, .inr (5, [.ref tp, .ref td, .int u4, .int u5, .int x2, .int x3, .int (nI F), .int (nI P), .int x6, .int x7, .int x8, .int x9]))]) hP hD [0] [1, 2] rfl rfl (by decide) (by decide) hk1 hFc hP1 hD1
    generalize H1 = H at hP hS ⊢
    have hP : va_P (dC, dI) vwCl [(tp, .inr (7, [.int (nI T), .ref ta])), (td, .inr (9, [.int (nI N), .int (nI B), .int (nI D), .ref a1, .ref a2, .ref a3, .ref a4, .ref a5, .ref a6])), (h0, .inr (5, [.ref tp, .ref td, .int u4, .int u5, .int x2, .int x3, .int (nI F), .int (nI P), .int x6, .int x7, .int x8, .int x9]))] H := hP
    have hD : va_D A [(tp, .inr (7, [.int (nI T), .ref ta])), (td, .inr (9, [.int (nI N), .int (nI B), .int (nI D), .ref a1, .ref a2, .ref a3, .ref a4, .ref a5, .ref a6])), (h0, .inr (5, [.ref tp, .ref td, .int u4, .int u5, .int x2, .int x3, .int (nI F), .int (nI P), .int x6, .int x7, .int x8, .int x9]))] := hD
    obtain ⟨w3, w3x⟩ := w3
    subst w3
    have ew3 : cRT 6 T (x0, x1, x3, F, P) = (u4, u5, x3, F, P) := (by show (flB _ _, flP _ _ _, _, _, _) = _; rw [← w3x.1, ← w3x.2])
    refine lv_pop hx hb dX5_lookBehindAll_41 rfl ?_
    refine lv_goto (tgt := 79) hx hb dX5_lookBehindAll_42 (by decide) ?_
    have hP9 := hP.sub (ws' := [(h0, .inr (5, [.ref tp, .ref td, .int u4, .int u5, .int x2, .int x3, .int (nI F), .int (nI P), .int x6, .int x7, .int x8, .int x9])), (tp, .inr (7, [.int (nI T), .ref ta])), (td, .inr (9, [.int (nI N), .int (nI B), .int (nI D), .ref a1, .ref a2, .ref a3, .ref a4, .ref a5, .ref a6]))]) [2, 0, 1] rfl
    have hD9 := hD.sub (ws' := [(h0, .inr (5, [.ref tp, .ref td, .int u4, .int u5, .int x2, .int x3, .int (nI F), .int (nI P), .int x6, .int x7, .int x8, .int x9])), (tp, .inr (7, [.int (nI T), .ref ta])), (td, .inr (9, [.int (nI N), .int (nI B), .int (nI D), .ref a1, .ref a2, .ref a3, .ref a4, .ref a5, .ref a6]))]) [2, 0, 1] (by decide) rfl
    refine W.widen (k := 0) (n := 0) (by omega) (by omega) ?_
    exact W.vret hx hb hr (fun t ht hW => ⟨⟨(u4, u5), rfl, (by have t_c1 := leI c1; have t_n0 : (nI F).toInt = (F : Int) := nI_toInt (by omega); have t_n1 : (nI P).toInt = (P : Int) := nI_toInt (by omega); have t_n2 : (nI T).toInt = (T : Int) := nI_toInt (by omega); have t_n3 : (nI N).toInt = (N : Int) := nI_toInt (by omega); have t_n4 : (nI B).toInt = (B : Int) := nI_toInt (by omega); have t_n5 : (nI D).toInt = (D : Int) := nI_toInt (by omega); have z0 : (0 : Int32).toInt = 0 := (by decide); have z1 : (1 : Int32).toInt = 1 := (by decide); have z2 : (2 : Int32).toInt = 2 := (by decide); have z3 : (3 : Int32).toInt = 3 := (by decide); have z5 : (5 : Int32).toInt = 5 := (by decide); have z9 : (9 : Int32).toInt = 9 := (by decide); unfold cLB; (try (repeat (first | rw [if_pos (by assumption)] | rw [if_neg (by assumption)] | rw [if_pos (by omega)] | rw [if_neg (by omega)] | rw [if_pos (by decide)] | rw [if_neg (by decide)]))); (try rw [ew3]); all_goals rfl), ⟨by rw [ht]; exact hP9, hD9⟩⟩, hS.F ht⟩) hS.2.2 dX5_lookBehindAll_79
  · skip
    refine lv_aload_n hx hb dX5_lookBehindAll_14 rfl (lv_at hl 0 rfl) ?_
    refine va_get (D := (dC, dI)) (ci := 5) (v := .int x9) (C := RX5) (T := TX5) (N := 12) hx hb hg inG5 hown hK.1 hP 0 rfl rfl 11 (by decide) (hg _ wt_121) (fun _ h9 => h9) rfl dX5_lookBehindAll_15 ?_
    refine lv_aload_n hx hb dX5_lookBehindAll_18 rfl (lv_at hl 0 rfl) ?_
    refine va_get (D := (dC, dI)) (ci := 5) (v := .ref td) (C := RX5) (T := TX5) (N := 12) hx hb hg inG5 hown hK.1 hP 0 rfl rfl 1 (by decide) (hg _ wt_107) (fun _ h9 => h9) rfl dX5_lookBehindAll_19 ?_
    refine va_getN (D := (dC, dI)) (ci := 9) (v := .int (nI B)) (C := RX9) (T := TX9) (N := 9) hx hb hg inG9 hown hK.1 hP 2 rfl rfl 1 (by decide) (hK.nest wn_65) (fun _ h9 => h9) rfl dX5_lookBehindAll_22 ?_
    refine lv_icmp_lt (tgt := 45) hx hb dX5_lookBehindAll_25 (by decide) (fun c6 => ?_) (fun c6 => ?_)
    · skip
      refine lv_aload_n hx hb dX5_lookBehindAll_45 rfl (lv_at hl 0 rfl) ?_
      refine va_get (D := (dC, dI)) (ci := 5) (v := .ref td) (C := RX5) (T := TX5) (N := 12) hx hb hg inG5 hown hK.1 hP 0 rfl rfl 1 (by decide) (hg _ wt_107) (fun _ h9 => h9) rfl dX5_lookBehindAll_46 ?_
      refine va_getN (D := (dC, dI)) (ci := 9) (v := .int (nI N)) (C := RX9) (T := TX9) (N := 9) hx hb hg inG9 hown hK.1 hP 2 rfl rfl 0 (by decide) (hK.nest wn_61) (fun _ h9 => h9) rfl dX5_lookBehindAll_49 ?_
      refine lv_if_le (tgt := 79) hx hb dX5_lookBehindAll_52 (by decide) (fun c7 => ?_) (fun c7 => ?_)
      · skip
        have n8 : N ≤ 0 := by have t := leI c7; rw [nI_toInt (n := N) (by omega)] at t; have : (0 : Int32).toInt = 0 := (by decide); omega
        have hP9 := hP.sub (ws' := [(h0, .inr (5, [.ref tp, .ref td, .int x0, .int x1, .int x2, .int x3, .int (nI F), .int (nI P), .int x6, .int x7, .int x8, .int x9])), (tp, .inr (7, [.int (nI T), .ref ta])), (td, .inr (9, [.int (nI N), .int (nI B), .int (nI D), .ref a1, .ref a2, .ref a3, .ref a4, .ref a5, .ref a6]))]) [0, 1, 2] rfl
        have hD9 := hD.sub (ws' := [(h0, .inr (5, [.ref tp, .ref td, .int x0, .int x1, .int x2, .int x3, .int (nI F), .int (nI P), .int x6, .int x7, .int x8, .int x9])), (tp, .inr (7, [.int (nI T), .ref ta])), (td, .inr (9, [.int (nI N), .int (nI B), .int (nI D), .ref a1, .ref a2, .ref a3, .ref a4, .ref a5, .ref a6]))]) [0, 1, 2] (by decide) rfl
        refine W.widen (k := 0) (n := 0) (by omega) (by omega) ?_
        exact W.vret hx hb hr (fun t ht hW => ⟨⟨(x0, x1), rfl, (by have t_c1 := nleI c1; have t_c6 := ltI c6; have t_n8 := n8; have t_n0 : (nI F).toInt = (F : Int) := nI_toInt (by omega); have t_n1 : (nI P).toInt = (P : Int) := nI_toInt (by omega); have t_n2 : (nI T).toInt = (T : Int) := nI_toInt (by omega); have t_n3 : (nI N).toInt = (N : Int) := nI_toInt (by omega); have t_n4 : (nI B).toInt = (B : Int) := nI_toInt (by omega); have t_n5 : (nI D).toInt = (D : Int) := nI_toInt (by omega); have z0 : (0 : Int32).toInt = 0 := (by decide); have z1 : (1 : Int32).toInt = 1 := (by decide); have z2 : (2 : Int32).toInt = 2 := (by decide); have z3 : (3 : Int32).toInt = 3 := (by decide); have z5 : (5 : Int32).toInt = 5 := (by decide); have z9 : (9 : Int32).toInt = 9 := (by decide); unfold cLB; (try (repeat (first | rw [if_pos (by assumption)] | rw [if_neg (by assumption)] | rw [if_pos (by omega)] | rw [if_neg (by omega)] | rw [if_pos (by decide)] | rw [if_neg (by decide)]))); all_goals rfl), ⟨by rw [ht]; exact hP9, hD9⟩⟩, hS.F ht⟩) hS.2.2 dX5_lookBehindAll_79
      · skip
        have n9 : 0 < N := by have t := nleI c7; rw [nI_toInt (n := N) (by omega)] at t; have : (0 : Int32).toInt = 0 := (by decide); omega
        refine lv_aload_n hx hb dX5_lookBehindAll_55 rfl (lv_at hl 0 rfl) ?_
        refine va_get (D := (dC, dI)) (ci := 5) (v := .ref td) (C := RX5) (T := TX5) (N := 12) hx hb hg inG5 hown hK.1 hP 0 rfl rfl 1 (by decide) (hg _ wt_107) (fun _ h9 => h9) rfl dX5_lookBehindAll_56 ?_
        refine va_getN (D := (dC, dI)) (ci := 9) (v := .int (nI B)) (C := RX9) (T := TX9) (N := 9) hx hb hg inG9 hown hK.1 hP 2 rfl rfl 1 (by decide) (hK.nest wn_65) (fun _ h9 => h9) rfl dX5_lookBehindAll_59 ?_
        refine lv_if_ne (tgt := 79) hx hb dX5_lookBehindAll_62 (by decide) (fun c10 => ?_) (fun c10 => ?_)
        · skip
          have n11 : B ≠ 0 := by have t := neI c10; rw [nI_toInt (n := B) (by omega)] at t; have : (0 : Int32).toInt = 0 := (by decide); omega
          have hP9 := hP.sub (ws' := [(h0, .inr (5, [.ref tp, .ref td, .int x0, .int x1, .int x2, .int x3, .int (nI F), .int (nI P), .int x6, .int x7, .int x8, .int x9])), (tp, .inr (7, [.int (nI T), .ref ta])), (td, .inr (9, [.int (nI N), .int (nI B), .int (nI D), .ref a1, .ref a2, .ref a3, .ref a4, .ref a5, .ref a6]))]) [0, 1, 2] rfl
          have hD9 := hD.sub (ws' := [(h0, .inr (5, [.ref tp, .ref td, .int x0, .int x1, .int x2, .int x3, .int (nI F), .int (nI P), .int x6, .int x7, .int x8, .int x9])), (tp, .inr (7, [.int (nI T), .ref ta])), (td, .inr (9, [.int (nI N), .int (nI B), .int (nI D), .ref a1, .ref a2, .ref a3, .ref a4, .ref a5, .ref a6]))]) [0, 1, 2] (by decide) rfl
          refine W.widen (k := 0) (n := 0) (by omega) (by omega) ?_
          exact W.vret hx hb hr (fun t ht hW => ⟨⟨(x0, x1), rfl, (by have t_c1 := nleI c1; have t_c6 := ltI c6; have t_n9 := n9; have t_n11 := n11; have t_n0 : (nI F).toInt = (F : Int) := nI_toInt (by omega); have t_n1 : (nI P).toInt = (P : Int) := nI_toInt (by omega); have t_n2 : (nI T).toInt = (T : Int) := nI_toInt (by omega); have t_n3 : (nI N).toInt = (N : Int) := nI_toInt (by omega); have t_n4 : (nI B).toInt = (B : Int) := nI_toInt (by omega); have t_n5 : (nI D).toInt = (D : Int) := nI_toInt (by omega); have z0 : (0 : Int32).toInt = 0 := (by decide); have z1 : (1 : Int32).toInt = 1 := (by decide); have z2 : (2 : Int32).toInt = 2 := (by decide); have z3 : (3 : Int32).toInt = 3 := (by decide); have z5 : (5 : Int32).toInt = 5 := (by decide); have z9 : (9 : Int32).toInt = 9 := (by decide); unfold cLB; (try (repeat (first | rw [if_pos (by assumption)] | rw [if_neg (by assumption)] | rw [if_pos (by omega)] | rw [if_neg (by omega)] | rw [if_pos (by decide)] | rw [if_neg (by decide)]))); all_goals rfl), ⟨by rw [ht]; exact hP9, hD9⟩⟩, hS.F ht⟩) hS.2.2 dX5_lookBehindAll_79
        · skip
          have n12 : B = 0 := by have t := eqI c10; rw [nI_toInt (n := B) (by omega)] at t; have : (0 : Int32).toInt = 0 := (by decide); omega
          refine lv_aload_n hx hb dX5_lookBehindAll_65 rfl (lv_at hl 0 rfl) ?_
          refine lv_bipush (v := 7) hx hb dX5_lookBehindAll_66 (by decide) ?_
          refine lv_aload_n hx hb dX5_lookBehindAll_68 rfl (lv_at hl 0 rfl) ?_
          refine va_get (D := (dC, dI)) (ci := 5) (v := .ref tp) (C := RX5) (T := TX5) (N := 12) hx hb hg inG5 hown hK.1 hP 0 rfl rfl 0 (by decide) (hg _ wt_105) (fun _ h9 => h9) rfl dX5_lookBehindAll_69 ?_
          refine va_getN (D := (dC, dI)) (ci := 7) (v := .int (nI T)) (C := RX7) (T := TX7) (N := 2) hx hb hg inG7 hown hK.1 hP 1 rfl rfl 0 (by decide) (hK.nest wn_41) (fun _ h9 => h9) rfl dX5_lookBehindAll_72 ?_
          have hPc := hP.sub (ws' := [(h0, .inr (5, [.ref tp, .ref td, .int x0, .int x1, .int x2, .int x3, .int (nI F), .int (nI P), .int x6, .int x7, .int x8, .int x9]))]) [0] rfl
          have hDc := hD.sub (ws' := [(h0, .inr (5, [.ref tp, .ref td, .int x0, .int x1, .int x2, .int x3, .int (nI F), .int (nI P), .int x6, .int x7, .int x8, .int x9]))]) [0] (by decide) rfl
          have hFc := va_free (wc := [(h0, .inr (5, [.ref tp, .ref td, .int x0, .int x1, .int x2, .int x3, .int (nI F), .int (nI P), .int x6, .int x7, .int x8, .int x9]))]) hD hS hA [0] rfl
          refine va_calli (va_runV (As := [.int 7, .int (nI T)]) (rest := []) ⟨hx, hb, hml, hown, hg⟩ (c_X5_refuseE l dC dI G _ h0 tp td x0 x1 x2 x3 (nI F) (nI P) x6 x7 x8 x9 7 (nI T) ) (kwV hg mfX5_refuse wt_386 ⟨Nat.le_of_ble_eq_true rfl, Nat.le_of_ble_eq_true rfl⟩) (preVW hK hPc hDc (ci := 5) rfl rfl) rfl rfl hl.1 rfl (lv_room (Nat.le_of_ble_eq_true rfl)) dX5_lookBehindAll_75 ⟨Nat.le_of_ble_eq_true rfl, Nat.le_of_ble_eq_true rfl⟩) hS (fun q _ h => hFc q h) hFc (fun r13 ur13 t H1 locs ht hvm w14 hB hz1 hk1 hS => ?_)
          obtain ⟨u15, u16⟩ := ur13
          obtain ⟨hP1, hD1⟩ := hB
          rw [ht] at hP1
          obtain ⟨hP, hD⟩ := va_join (wr := [(tp, .inr (7, [.int (nI T), .ref ta])), (td, .inr (9, [.int (nI N), .int (nI B), .int (nI D), .ref a1, .ref a2, .ref a3, .ref a4, .ref a5, .ref a6]))]) (w1 := [(h0, .inr (5, [.ref tp, .ref td, .int u15, .int u16, .int x2, .int x3, .int (nI F), .int (nI P), .int x6, .int x7, .int x8, .int x9]))]) hP hD [0] [1, 2] rfl rfl (by decide) (by decide) hk1 hFc hP1 hD1
          generalize H1 = H at hP hS ⊢
          have hP : va_P (dC, dI) vwCl [(tp, .inr (7, [.int (nI T), .ref ta])), (td, .inr (9, [.int (nI N), .int (nI B), .int (nI D), .ref a1, .ref a2, .ref a3, .ref a4, .ref a5, .ref a6])), (h0, .inr (5, [.ref tp, .ref td, .int u15, .int u16, .int x2, .int x3, .int (nI F), .int (nI P), .int x6, .int x7, .int x8, .int x9]))] H := hP
          have hD : va_D A [(tp, .inr (7, [.int (nI T), .ref ta])), (td, .inr (9, [.int (nI N), .int (nI B), .int (nI D), .ref a1, .ref a2, .ref a3, .ref a4, .ref a5, .ref a6])), (h0, .inr (5, [.ref tp, .ref td, .int u15, .int u16, .int x2, .int x3, .int (nI F), .int (nI P), .int x6, .int x7, .int x8, .int x9]))] := hD
          obtain ⟨w14, w14x⟩ := w14
          subst w14
          have ew14 : cRT 7 T (x0, x1, x3, F, P) = (u15, u16, x3, F, P) := (by show (flB _ _, flP _ _ _, _, _, _) = _; rw [← w14x.1, ← w14x.2])
          refine lv_pop hx hb dX5_lookBehindAll_78 rfl ?_
          have hP9 := hP.sub (ws' := [(h0, .inr (5, [.ref tp, .ref td, .int u15, .int u16, .int x2, .int x3, .int (nI F), .int (nI P), .int x6, .int x7, .int x8, .int x9])), (tp, .inr (7, [.int (nI T), .ref ta])), (td, .inr (9, [.int (nI N), .int (nI B), .int (nI D), .ref a1, .ref a2, .ref a3, .ref a4, .ref a5, .ref a6]))]) [2, 0, 1] rfl
          have hD9 := hD.sub (ws' := [(h0, .inr (5, [.ref tp, .ref td, .int u15, .int u16, .int x2, .int x3, .int (nI F), .int (nI P), .int x6, .int x7, .int x8, .int x9])), (tp, .inr (7, [.int (nI T), .ref ta])), (td, .inr (9, [.int (nI N), .int (nI B), .int (nI D), .ref a1, .ref a2, .ref a3, .ref a4, .ref a5, .ref a6]))]) [2, 0, 1] (by decide) rfl
          refine W.widen (k := 0) (n := 0) (by omega) (by omega) ?_
          exact W.vret hx hb hr (fun t ht hW => ⟨⟨(u15, u16), rfl, (by have t_c1 := nleI c1; have t_c6 := ltI c6; have t_n9 := n9; have t_n12 := n12; have t_n0 : (nI F).toInt = (F : Int) := nI_toInt (by omega); have t_n1 : (nI P).toInt = (P : Int) := nI_toInt (by omega); have t_n2 : (nI T).toInt = (T : Int) := nI_toInt (by omega); have t_n3 : (nI N).toInt = (N : Int) := nI_toInt (by omega); have t_n4 : (nI B).toInt = (B : Int) := nI_toInt (by omega); have t_n5 : (nI D).toInt = (D : Int) := nI_toInt (by omega); have z0 : (0 : Int32).toInt = 0 := (by decide); have z1 : (1 : Int32).toInt = 1 := (by decide); have z2 : (2 : Int32).toInt = 2 := (by decide); have z3 : (3 : Int32).toInt = 3 := (by decide); have z5 : (5 : Int32).toInt = 5 := (by decide); have z9 : (9 : Int32).toInt = 9 := (by decide); unfold cLB; (try (repeat (first | rw [if_pos (by assumption)] | rw [if_neg (by assumption)] | rw [if_pos (by omega)] | rw [if_neg (by omega)] | rw [if_pos (by decide)] | rw [if_neg (by decide)]))); (try rw [ew14]); all_goals rfl), ⟨by rw [ht]; exact hP9, hD9⟩⟩, hS.F ht⟩) hS.2.2 dX5_lookBehindAll_79
    · skip
      refine lv_aload_n hx hb dX5_lookBehindAll_28 rfl (lv_at hl 0 rfl) ?_
      refine lv_bipush (v := 6) hx hb dX5_lookBehindAll_29 (by decide) ?_
      refine lv_aload_n hx hb dX5_lookBehindAll_31 rfl (lv_at hl 0 rfl) ?_
      refine va_get (D := (dC, dI)) (ci := 5) (v := .ref tp) (C := RX5) (T := TX5) (N := 12) hx hb hg inG5 hown hK.1 hP 0 rfl rfl 0 (by decide) (hg _ wt_105) (fun _ h9 => h9) rfl dX5_lookBehindAll_32 ?_
      refine va_getN (D := (dC, dI)) (ci := 7) (v := .int (nI T)) (C := RX7) (T := TX7) (N := 2) hx hb hg inG7 hown hK.1 hP 1 rfl rfl 0 (by decide) (hK.nest wn_41) (fun _ h9 => h9) rfl dX5_lookBehindAll_35 ?_
      have hPc := hP.sub (ws' := [(h0, .inr (5, [.ref tp, .ref td, .int x0, .int x1, .int x2, .int x3, .int (nI F), .int (nI P), .int x6, .int x7, .int x8, .int x9]))]) [0] rfl
      have hDc := hD.sub (ws' := [(h0, .inr (5, [.ref tp, .ref td, .int x0, .int x1, .int x2, .int x3, .int (nI F), .int (nI P), .int x6, .int x7, .int x8, .int x9]))]) [0] (by decide) rfl
      have hFc := va_free (wc := [(h0, .inr (5, [.ref tp, .ref td, .int x0, .int x1, .int x2, .int x3, .int (nI F), .int (nI P), .int x6, .int x7, .int x8, .int x9]))]) hD hS hA [0] rfl
      refine va_calli (va_runV (As := [.int 6, .int (nI T)]) (rest := []) ⟨hx, hb, hml, hown, hg⟩ (c_X5_refuseE l dC dI G _ h0 tp td x0 x1 x2 x3 (nI F) (nI P) x6 x7 x8 x9 6 (nI T) ) (kwV hg mfX5_refuse wt_386 ⟨Nat.le_of_ble_eq_true rfl, Nat.le_of_ble_eq_true rfl⟩) (preVW hK hPc hDc (ci := 5) rfl rfl) rfl rfl hl.1 rfl (lv_room (Nat.le_of_ble_eq_true rfl)) dX5_lookBehindAll_38 ⟨Nat.le_of_ble_eq_true rfl, Nat.le_of_ble_eq_true rfl⟩) hS (fun q _ h => hFc q h) hFc (fun r17 ur17 t H1 locs ht hvm w18 hB hz1 hk1 hS => ?_)
      obtain ⟨u19, u20⟩ := ur17
      obtain ⟨hP1, hD1⟩ := hB
      rw [ht] at hP1
      obtain ⟨hP, hD⟩ := va_join (wr := [(tp, .inr (7, [.int (nI T), .ref ta])), (td, .inr (9, [.int (nI N), .int (nI B), .int (nI D), .ref a1, .ref a2, .ref a3, .ref a4, .ref a5, .ref a6]))]) (w1 := [(h0, .inr (5, [.ref tp, .ref td, .int u19, .int u20, .int x2, .int x3, .int (nI F), .int (nI P), .int x6, .int x7, .int x8, .int x9]))]) hP hD [0] [1, 2] rfl rfl (by decide) (by decide) hk1 hFc hP1 hD1
      generalize H1 = H at hP hS ⊢
      have hP : va_P (dC, dI) vwCl [(tp, .inr (7, [.int (nI T), .ref ta])), (td, .inr (9, [.int (nI N), .int (nI B), .int (nI D), .ref a1, .ref a2, .ref a3, .ref a4, .ref a5, .ref a6])), (h0, .inr (5, [.ref tp, .ref td, .int u19, .int u20, .int x2, .int x3, .int (nI F), .int (nI P), .int x6, .int x7, .int x8, .int x9]))] H := hP
      have hD : va_D A [(tp, .inr (7, [.int (nI T), .ref ta])), (td, .inr (9, [.int (nI N), .int (nI B), .int (nI D), .ref a1, .ref a2, .ref a3, .ref a4, .ref a5, .ref a6])), (h0, .inr (5, [.ref tp, .ref td, .int u19, .int u20, .int x2, .int x3, .int (nI F), .int (nI P), .int x6, .int x7, .int x8, .int x9]))] := hD
      obtain ⟨w18, w18x⟩ := w18
      subst w18
      have ew18 : cRT 6 T (x0, x1, x3, F, P) = (u19, u20, x3, F, P) := (by show (flB _ _, flP _ _ _, _, _, _) = _; rw [← w18x.1, ← w18x.2])
      refine lv_pop hx hb dX5_lookBehindAll_41 rfl ?_
      refine lv_goto (tgt := 79) hx hb dX5_lookBehindAll_42 (by decide) ?_
      have hP9 := hP.sub (ws' := [(h0, .inr (5, [.ref tp, .ref td, .int u19, .int u20, .int x2, .int x3, .int (nI F), .int (nI P), .int x6, .int x7, .int x8, .int x9])), (tp, .inr (7, [.int (nI T), .ref ta])), (td, .inr (9, [.int (nI N), .int (nI B), .int (nI D), .ref a1, .ref a2, .ref a3, .ref a4, .ref a5, .ref a6]))]) [2, 0, 1] rfl
      have hD9 := hD.sub (ws' := [(h0, .inr (5, [.ref tp, .ref td, .int u19, .int u20, .int x2, .int x3, .int (nI F), .int (nI P), .int x6, .int x7, .int x8, .int x9])), (tp, .inr (7, [.int (nI T), .ref ta])), (td, .inr (9, [.int (nI N), .int (nI B), .int (nI D), .ref a1, .ref a2, .ref a3, .ref a4, .ref a5, .ref a6]))]) [2, 0, 1] (by decide) rfl
      refine W.widen (k := 0) (n := 0) (by omega) (by omega) ?_
      exact W.vret hx hb hr (fun t ht hW => ⟨⟨(u19, u20), rfl, (by have t_c1 := nleI c1; have t_c6 := nltI c6; have t_n0 : (nI F).toInt = (F : Int) := nI_toInt (by omega); have t_n1 : (nI P).toInt = (P : Int) := nI_toInt (by omega); have t_n2 : (nI T).toInt = (T : Int) := nI_toInt (by omega); have t_n3 : (nI N).toInt = (N : Int) := nI_toInt (by omega); have t_n4 : (nI B).toInt = (B : Int) := nI_toInt (by omega); have t_n5 : (nI D).toInt = (D : Int) := nI_toInt (by omega); have z0 : (0 : Int32).toInt = 0 := (by decide); have z1 : (1 : Int32).toInt = 1 := (by decide); have z2 : (2 : Int32).toInt = 2 := (by decide); have z3 : (3 : Int32).toInt = 3 := (by decide); have z5 : (5 : Int32).toInt = 5 := (by decide); have z9 : (9 : Int32).toInt = 9 := (by decide); unfold cLB; (try (repeat (first | rw [if_pos (by assumption)] | rw [if_neg (by assumption)] | rw [if_pos (by omega)] | rw [if_neg (by omega)] | rw [if_pos (by decide)] | rw [if_neg (by decide)]))); (try rw [ew18]); all_goals rfl), ⟨by rw [ht]; exact hP9, hD9⟩⟩, hS.F ht⟩) hS.2.2 dX5_lookBehindAll_79
