set_option maxHeartbeats 1000000 in
set_option maxRecDepth 100000 in
theorem c_J6_bitCount (l : Launch) (dC : Nat → ClassId) (dI : Nat → Nat → Nat) (G : Nat → ClassId) (sz : Nat) (x1 : Int32)  : Met l yJ6_bitCount_0f7a4 (Cond.code yJ6_bitCount_0f7a4 cJ6_bitCount_0f7a4 1 (some .int) :: GT) ({ frames := 0, cells := 0, slots := 0, locals := 0 } : Room) (PcR [.int x1] dC dI G [] sz) (va_Qi (fun (r : Int32) (u : Unit) => match u with | _ => (True) ∧ True) (fun _ _ => True) (fun q : Nat => sz ≤ q)) 0 0 (fun q : Nat => sz ≤ q) := by
  refine va_MetF (cc := cJ6_bitCount_0f7a4) (maxL := 1) (ret := (some .int)) (by decide +kernel) rfl ?_
  intro p e s m args below meth c s₁ Bd hml hv
  obtain ⟨rfl, hsz, hP, hK⟩ := hv
  have hx := Bd.exec
  have hb := Bd.bytes
  have hr := Bd.returns
  have hg : ∀ w ∈ GT, w.before ([.int x1] : List Value).toArray s = true := fun w h => atoms_spec (ws := Cond.code yJ6_bitCount_0f7a4 cJ6_bitCount_0f7a4 1 (some .int) :: GT) Bd.pre w (List.mem_cons_of_mem _ h)
  have hown : s.vm.findClass RJ6 = some m.cls := findClass_of_methodNamed Bd.named
  have hlocks := Bd.notSynchronized
  subst hsz
  have hA : ∀ q : Nat, s.heap.size ≤ q → (fun q : Nat => s.heap.size ≤ q) q := fun _ h => h
  have hS : va_S (fun q : Nat => s.heap.size ≤ q) s.heap s.heap [] := va_S.rf
  have hl := lv_entry ([.int x1]) (n := 1) (Nat.le_of_ble_eq_true rfl)
  rw [lg_entry_eq]
  generalize (lg_sl ([.int x1]) ++ List.replicate (1 - (lg_sl ([.int x1])).length) Slot.unset).toArray = ls at hl ⊢
  have hl : lv_has ls 1 [(0, .int x1)] := hl
  refine lv_iload_n hx hb dJ6_bitCount_0f7a4_0 rfl (lv_at hl 0 rfl) ?_
  refine lv_iload_n hx hb dJ6_bitCount_0f7a4_1 rfl (lv_at hl 0 rfl) ?_
  refine lv_iconst (v := 1) hx hb dJ6_bitCount_0f7a4_2 rfl ?_
  refine lv_iushr (v := _) hx hb dJ6_bitCount_0f7a4_3 rfl ?_
  refine lv_topi (fun v1 ev1 => ?_)
  refine lv_ldcw (v := 1431655765) hx hb hown (hg _ wt_700) dJ6_bitCount_0f7a4_4 ?_
  refine lv_iand hx hb dJ6_bitCount_0f7a4_7 ?_
  refine lv_isub hx hb dJ6_bitCount_0f7a4_8 ?_
  refine lv_istore_n (lv' := [(0, .int (x1 - (v1 &&& 1431655765)))]) hx hb dJ6_bitCount_0f7a4_9 rfl hl (by decide) rfl (fun ls hl => ?_)
  refine lv_iload_n hx hb dJ6_bitCount_0f7a4_10 rfl (lv_at hl 0 rfl) ?_
  refine lv_ldcw (v := 858993459) hx hb hown (hg _ wt_701) dJ6_bitCount_0f7a4_11 ?_
  refine lv_iand hx hb dJ6_bitCount_0f7a4_14 ?_
  refine lv_topi (fun v2 ev2 => ?_)
  refine lv_iload_n hx hb dJ6_bitCount_0f7a4_15 rfl (lv_at hl 0 rfl) ?_
  refine lv_iconst (v := 2) hx hb dJ6_bitCount_0f7a4_16 rfl ?_
  refine lv_iushr (v := _) hx hb dJ6_bitCount_0f7a4_17 rfl ?_
  refine lv_topi (fun v3 ev3 => ?_)
  refine lv_ldcw (v := 858993459) hx hb hown (hg _ wt_701) dJ6_bitCount_0f7a4_18 ?_
  refine lv_iand hx hb dJ6_bitCount_0f7a4_21 ?_
  refine lv_iadd hx hb dJ6_bitCount_0f7a4_22 ?_
  refine lv_istore_n (lv' := [(0, .int (v2 + (v3 &&& 858993459)))]) hx hb dJ6_bitCount_0f7a4_23 rfl hl (by decide) rfl (fun ls hl => ?_)
  refine lv_iload_n hx hb dJ6_bitCount_0f7a4_24 rfl (lv_at hl 0 rfl) ?_
  refine lv_iload_n hx hb dJ6_bitCount_0f7a4_25 rfl (lv_at hl 0 rfl) ?_
  refine lv_iconst (v := 4) hx hb dJ6_bitCount_0f7a4_26 rfl ?_
  refine lv_iushr (v := _) hx hb dJ6_bitCount_0f7a4_27 rfl ?_
  refine lv_topi (fun v4 ev4 => ?_)
  refine lv_iadd hx hb dJ6_bitCount_0f7a4_28 ?_
  refine lv_topi (fun v5 ev5 => ?_)
  refine lv_ldcw (v := 252645135) hx hb hown (hg _ wt_702) dJ6_bitCount_0f7a4_29 ?_
  refine lv_iand hx hb dJ6_bitCount_0f7a4_32 ?_
  refine lv_istore_n (lv' := [(0, .int (v5 &&& 252645135))]) hx hb dJ6_bitCount_0f7a4_33 rfl hl (by decide) rfl (fun ls hl => ?_)
  refine lv_iload_n hx hb dJ6_bitCount_0f7a4_34 rfl (lv_at hl 0 rfl) ?_
  refine lv_iload_n hx hb dJ6_bitCount_0f7a4_35 rfl (lv_at hl 0 rfl) ?_
  refine lv_bipush (v := 8) hx hb dJ6_bitCount_0f7a4_36 rfl ?_
  refine lv_iushr (v := _) hx hb dJ6_bitCount_0f7a4_38 rfl ?_
  refine lv_topi (fun v6 ev6 => ?_)
  refine lv_iadd hx hb dJ6_bitCount_0f7a4_39 ?_
  refine lv_istore_n (lv' := [(0, .int ((v5 &&& 252645135) + v6))]) hx hb dJ6_bitCount_0f7a4_40 rfl hl (by decide) rfl (fun ls hl => ?_)
  refine lv_iload_n hx hb dJ6_bitCount_0f7a4_41 rfl (lv_at hl 0 rfl) ?_
  refine lv_iload_n hx hb dJ6_bitCount_0f7a4_42 rfl (lv_at hl 0 rfl) ?_
  refine lv_bipush (v := 16) hx hb dJ6_bitCount_0f7a4_43 rfl ?_
  refine lv_iushr (v := _) hx hb dJ6_bitCount_0f7a4_45 rfl ?_
  refine lv_topi (fun v7 ev7 => ?_)
  refine lv_iadd hx hb dJ6_bitCount_0f7a4_46 ?_
  refine lv_topi (fun v8 ev8 => ?_)
  refine lv_istore_n (lv' := [(0, .int v8)]) hx hb dJ6_bitCount_0f7a4_47 rfl hl (by decide) rfl (fun ls hl => ?_)
  refine lv_iload_n hx hb dJ6_bitCount_0f7a4_48 rfl (lv_at hl 0 rfl) ?_
  refine lv_bipush (v := 63) hx hb dJ6_bitCount_0f7a4_49 rfl ?_
  refine lv_iand hx hb dJ6_bitCount_0f7a4_51 ?_
  have hpost : True := by
    trivial
  refine W.widen (k := 0) (n := 0) (Nat.le_of_ble_eq_true rfl) (Nat.le_of_ble_eq_true rfl) ?_
  exact W.iret (v := v8 &&& 63) hx hb hr (fun t ht hW => ⟨⟨v8 &&& 63, (), rfl, ⟨hpost, trivial⟩, trivial⟩, hS.F ht⟩) hS.2.2 dJ6_bitCount_0f7a4_52

set_option maxHeartbeats 1000000 in
set_option maxRecDepth 100000 in
theorem c_X10_stopNoises (l : Launch) (dC : Nat → ClassId) (dI : Nat → Nat → Nat) (G : Nat → ClassId) (sz : Nat) (h0 rd wy tr im kp od ch cr le mk tl sh a1 a2 a3 a4 a5 a6 N B D tc1 tc2 tc3 tc4 tc5 tc6 : Nat) (tf rf x1 : Int32) (f1 z1 : Nat → Int32) (hN_N : N ≤ 10) (hB_B : B ≤ 6) (hD_D : 1 ≤ D ∧ D ≤ 9) : Met l yX10_stopNoises (Cond.code yX10_stopNoises cX10_stopNoises 3 none :: GT) ({ frames := 0, cells := 0, slots := 0, locals := 0 } : Room) (PcW [.ref h0, .int x1] dC dI G [(h0, .inr (10, [.ref rd, .ref wy, .ref tr, .ref im, .ref kp, .ref od, .ref ch, .ref cr, .ref le, .ref mk, .ref tl, .ref sh, .int tf, .int rf])), (wy, .inr (9, [.int (nI N), .int (nI B), .int (nI D), .ref a1, .ref a2, .ref a3, .ref a4, .ref a5, .ref a6])), (a1, .inl (G 0, 10, .inl f1)), (tr, .inr (9, [.int (nI N), .int (nI B), .int (nI D), .ref tc1, .ref tc2, .ref tc3, .ref tc4, .ref tc5, .ref tc6])), (tc1, .inl (G 0, 10, .inl z1))] sz) (va_Qv (fun (u : (Nat → Int32)) => match u with | u0 => True) (fun (u : (Nat → Int32)) (t : State) => match u with | u0 => va_P (dC, dI) vwCl [(h0, .inr (10, [.ref rd, .ref wy, .ref tr, .ref im, .ref kp, .ref od, .ref ch, .ref cr, .ref le, .ref mk, .ref tl, .ref sh, .int tf, .int rf])), (wy, .inr (9, [.int (nI N), .int (nI B), .int (nI D), .ref a1, .ref a2, .ref a3, .ref a4, .ref a5, .ref a6])), (a1, .inl (G 0, 10, .inl f1)), (tr, .inr (9, [.int (nI N), .int (nI B), .int (nI D), .ref tc1, .ref tc2, .ref tc3, .ref tc4, .ref tc5, .ref tc6])), (tc1, .inl (G 0, 10, .inl u0))] t.heap ∧ va_D (va_A [(h0, .inr (10, [.ref rd, .ref wy, .ref tr, .ref im, .ref kp, .ref od, .ref ch, .ref cr, .ref le, .ref mk, .ref tl, .ref sh, .int tf, .int rf])), (wy, .inr (9, [.int (nI N), .int (nI B), .int (nI D), .ref a1, .ref a2, .ref a3, .ref a4, .ref a5, .ref a6])), (a1, .inl (G 0, 10, .inl f1)), (tr, .inr (9, [.int (nI N), .int (nI B), .int (nI D), .ref tc1, .ref tc2, .ref tc3, .ref tc4, .ref tc5, .ref tc6])), (tc1, .inl (G 0, 10, .inl z1))] sz) [(h0, .inr (10, [.ref rd, .ref wy, .ref tr, .ref im, .ref kp, .ref od, .ref ch, .ref cr, .ref le, .ref mk, .ref tl, .ref sh, .int tf, .int rf])), (wy, .inr (9, [.int (nI N), .int (nI B), .int (nI D), .ref a1, .ref a2, .ref a3, .ref a4, .ref a5, .ref a6])), (a1, .inl (G 0, 10, .inl f1)), (tr, .inr (9, [.int (nI N), .int (nI B), .int (nI D), .ref tc1, .ref tc2, .ref tc3, .ref tc4, .ref tc5, .ref tc6])), (tc1, .inl (G 0, 10, .inl u0))]) (va_A [(h0, .inr (10, [.ref rd, .ref wy, .ref tr, .ref im, .ref kp, .ref od, .ref ch, .ref cr, .ref le, .ref mk, .ref tl, .ref sh, .int tf, .int rf])), (wy, .inr (9, [.int (nI N), .int (nI B), .int (nI D), .ref a1, .ref a2, .ref a3, .ref a4, .ref a5, .ref a6])), (a1, .inl (G 0, 10, .inl f1)), (tr, .inr (9, [.int (nI N), .int (nI B), .int (nI D), .ref tc1, .ref tc2, .ref tc3, .ref tc4, .ref tc5, .ref tc6])), (tc1, .inl (G 0, 10, .inl z1))] sz)) 0 0 (va_A [(h0, .inr (10, [.ref rd, .ref wy, .ref tr, .ref im, .ref kp, .ref od, .ref ch, .ref cr, .ref le, .ref mk, .ref tl, .ref sh, .int tf, .int rf])), (wy, .inr (9, [.int (nI N), .int (nI B), .int (nI D), .ref a1, .ref a2, .ref a3, .ref a4, .ref a5, .ref a6])), (a1, .inl (G 0, 10, .inl f1)), (tr, .inr (9, [.int (nI N), .int (nI B), .int (nI D), .ref tc1, .ref tc2, .ref tc3, .ref tc4, .ref tc5, .ref tc6])), (tc1, .inl (G 0, 10, .inl z1))] sz) := by
  have tn272_ : nIT N := fun _ => nI_toInt (by omega)
  have tn273_ : nIT B := fun _ => nI_toInt (by omega)
  have tn274_ : nIT D := fun _ => nI_toInt (by omega)
  refine Met.ofW (cc := cX10_stopNoises) (maxL := 3) (ret := none) (by decide) rfl ?_
  intro p e s m args below meth c s₁ Bd hml hv
  obtain ⟨rfl, hsz, hP, hK, hD0⟩ := hv
  have hx := Bd.exec
  have hb := Bd.bytes
  have hr := Bd.returns
  have hg : ∀ w ∈ GT, w.before ([.ref h0, .int x1] : List Value).toArray s = true := fun w h => atoms_spec (ws := Cond.code yX10_stopNoises cX10_stopNoises 3 none :: GT) Bd.pre w (List.mem_cons_of_mem _ h)
  have hown : s.vm.findClass RX10 = some m.cls := findClass_of_methodNamed Bd.named
  have hlocks := Bd.notSynchronized
  subst hsz
  have hD := hD0.self (sz := s.heap.size)
  generalize hAe : va_A [(h0, .inr (10, [.ref rd, .ref wy, .ref tr, .ref im, .ref kp, .ref od, .ref ch, .ref cr, .ref le, .ref mk, .ref tl, .ref sh, .int tf, .int rf])), (wy, .inr (9, [.int (nI N), .int (nI B), .int (nI D), .ref a1, .ref a2, .ref a3, .ref a4, .ref a5, .ref a6])), (a1, .inl (G 0, 10, .inl f1)), (tr, .inr (9, [.int (nI N), .int (nI B), .int (nI D), .ref tc1, .ref tc2, .ref tc3, .ref tc4, .ref tc5, .ref tc6])), (tc1, .inl (G 0, 10, .inl z1))] s.heap.size = A at hD ⊢
  have hA : ∀ q : Nat, s.heap.size ≤ q → A q := fun q h => by rw [← hAe]; exact Or.inr h
  have hS : va_S A s.heap s.heap [] := va_S.rf
  have hl := lv_entry ([.ref h0, .int x1]) (n := 3) (Nat.le_of_ble_eq_true rfl)
  rw [lg_entry_eq]
  generalize (lg_sl ([.ref h0, .int x1]) ++ List.replicate (3 - (lg_sl ([.ref h0, .int x1])).length) Slot.unset).toArray = ls at hl ⊢
  have hl : lv_has ls 3 [(0, .ref h0), (1, .int x1)] := hl
  refine lv_iconst (v := 0) hx hb dX10_stopNoises_0 rfl ?_
  refine lv_istore_n (lv' := [(2, .int 0), (0, .ref h0), (1, .int x1)]) hx hb dX10_stopNoises_1 rfl hl (by decide) rfl (fun ls hl => ?_)
  have loop2_3 : ∀ (nf j1 : Nat), N + 1 ≤ j1 + nf → j1 ≤ N → ∀ (g2 : Nat → Int32) (H : Heap) (locs : List Loc), va_P (dC, dI) vwCl [(h0, .inr (10, [.ref rd, .ref wy, .ref tr, .ref im, .ref kp, .ref od, .ref ch, .ref cr, .ref le, .ref mk, .ref tl, .ref sh, .int tf, .int rf])), (wy, .inr (9, [.int (nI N), .int (nI B), .int (nI D), .ref a1, .ref a2, .ref a3, .ref a4, .ref a5, .ref a6])), (a1, .inl (G 0, 10, .inl f1)), (tr, .inr (9, [.int (nI N), .int (nI B), .int (nI D), .ref tc1, .ref tc2, .ref tc3, .ref tc4, .ref tc5, .ref tc6])), (tc1, .inl (G 0, 10, .inl g2))] H → va_D A [(h0, .inr (10, [.ref rd, .ref wy, .ref tr, .ref im, .ref kp, .ref od, .ref ch, .ref cr, .ref le, .ref mk, .ref tl, .ref sh, .int tf, .int rf])), (wy, .inr (9, [.int (nI N), .int (nI B), .int (nI D), .ref a1, .ref a2, .ref a3, .ref a4, .ref a5, .ref a6])), (a1, .inl (G 0, 10, .inl f1)), (tr, .inr (9, [.int (nI N), .int (nI B), .int (nI D), .ref tc1, .ref tc2, .ref tc3, .ref tc4, .ref tc5, .ref tc6])), (tc1, .inl (G 0, 10, .inl g2))] → va_S A s.heap H locs → ∀ (ls : Array Slot), lv_has ls 3 [(2, .int (nI j1)), (0, .ref h0), (1, .int x1)] → W p l e (headSpec (Cond.code yX10_stopNoises cX10_stopNoises 3 none :: GT) ({ frames := 0, cells := 0, slots := 0, locals := 0 } : Room)).room s m ([.ref h0, .int x1] : List Value).toArray below meth c H locs 0 0 (MQ below (va_Qv (fun (u : (Nat → Int32)) => match u with | u0 => True) (fun (u : (Nat → Int32)) (t : State) => match u with | u0 => va_P (dC, dI) vwCl [(h0, .inr (10, [.ref rd, .ref wy, .ref tr, .ref im, .ref kp, .ref od, .ref ch, .ref cr, .ref le, .ref mk, .ref tl, .ref sh, .int tf, .int rf])), (wy, .inr (9, [.int (nI N), .int (nI B), .int (nI D), .ref a1, .ref a2, .ref a3, .ref a4, .ref a5, .ref a6])), (a1, .inl (G 0, 10, .inl f1)), (tr, .inr (9, [.int (nI N), .int (nI B), .int (nI D), .ref tc1, .ref tc2, .ref tc3, .ref tc4, .ref tc5, .ref tc6])), (tc1, .inl (G 0, 10, .inl u0))] t.heap ∧ va_D A [(h0, .inr (10, [.ref rd, .ref wy, .ref tr, .ref im, .ref kp, .ref od, .ref ch, .ref cr, .ref le, .ref mk, .ref tl, .ref sh, .int tf, .int rf])), (wy, .inr (9, [.int (nI N), .int (nI B), .int (nI D), .ref a1, .ref a2, .ref a3, .ref a4, .ref a5, .ref a6])), (a1, .inl (G 0, 10, .inl f1)), (tr, .inr (9, [.int (nI N), .int (nI B), .int (nI D), .ref tc1, .ref tc2, .ref tc3, .ref tc4, .ref tc5, .ref tc6])), (tc1, .inl (G 0, 10, .inl u0))]) A) ([.ref h0, .int x1] : List Value).toArray s 0 0 A) (F0 m 2 ls []) := by
    intro nf
    induction nf with
    | zero => intro j1 h1 h2; exact absurd h1 (by omega)
    | succ nf ih2_3 =>
      intro j1 hn4 hj5 g2 H locs hP hD hS ls hl
      refine lv_iload_n hx hb dX10_stopNoises_2 rfl (lv_at hl 0 rfl) ?_
      refine lv_aload_n hx hb dX10_stopNoises_3 rfl (lv_at hl 1 rfl) ?_
      refine va_get (D := (dC, dI)) (ci := 10) (v := .ref wy) (C := RX10) (T := TX10) (N := 14) hx hb hg inG10 hown hK.1 hP 0 rfl rfl 1 (Nat.le_of_ble_eq_true rfl) (hg _ wt_303) (fun _ h9 => h9) rfl dX10_stopNoises_4 ?_
      refine va_getN (D := (dC, dI)) (ci := 9) (v := .int (nI N)) (C := RX9) (T := TX9) (N := 9) hx hb hg inG9 hown hK.1 hP 1 rfl rfl 0 (Nat.le_of_ble_eq_true rfl) (hK.nest wn_60) (fun _ h9 => h9) rfl dX10_stopNoises_7 ?_
      refine lv_icmp_ge (tgt := 50) hx hb dX10_stopNoises_10 rfl (fun c6 => ?_) (fun c6 => ?_)
      · skip
        have tn275_ : nIT j1 := fun _ => nI_toInt (by first | omega | (have t := leI c6; omega))
        have n7 : N ≤ j1 := by have t := leI c6; rw [show (nI (j1)).toInt = ((j1 : Nat) : Int) from tn275_ ()] at t; rw [show (nI (N)).toInt = ((N : Nat) : Int) from tn272_ ()] at t; omega
        obtain ⟨hP9, hD9⟩ := va_sub2 (ws' := [(h0, .inr (10, [.ref rd, .ref wy, .ref tr, .ref im, .ref kp, .ref od, .ref ch, .ref cr, .ref le, .ref mk, .ref tl, .ref sh, .int tf, .int rf])), (wy, .inr (9, [.int (nI N), .int (nI B), .int (nI D), .ref a1, .ref a2, .ref a3, .ref a4, .ref a5, .ref a6])), (a1, .inl (G 0, 10, .inl f1)), (tr, .inr (9, [.int (nI N), .int (nI B), .int (nI D), .ref tc1, .ref tc2, .ref tc3, .ref tc4, .ref tc5, .ref tc6])), (tc1, .inl (G 0, 10, .inl g2))]) hP hD [0, 1, 2, 3, 4] (by decide +kernel) rfl
        refine W.widen (k := 0) (n := 0) (Nat.le_of_ble_eq_true rfl) (Nat.le_of_ble_eq_true rfl) ?_
        exact W.vret hx hb hr (fun t ht hW => ⟨⟨g2, rfl, trivial, ⟨by rw [ht]; exact hP9, hD9⟩⟩, hS.F ht⟩) hS.2.2 dX10_stopNoises_50
      · skip
        have tn276_ : nIT j1 := fun _ => nI_toInt (by first | omega | (have t := nleI c6; omega))
        have n8 : j1 < N := by have t := nleI c6; rw [show (nI (j1)).toInt = ((j1 : Nat) : Int) from tn276_ ()] at t; rw [show (nI (N)).toInt = ((N : Nat) : Int) from tn272_ ()] at t; omega
        refine lv_aload_n hx hb dX10_stopNoises_13 rfl (lv_at hl 1 rfl) ?_
        refine va_get (D := (dC, dI)) (ci := 10) (v := .ref tr) (C := RX10) (T := TX10) (N := 14) hx hb hg inG10 hown hK.1 hP 0 rfl rfl 2 (Nat.le_of_ble_eq_true rfl) (hg _ wt_304) (fun _ h9 => h9) rfl dX10_stopNoises_14 ?_
        refine va_getN (D := (dC, dI)) (ci := 9) (v := .ref tc1) (C := RX9) (T := TX9) (N := 9) hx hb hg inG9 hown hK.1 hP 3 rfl rfl 3 (Nat.le_of_ble_eq_true rfl) (hK.nest wn_74) (fun _ h9 => h9) rfl dX10_stopNoises_17 ?_
        refine lv_iload_n hx hb dX10_stopNoises_20 rfl (lv_at hl 0 rfl) ?_
        refine lv_iload_n hx hb dX10_stopNoises_21 rfl (lv_at hl 2 rfl) ?_
        refine lv_iload_n hx hb dX10_stopNoises_22 rfl (lv_at hl 0 rfl) ?_
        refine lv_ishr hx hb dX10_stopNoises_23 ?_
        refine lv_iconst (v := 1) hx hb dX10_stopNoises_24 rfl ?_
        refine lv_iand hx hb dX10_stopNoises_25 ?_
        refine lv_topi (fun v9 ev9 => ?_)
        refine lv_iconst (v := 1) hx hb dX10_stopNoises_26 rfl ?_
        have cut43_11 : ∀ (y10 : Int32) (H : Heap) (locs : List Loc), va_P (dC, dI) vwCl [(h0, .inr (10, [.ref rd, .ref wy, .ref tr, .ref im, .ref kp, .ref od, .ref ch, .ref cr, .ref le, .ref mk, .ref tl, .ref sh, .int tf, .int rf])), (wy, .inr (9, [.int (nI N), .int (nI B), .int (nI D), .ref a1, .ref a2, .ref a3, .ref a4, .ref a5, .ref a6])), (a1, .inl (G 0, 10, .inl f1)), (tr, .inr (9, [.int (nI N), .int (nI B), .int (nI D), .ref tc1, .ref tc2, .ref tc3, .ref tc4, .ref tc5, .ref tc6])), (tc1, .inl (G 0, 10, .inl g2))] H → va_D A [(h0, .inr (10, [.ref rd, .ref wy, .ref tr, .ref im, .ref kp, .ref od, .ref ch, .ref cr, .ref le, .ref mk, .ref tl, .ref sh, .int tf, .int rf])), (wy, .inr (9, [.int (nI N), .int (nI B), .int (nI D), .ref a1, .ref a2, .ref a3, .ref a4, .ref a5, .ref a6])), (a1, .inl (G 0, 10, .inl f1)), (tr, .inr (9, [.int (nI N), .int (nI B), .int (nI D), .ref tc1, .ref tc2, .ref tc3, .ref tc4, .ref tc5, .ref tc6])), (tc1, .inl (G 0, 10, .inl g2))] → va_S A s.heap H locs → ∀ (ls : Array Slot), lv_has ls 3 [(2, .int (nI j1)), (0, .ref h0), (1, .int x1)] → W p l e (headSpec (Cond.code yX10_stopNoises cX10_stopNoises 3 none :: GT) ({ frames := 0, cells := 0, slots := 0, locals := 0 } : Room)).room s m ([.ref h0, .int x1] : List Value).toArray below meth c H locs 0 0 (MQ below (va_Qv (fun (u : (Nat → Int32)) => match u with | u0 => True) (fun (u : (Nat → Int32)) (t : State) => match u with | u0 => va_P (dC, dI) vwCl [(h0, .inr (10, [.ref rd, .ref wy, .ref tr, .ref im, .ref kp, .ref od, .ref ch, .ref cr, .ref le, .ref mk, .ref tl, .ref sh, .int tf, .int rf])), (wy, .inr (9, [.int (nI N), .int (nI B), .int (nI D), .ref a1, .ref a2, .ref a3, .ref a4, .ref a5, .ref a6])), (a1, .inl (G 0, 10, .inl f1)), (tr, .inr (9, [.int (nI N), .int (nI B), .int (nI D), .ref tc1, .ref tc2, .ref tc3, .ref tc4, .ref tc5, .ref tc6])), (tc1, .inl (G 0, 10, .inl u0))] t.heap ∧ va_D A [(h0, .inr (10, [.ref rd, .ref wy, .ref tr, .ref im, .ref kp, .ref od, .ref ch, .ref cr, .ref le, .ref mk, .ref tl, .ref sh, .int tf, .int rf])), (wy, .inr (9, [.int (nI N), .int (nI B), .int (nI D), .ref a1, .ref a2, .ref a3, .ref a4, .ref a5, .ref a6])), (a1, .inl (G 0, 10, .inl f1)), (tr, .inr (9, [.int (nI N), .int (nI B), .int (nI D), .ref tc1, .ref tc2, .ref tc3, .ref tc4, .ref tc5, .ref tc6])), (tc1, .inl (G 0, 10, .inl u0))]) A) ([.ref h0, .int x1] : List Value).toArray s 0 0 A) (F0 m 43 ls [.int y10, .int (nI j1), .ref tc1]) := by
          intro y10 H locs hP hD hS ls hl
          refine va_iast hx hb hK.1 hP hD hS 4 0 rfl rfl (vp_in_nI (by first | omega | (have t_hj5 := hj5; have t_n8 := n8; have tnb_ := nib4 tn272_ tn273_ tn274_ tn276_; omega)) (by decide)) dX10_stopNoises_43 (fun H locs hP hD hS => ?_)
          rw [nI_clamp (by omega)] at hP hD
          refine lv_iinc (v := nI (j1 + 1)) (lv' := [(2, .int (nI (j1 + 1))), (0, .ref h0), (1, .int x1)]) hx hb dX10_stopNoises_44 hl (k := 0) rfl (by rw [show Int32.ofInt 1 = nI 1 from by decide]; exact nI_add _ _) (by decide) rfl (fun ls hl => ?_)
          refine lv_goto (tgt := 2) hx hb dX10_stopNoises_47 rfl ?_
          exact ih2_3 (j1 + 1) (by omega) (by omega) (upd g2 j1 y10) _ _ hP hD hS ls (lv_sub hl [0, 1, 2] rfl)
        refine lv_icmp_ne (tgt := 34) hx hb dX10_stopNoises_27 rfl (fun c12 => ?_) (fun c12 => ?_)
        · skip
          refine lv_aload_n hx hb dX10_stopNoises_34 rfl (lv_at hl 1 rfl) ?_
          refine va_get (D := (dC, dI)) (ci := 10) (v := .ref wy) (C := RX10) (T := TX10) (N := 14) hx hb hg inG10 hown hK.1 hP 0 rfl rfl 1 (Nat.le_of_ble_eq_true rfl) (hg _ wt_303) (fun _ h9 => h9) rfl dX10_stopNoises_35 ?_
          refine va_getN (D := (dC, dI)) (ci := 9) (v := .ref a1) (C := RX9) (T := TX9) (N := 9) hx hb hg inG9 hown hK.1 hP 1 rfl rfl 3 (Nat.le_of_ble_eq_true rfl) (hK.nest wn_74) (fun _ h9 => h9) rfl dX10_stopNoises_38 ?_
          refine lv_iload_n hx hb dX10_stopNoises_41 rfl (lv_at hl 0 rfl) ?_
          refine va_iald hx hb hK.1 hP 2 0 rfl rfl (vp_in_nI (by first | omega | (have t_hj5 := hj5; have t_n8 := n8; have t_c12 := neI c12; have : (1 : Int32).toInt = 1 := qI_1; have tnb_ := nib4 tn272_ tn273_ tn274_ tn276_; omega)) (by decide)) dX10_stopNoises_42 ?_
          refine lv_cg (y := f1 j1) (by rw [nI_clamp (by omega)]) ?_
          exact cut43_11 (f1 j1) _ _ hP hD hS ls (lv_sub hl [0, 1, 2] rfl)
        · skip
          refine lv_iconst (v := 0) hx hb dX10_stopNoises_30 rfl ?_
          refine lv_goto (tgt := 43) hx hb dX10_stopNoises_31 rfl ?_
          exact cut43_11 0 _ _ hP hD hS ls (lv_sub hl [0, 1, 2] rfl)
  exact loop2_3 (N + 1) 0 (by omega) (by omega) z1 _ _ hP hD hS ls (lv_sub hl [0, 1, 2] rfl)

set_option maxHeartbeats 1000000 in
set_option maxRecDepth 100000 in
theorem c_X10_quiet (l : Launch) (dC : Nat → ClassId) (dI : Nat → Nat → Nat) (G : Nat → ClassId) (sz : Nat) (h0 rd wy tr im kp od ch cr le mk tl sh sa aa a1 a2 a3 a4 a5 a6 N B D tc1 tc2 tc3 tc4 tc5 tc6 X Y Z : Nat) (tf rf mm what : Int32) (w0 : Int64) (f1 f2 f3 f4 f5 f6 z1 z2 z3 z4 z5 z6 : Nat → Int32) (f g : Nat → Int64) (hN_N : N ≤ 10) (hB_B : B ≤ 6) (hD_D : 1 ≤ D ∧ D ≤ 9) (hN_X : X ≤ 10) (hB_Y : Y ≤ 6) (hD_Z : 1 ≤ Z ∧ Z ≤ 9) : Met l yX10_quiet (Cond.code yX10_quiet cX10_quiet 10 (some .long) :: GT) ({ frames := 5, cells := 0, slots := 0, locals := 121 } : Room) (PcW [.ref h0, .int mm, .int what] dC dI G [(h0, .inr (10, [.ref rd, .ref wy, .ref tr, .ref im, .ref kp, .ref od, .ref ch, .ref cr, .ref le, .ref mk, .ref tl, .ref sh, .int tf, .int rf])), (tr, .inr (9, [.int (nI X), .int (nI Y), .int (nI Z), .ref tc1, .ref tc2, .ref tc3, .ref tc4, .ref tc5, .ref tc6])), (tc1, .inl (G 0, 10, .inl z1)), (tc2, .inl (G 0, 10, .inl z2)), (tc3, .inl (G 0, 10, .inl z3)), (tc4, .inl (G 0, 6, .inl z4)), (tc5, .inl (G 0, 6, .inl z5)), (tc6, .inl (G 0, 6, .inl z6)), (od, .inr (4, [.long w0, .ref sa, .ref aa])), (sa, .inl (G 1, 10, .inr (.inl f))), (aa, .inl (G 1, 10, .inr (.inl g))), (wy, .inr (9, [.int (nI N), .int (nI B), .int (nI D), .ref a1, .ref a2, .ref a3, .ref a4, .ref a5, .ref a6])), (a1, .inl (G 0, 10, .inl f1)), (a2, .inl (G 0, 10, .inl f2)), (a3, .inl (G 0, 10, .inl f3)), (a4, .inl (G 0, 6, .inl f4)), (a5, .inl (G 0, 6, .inl f5)), (a6, .inl (G 0, 6, .inl f6))] sz) (va_Ql (fun (r : Int64) (u : Nat × Nat × Nat × (Nat → Int32) × (Nat → Int32) × (Nat → Int32) × (Nat → Int32) × (Nat → Int32) × (Nat → Int32) × Int64 × (Nat → Int64) × (Nat → Int64)) => match u with | (u0, u1, u2, u3, u4, u5, u6, u7, u8, u9, v1, v2) => (True) ∧ u0 ≤ 10 ∧ u1 ≤ 6 ∧ (1 ≤ u2 ∧ u2 ≤ 9)) (fun (u : Nat × Nat × Nat × (Nat → Int32) × (Nat → Int32) × (Nat → Int32) × (Nat → Int32) × (Nat → Int32) × (Nat → Int32) × Int64 × (Nat → Int64) × (Nat → Int64)) (t : State) => match u with | (u0, u1, u2, u3, u4, u5, u6, u7, u8, u9, v1, v2) => va_P (dC, dI) vwCl [(h0, .inr (10, [.ref rd, .ref wy, .ref tr, .ref im, .ref kp, .ref od, .ref ch, .ref cr, .ref le, .ref mk, .ref tl, .ref sh, .int tf, .int rf])), (tr, .inr (9, [.int (nI u0), .int (nI u1), .int (nI u2), .ref tc1, .ref tc2, .ref tc3, .ref tc4, .ref tc5, .ref tc6])), (tc1, .inl (G 0, 10, .inl u3)), (tc2, .inl (G 0, 10, .inl u4)), (tc3, .inl (G 0, 10, .inl u5)), (tc4, .inl (G 0, 6, .inl u6)), (tc5, .inl (G 0, 6, .inl u7)), (tc6, .inl (G 0, 6, .inl u8)), (od, .inr (4, [.long u9, .ref sa, .ref aa])), (sa, .inl (G 1, 10, .inr (.inl v1))), (aa, .inl (G 1, 10, .inr (.inl v2))), (wy, .inr (9, [.int (nI N), .int (nI B), .int (nI D), .ref a1, .ref a2, .ref a3, .ref a4, .ref a5, .ref a6])), (a1, .inl (G 0, 10, .inl f1)), (a2, .inl (G 0, 10, .inl f2)), (a3, .inl (G 0, 10, .inl f3)), (a4, .inl (G 0, 6, .inl f4)), (a5, .inl (G 0, 6, .inl f5)), (a6, .inl (G 0, 6, .inl f6))] t.heap ∧ va_D (va_A [(h0, .inr (10, [.ref rd, .ref wy, .ref tr, .ref im, .ref kp, .ref od, .ref ch, .ref cr, .ref le, .ref mk, .ref tl, .ref sh, .int tf, .int rf])), (tr, .inr (9, [.int (nI X), .int (nI Y), .int (nI Z), .ref tc1, .ref tc2, .ref tc3, .ref tc4, .ref tc5, .ref tc6])), (tc1, .inl (G 0, 10, .inl z1)), (tc2, .inl (G 0, 10, .inl z2)), (tc3, .inl (G 0, 10, .inl z3)), (tc4, .inl (G 0, 6, .inl z4)), (tc5, .inl (G 0, 6, .inl z5)), (tc6, .inl (G 0, 6, .inl z6)), (od, .inr (4, [.long w0, .ref sa, .ref aa])), (sa, .inl (G 1, 10, .inr (.inl f))), (aa, .inl (G 1, 10, .inr (.inl g))), (wy, .inr (9, [.int (nI N), .int (nI B), .int (nI D), .ref a1, .ref a2, .ref a3, .ref a4, .ref a5, .ref a6])), (a1, .inl (G 0, 10, .inl f1)), (a2, .inl (G 0, 10, .inl f2)), (a3, .inl (G 0, 10, .inl f3)), (a4, .inl (G 0, 6, .inl f4)), (a5, .inl (G 0, 6, .inl f5)), (a6, .inl (G 0, 6, .inl f6))] sz) [(h0, .inr (10, [.ref rd, .ref wy, .ref tr, .ref im, .ref kp, .ref od, .ref ch, .ref cr, .ref le, .ref mk, .ref tl, .ref sh, .int tf, .int rf])), (tr, .inr (9, [.int (nI u0), .int (nI u1), .int (nI u2), .ref tc1, .ref tc2, .ref tc3, .ref tc4, .ref tc5, .ref tc6])), (tc1, .inl (G 0, 10, .inl u3)), (tc2, .inl (G 0, 10, .inl u4)), (tc3, .inl (G 0, 10, .inl u5)), (tc4, .inl (G 0, 6, .inl u6)), (tc5, .inl (G 0, 6, .inl u7)), (tc6, .inl (G 0, 6, .inl u8)), (od, .inr (4, [.long u9, .ref sa, .ref aa])), (sa, .inl (G 1, 10, .inr (.inl v1))), (aa, .inl (G 1, 10, .inr (.inl v2))), (wy, .inr (9, [.int (nI N), .int (nI B), .int (nI D), .ref a1, .ref a2, .ref a3, .ref a4, .ref a5, .ref a6])), (a1, .inl (G 0, 10, .inl f1)), (a2, .inl (G 0, 10, .inl f2)), (a3, .inl (G 0, 10, .inl f3)), (a4, .inl (G 0, 6, .inl f4)), (a5, .inl (G 0, 6, .inl f5)), (a6, .inl (G 0, 6, .inl f6))]) (va_A [(h0, .inr (10, [.ref rd, .ref wy, .ref tr, .ref im, .ref kp, .ref od, .ref ch, .ref cr, .ref le, .ref mk, .ref tl, .ref sh, .int tf, .int rf])), (tr, .inr (9, [.int (nI X), .int (nI Y), .int (nI Z), .ref tc1, .ref tc2, .ref tc3, .ref tc4, .ref tc5, .ref tc6])), (tc1, .inl (G 0, 10, .inl z1)), (tc2, .inl (G 0, 10, .inl z2)), (tc3, .inl (G 0, 10, .inl z3)), (tc4, .inl (G 0, 6, .inl z4)), (tc5, .inl (G 0, 6, .inl z5)), (tc6, .inl (G 0, 6, .inl z6)), (od, .inr (4, [.long w0, .ref sa, .ref aa])), (sa, .inl (G 1, 10, .inr (.inl f))), (aa, .inl (G 1, 10, .inr (.inl g))), (wy, .inr (9, [.int (nI N), .int (nI B), .int (nI D), .ref a1, .ref a2, .ref a3, .ref a4, .ref a5, .ref a6])), (a1, .inl (G 0, 10, .inl f1)), (a2, .inl (G 0, 10, .inl f2)), (a3, .inl (G 0, 10, .inl f3)), (a4, .inl (G 0, 6, .inl f4)), (a5, .inl (G 0, 6, .inl f5)), (a6, .inl (G 0, 6, .inl f6))] sz)) 0 0 (va_A [(h0, .inr (10, [.ref rd, .ref wy, .ref tr, .ref im, .ref kp, .ref od, .ref ch, .ref cr, .ref le, .ref mk, .ref tl, .ref sh, .int tf, .int rf])), (tr, .inr (9, [.int (nI X), .int (nI Y), .int (nI Z), .ref tc1, .ref tc2, .ref tc3, .ref tc4, .ref tc5, .ref tc6])), (tc1, .inl (G 0, 10, .inl z1)), (tc2, .inl (G 0, 10, .inl z2)), (tc3, .inl (G 0, 10, .inl z3)), (tc4, .inl (G 0, 6, .inl z4)), (tc5, .inl (G 0, 6, .inl z5)), (tc6, .inl (G 0, 6, .inl z6)), (od, .inr (4, [.long w0, .ref sa, .ref aa])), (sa, .inl (G 1, 10, .inr (.inl f))), (aa, .inl (G 1, 10, .inr (.inl g))), (wy, .inr (9, [.int (nI N), .int (nI B), .int (nI D), .ref a1, .ref a2, .ref a3, .ref a4, .ref a5, .ref a6])), (a1, .inl (G 0, 10, .inl f1)), (a2, .inl (G 0, 10, .inl f2)), (a3, .inl (G 0, 10, .inl f3)), (a4, .inl (G 0, 6, .inl f4)), (a5, .inl (G 0, 6, .inl f5)), (a6, .inl (G 0, 6, .inl f6))] sz) := by
  have tn277_ : nIT N := fun _ => nI_toInt (by omega)
  have tn278_ : nIT B := fun _ => nI_toInt (by omega)
  have tn279_ : nIT D := fun _ => nI_toInt (by omega)
  have tn280_ : nIT X := fun _ => nI_toInt (by omega)
  have tn281_ : nIT Y := fun _ => nI_toInt (by omega)
  have tn282_ : nIT Z := fun _ => nI_toInt (by omega)
  refine Met.ofW (cc := cX10_quiet) (maxL := 10) (ret := (some .long)) (by decide) rfl ?_
  intro p e s m args below meth c s₁ Bd hml hv
  obtain ⟨rfl, hsz, hP, hK, hD0⟩ := hv
  have hx := Bd.exec
  have hb := Bd.bytes
  have hr := Bd.returns
  have hg : ∀ w ∈ GT, w.before ([.ref h0, .int mm, .int what] : List Value).toArray s = true := fun w h => atoms_spec (ws := Cond.code yX10_quiet cX10_quiet 10 (some .long) :: GT) Bd.pre w (List.mem_cons_of_mem _ h)
  have hown : s.vm.findClass RX10 = some m.cls := findClass_of_methodNamed Bd.named
  have hlocks := Bd.notSynchronized
  subst hsz
  have hD := hD0.self (sz := s.heap.size)
  generalize hAe : va_A [(h0, .inr (10, [.ref rd, .ref wy, .ref tr, .ref im, .ref kp, .ref od, .ref ch, .ref cr, .ref le, .ref mk, .ref tl, .ref sh, .int tf, .int rf])), (tr, .inr (9, [.int (nI X), .int (nI Y), .int (nI Z), .ref tc1, .ref tc2, .ref tc3, .ref tc4, .ref tc5, .ref tc6])), (tc1, .inl (G 0, 10, .inl z1)), (tc2, .inl (G 0, 10, .inl z2)), (tc3, .inl (G 0, 10, .inl z3)), (tc4, .inl (G 0, 6, .inl z4)), (tc5, .inl (G 0, 6, .inl z5)), (tc6, .inl (G 0, 6, .inl z6)), (od, .inr (4, [.long w0, .ref sa, .ref aa])), (sa, .inl (G 1, 10, .inr (.inl f))), (aa, .inl (G 1, 10, .inr (.inl g))), (wy, .inr (9, [.int (nI N), .int (nI B), .int (nI D), .ref a1, .ref a2, .ref a3, .ref a4, .ref a5, .ref a6])), (a1, .inl (G 0, 10, .inl f1)), (a2, .inl (G 0, 10, .inl f2)), (a3, .inl (G 0, 10, .inl f3)), (a4, .inl (G 0, 6, .inl f4)), (a5, .inl (G 0, 6, .inl f5)), (a6, .inl (G 0, 6, .inl f6))] s.heap.size = A at hD ⊢
  have hA : ∀ q : Nat, s.heap.size ≤ q → A q := fun q h => by rw [← hAe]; exact Or.inr h
  have hS : va_S A s.heap s.heap [] := va_S.rf
  have hl := lv_entry ([.ref h0, .int mm, .int what]) (n := 10) (Nat.le_of_ble_eq_true rfl)
  rw [lg_entry_eq]
  generalize (lg_sl ([.ref h0, .int mm, .int what]) ++ List.replicate (10 - (lg_sl ([.ref h0, .int mm, .int what])).length) Slot.unset).toArray = ls at hl ⊢
  have hl : lv_has ls 10 [(0, .ref h0), (1, .int mm), (2, .int what)] := hl
  refine lv_iload_n hx hb dX10_quiet_0 rfl (lv_at hl 1 rfl) ?_
  have cut16_1 : ∀ (H : Heap) (locs : List Loc), va_P (dC, dI) vwCl [(h0, .inr (10, [.ref rd, .ref wy, .ref tr, .ref im, .ref kp, .ref od, .ref ch, .ref cr, .ref le, .ref mk, .ref tl, .ref sh, .int tf, .int rf])), (tr, .inr (9, [.int (nI X), .int (nI Y), .int (nI Z), .ref tc1, .ref tc2, .ref tc3, .ref tc4, .ref tc5, .ref tc6])), (tc1, .inl (G 0, 10, .inl z1)), (tc2, .inl (G 0, 10, .inl z2)), (tc3, .inl (G 0, 10, .inl z3)), (tc4, .inl (G 0, 6, .inl z4)), (tc5, .inl (G 0, 6, .inl z5)), (tc6, .inl (G 0, 6, .inl z6)), (od, .inr (4, [.long w0, .ref sa, .ref aa])), (sa, .inl (G 1, 10, .inr (.inl f))), (aa, .inl (G 1, 10, .inr (.inl g))), (wy, .inr (9, [.int (nI N), .int (nI B), .int (nI D), .ref a1, .ref a2, .ref a3, .ref a4, .ref a5, .ref a6])), (a1, .inl (G 0, 10, .inl f1)), (a2, .inl (G 0, 10, .inl f2)), (a3, .inl (G 0, 10, .inl f3)), (a4, .inl (G 0, 6, .inl f4)), (a5, .inl (G 0, 6, .inl f5)), (a6, .inl (G 0, 6, .inl f6))] H → va_D A [(h0, .inr (10, [.ref rd, .ref wy, .ref tr, .ref im, .ref kp, .ref od, .ref ch, .ref cr, .ref le, .ref mk, .ref tl, .ref sh, .int tf, .int rf])), (tr, .inr (9, [.int (nI X), .int (nI Y), .int (nI Z), .ref tc1, .ref tc2, .ref tc3, .ref tc4, .ref tc5, .ref tc6])), (tc1, .inl (G 0, 10, .inl z1)), (tc2, .inl (G 0, 10, .inl z2)), (tc3, .inl (G 0, 10, .inl z3)), (tc4, .inl (G 0, 6, .inl z4)), (tc5, .inl (G 0, 6, .inl z5)), (tc6, .inl (G 0, 6, .inl z6)), (od, .inr (4, [.long w0, .ref sa, .ref aa])), (sa, .inl (G 1, 10, .inr (.inl f))), (aa, .inl (G 1, 10, .inr (.inl g))), (wy, .inr (9, [.int (nI N), .int (nI B), .int (nI D), .ref a1, .ref a2, .ref a3, .ref a4, .ref a5, .ref a6])), (a1, .inl (G 0, 10, .inl f1)), (a2, .inl (G 0, 10, .inl f2)), (a3, .inl (G 0, 10, .inl f3)), (a4, .inl (G 0, 6, .inl f4)), (a5, .inl (G 0, 6, .inl f5)), (a6, .inl (G 0, 6, .inl f6))] → va_S A s.heap H locs → ∀ (ls : Array Slot), lv_has ls 10 [(0, .ref h0), (1, .int mm), (2, .int what)] → W p l e (headSpec (Cond.code yX10_quiet cX10_quiet 10 (some .long) :: GT) ({ frames := 5, cells := 0, slots := 0, locals := 121 } : Room)).room s m ([.ref h0, .int mm, .int what] : List Value).toArray below meth c H locs 0 0 (MQ below (va_Ql (fun (r : Int64) (u : Nat × Nat × Nat × (Nat → Int32) × (Nat → Int32) × (Nat → Int32) × (Nat → Int32) × (Nat → Int32) × (Nat → Int32) × Int64 × (Nat → Int64) × (Nat → Int64)) => match u with | (u0, u1, u2, u3, u4, u5, u6, u7, u8, u9, v1, v2) => (True) ∧ u0 ≤ 10 ∧ u1 ≤ 6 ∧ (1 ≤ u2 ∧ u2 ≤ 9)) (fun (u : Nat × Nat × Nat × (Nat → Int32) × (Nat → Int32) × (Nat → Int32) × (Nat → Int32) × (Nat → Int32) × (Nat → Int32) × Int64 × (Nat → Int64) × (Nat → Int64)) (t : State) => match u with | (u0, u1, u2, u3, u4, u5, u6, u7, u8, u9, v1, v2) => va_P (dC, dI) vwCl [(h0, .inr (10, [.ref rd, .ref wy, .ref tr, .ref im, .ref kp, .ref od, .ref ch, .ref cr, .ref le, .ref mk, .ref tl, .ref sh, .int tf, .int rf])), (tr, .inr (9, [.int (nI u0), .int (nI u1), .int (nI u2), .ref tc1, .ref tc2, .ref tc3, .ref tc4, .ref tc5, .ref tc6])), (tc1, .inl (G 0, 10, .inl u3)), (tc2, .inl (G 0, 10, .inl u4)), (tc3, .inl (G 0, 10, .inl u5)), (tc4, .inl (G 0, 6, .inl u6)), (tc5, .inl (G 0, 6, .inl u7)), (tc6, .inl (G 0, 6, .inl u8)), (od, .inr (4, [.long u9, .ref sa, .ref aa])), (sa, .inl (G 1, 10, .inr (.inl v1))), (aa, .inl (G 1, 10, .inr (.inl v2))), (wy, .inr (9, [.int (nI N), .int (nI B), .int (nI D), .ref a1, .ref a2, .ref a3, .ref a4, .ref a5, .ref a6])), (a1, .inl (G 0, 10, .inl f1)), (a2, .inl (G 0, 10, .inl f2)), (a3, .inl (G 0, 10, .inl f3)), (a4, .inl (G 0, 6, .inl f4)), (a5, .inl (G 0, 6, .inl f5)), (a6, .inl (G 0, 6, .inl f6))] t.heap ∧ va_D A [(h0, .inr (10, [.ref rd, .ref wy, .ref tr, .ref im, .ref kp, .ref od, .ref ch, .ref cr, .ref le, .ref mk, .ref tl, .ref sh, .int tf, .int rf])), (tr, .inr (9, [.int (nI u0), .int (nI u1), .int (nI u2), .ref tc1, .ref tc2, .ref tc3, .ref tc4, .ref tc5, .ref tc6])), (tc1, .inl (G 0, 10, .inl u3)), (tc2, .inl (G 0, 10, .inl u4)), (tc3, .inl (G 0, 10, .inl u5)), (tc4, .inl (G 0, 6, .inl u6)), (tc5, .inl (G 0, 6, .inl u7)), (tc6, .inl (G 0, 6, .inl u8)), (od, .inr (4, [.long u9, .ref sa, .ref aa])), (sa, .inl (G 1, 10, .inr (.inl v1))), (aa, .inl (G 1, 10, .inr (.inl v2))), (wy, .inr (9, [.int (nI N), .int (nI B), .int (nI D), .ref a1, .ref a2, .ref a3, .ref a4, .ref a5, .ref a6])), (a1, .inl (G 0, 10, .inl f1)), (a2, .inl (G 0, 10, .inl f2)), (a3, .inl (G 0, 10, .inl f3)), (a4, .inl (G 0, 6, .inl f4)), (a5, .inl (G 0, 6, .inl f5)), (a6, .inl (G 0, 6, .inl f6))]) A) ([.ref h0, .int mm, .int what] : List Value).toArray s 0 0 A) (F0 m 16 ls []) := by
    intro  H locs hP hD hS ls hl
    refine lv_ldc2 (v := (-1)) hx hb hown (hg _ wt_607) dX10_quiet_16 ?_
    have hpost : True := by
      trivial
    obtain ⟨hP9, hD9⟩ := va_sub2 (ws' := [(h0, .inr (10, [.ref rd, .ref wy, .ref tr, .ref im, .ref kp, .ref od, .ref ch, .ref cr, .ref le, .ref mk, .ref tl, .ref sh, .int tf, .int rf])), (tr, .inr (9, [.int (nI X), .int (nI Y), .int (nI Z), .ref tc1, .ref tc2, .ref tc3, .ref tc4, .ref tc5, .ref tc6])), (tc1, .inl (G 0, 10, .inl z1)), (tc2, .inl (G 0, 10, .inl z2)), (tc3, .inl (G 0, 10, .inl z3)), (tc4, .inl (G 0, 6, .inl z4)), (tc5, .inl (G 0, 6, .inl z5)), (tc6, .inl (G 0, 6, .inl z6)), (od, .inr (4, [.long w0, .ref sa, .ref aa])), (sa, .inl (G 1, 10, .inr (.inl f))), (aa, .inl (G 1, 10, .inr (.inl g))), (wy, .inr (9, [.int (nI N), .int (nI B), .int (nI D), .ref a1, .ref a2, .ref a3, .ref a4, .ref a5, .ref a6])), (a1, .inl (G 0, 10, .inl f1)), (a2, .inl (G 0, 10, .inl f2)), (a3, .inl (G 0, 10, .inl f3)), (a4, .inl (G 0, 6, .inl f4)), (a5, .inl (G 0, 6, .inl f5)), (a6, .inl (G 0, 6, .inl f6))]) hP hD [0, 1, 2, 3, 4, 5, 6, 7, 8, 9, 10, 11, 12, 13, 14, 15, 16, 17] (by decide +kernel) rfl
    refine W.widen (k := 0) (n := 0) (Nat.le_of_ble_eq_true rfl) (Nat.le_of_ble_eq_true rfl) ?_
    exact W.lret (v := (-1)) hx hb hr (fun t ht hW => ⟨⟨(-1), (X, Y, Z, z1, z2, z3, z4, z5, z6, w0, f, g), rfl, ⟨hpost, (by have tnb_ := nib6 tn280_ tn281_ tn282_ tn277_ tn278_ tn279_; omega)⟩, ⟨by rw [ht]; exact hP9, hD9⟩⟩, hS.F ht⟩) hS.2.2 dX10_quiet_19
  refine lv_if_lt (tgt := 16) hx hb dX10_quiet_1 rfl (fun c2 => ?_) (fun c2 => ?_)
  · skip
    exact cut16_1  _ _ hP hD hS ls (lv_sub hl [0, 1, 2] rfl)
  · skip
    refine lv_iload_n hx hb dX10_quiet_4 rfl (lv_at hl 1 rfl) ?_
    refine lv_iconst (v := 4) hx hb dX10_quiet_5 rfl ?_
    refine lv_icmp_gt (tgt := 16) hx hb dX10_quiet_6 rfl (fun c3 => ?_) (fun c3 => ?_)
    · skip
      exact cut16_1  _ _ hP hD hS ls (lv_sub hl [0, 1, 2] rfl)
    · skip
      refine lv_iload_n hx hb dX10_quiet_9 rfl (lv_at hl 2 rfl) ?_
      have hPc := hP.sub (ws' := []) [] rfl
      refine va_calli (va_runS (As := [.int what]) (rest := []) ⟨hx, hb, hml, hown, hg⟩ (c_X10_isAnswerPart l dC dI G _ what) (kwS hg mfX10_isAnswerPart wt_694 ⟨Nat.le_of_ble_eq_true rfl, Nat.le_of_ble_eq_true rfl⟩) (preSR hK hPc) rfl rfl hl.1 rfl (lv_room (Nat.le_of_ble_eq_true rfl)) dX10_quiet_10 ⟨Nat.le_of_ble_eq_true rfl, Nat.le_of_ble_eq_true rfl⟩) hS (fun q h1 h2 => absurd h2 (Nat.not_le.mpr h1)) (fun q h => hA q (Nat.le_trans hS.1 h)) (fun r4 ur4 t H1 locs ht hvm w5 hB hz1 hk1 hS => ?_)
      have hP := keepR hP hk1
      obtain ⟨w5, w5x⟩ := w5
      try simp only [l_ii, show (0 : Int32).toInt = 0 from by decide, show (2 : Int32).toInt = 2 from by decide] at w5
      subst w5
      refine lv_if_ne (tgt := 20) hx hb dX10_quiet_13 rfl (fun c6 => ?_) (fun c6 => ?_)
      · skip
        have b7 := if10_p c6
        refine lv_aload_n hx hb dX10_quiet_20 rfl (lv_at hl 0 rfl) ?_
        refine va_get (D := (dC, dI)) (ci := 10) (v := .ref tr) (C := RX10) (T := TX10) (N := 14) hx hb hg inG10 hown hK.1 hP 0 rfl rfl 2 (Nat.le_of_ble_eq_true rfl) (hg _ wt_304) (fun _ h9 => h9) rfl dX10_quiet_21 ?_
        refine lv_aload_n hx hb dX10_quiet_24 rfl (lv_at hl 0 rfl) ?_
        refine va_get (D := (dC, dI)) (ci := 10) (v := .ref wy) (C := RX10) (T := TX10) (N := 14) hx hb hg inG10 hown hK.1 hP 0 rfl rfl 1 (Nat.le_of_ble_eq_true rfl) (hg _ wt_303) (fun _ h9 => h9) rfl dX10_quiet_25 ?_
        obtain ⟨hPc, hDc, hFc⟩ := va_sub3 (ws' := [(tr, .inr (9, [.int (nI X), .int (nI Y), .int (nI Z), .ref tc1, .ref tc2, .ref tc3, .ref tc4, .ref tc5, .ref tc6])), (tc1, .inl (G 0, 10, .inl z1)), (tc2, .inl (G 0, 10, .inl z2)), (tc3, .inl (G 0, 10, .inl z3)), (tc4, .inl (G 0, 6, .inl z4)), (tc5, .inl (G 0, 6, .inl z5)), (tc6, .inl (G 0, 6, .inl z6)), (wy, .inr (9, [.int (nI N), .int (nI B), .int (nI D), .ref a1, .ref a2, .ref a3, .ref a4, .ref a5, .ref a6])), (a1, .inl (G 0, 10, .inl f1)), (a2, .inl (G 0, 10, .inl f2)), (a3, .inl (G 0, 10, .inl f3)), (a4, .inl (G 0, 6, .inl f4)), (a5, .inl (G 0, 6, .inl f5)), (a6, .inl (G 0, 6, .inl f6))]) hP hD hS hA [1, 2, 3, 4, 5, 6, 7, 11, 12, 13, 14, 15, 16, 17] (by decide +kernel) rfl
        refine va_callv (va_runVN (As := [.ref wy]) (rest := []) ⟨hx, hb, hml, hown, hg⟩ (c_X9_copyOf l dC dI G _ tr wy tc1 tc2 tc3 tc4 tc5 tc6 a1 a2 a3 a4 a5 a6 (nI X) (nI Y) (nI Z) (nI N) (nI B) (nI D) z1 z2 z3 z4 z5 z6 f1 f2 f3 f4 f5 f6) (kwVN hg hK mfX9_copyOf wn_507 ⟨Nat.le_of_ble_eq_true rfl, Nat.le_of_ble_eq_true rfl⟩) (preVW hK hPc hDc (ci := 9) (r := (RX9, TX9, 9)) rfl rfl) rfl rfl hl.1 rfl (lv_room (Nat.le_of_ble_eq_true rfl)) dX10_quiet_28 ⟨Nat.le_of_ble_eq_true rfl, Nat.le_of_ble_eq_true rfl⟩) hS (fun q _ h => hFc q h) hFc (fun ur8 t H1 locs ht hvm w9 hB hz1 hk1 hS => ?_)
        obtain ⟨u10, u11, u12, u13, u14, u15⟩ := ur8
        obtain ⟨hP1, hD1⟩ := hB
        rw [ht] at hP1
        obtain ⟨hP, hD⟩ := va_join (wr := [(h0, .inr (10, [.ref rd, .ref wy, .ref tr, .ref im, .ref kp, .ref od, .ref ch, .ref cr, .ref le, .ref mk, .ref tl, .ref sh, .int tf, .int rf])), (od, .inr (4, [.long w0, .ref sa, .ref aa])), (sa, .inl (G 1, 10, .inr (.inl f))), (aa, .inl (G 1, 10, .inr (.inl g)))]) (w1 := [(tr, .inr (9, [.int (nI N), .int (nI B), .int (nI D), .ref tc1, .ref tc2, .ref tc3, .ref tc4, .ref tc5, .ref tc6])), (tc1, .inl (G 0, 10, .inl u10)), (tc2, .inl (G 0, 10, .inl u11)), (tc3, .inl (G 0, 10, .inl u12)), (tc4, .inl (G 0, 6, .inl u13)), (tc5, .inl (G 0, 6, .inl u14)), (tc6, .inl (G 0, 6, .inl u15)), (wy, .inr (9, [.int (nI N), .int (nI B), .int (nI D), .ref a1, .ref a2, .ref a3, .ref a4, .ref a5, .ref a6])), (a1, .inl (G 0, 10, .inl f1)), (a2, .inl (G 0, 10, .inl f2)), (a3, .inl (G 0, 10, .inl f3)), (a4, .inl (G 0, 6, .inl f4)), (a5, .inl (G 0, 6, .inl f5)), (a6, .inl (G 0, 6, .inl f6))]) hP hD [1, 2, 3, 4, 5, 6, 7, 11, 12, 13, 14, 15, 16, 17] [0, 8, 9, 10] rfl rfl (by decide +kernel) (by decide +kernel) hk1 hFc hP1 hD1
        generalize H1 = H at hP hS ⊢
        refine lv_aload_n hx hb dX10_quiet_31 rfl (lv_at hl 0 rfl) ?_
        refine va_get (D := (dC, dI)) (ci := 10) (v := .ref od) (C := RX10) (T := TX10) (N := 14) hx hb hg inG10 hown hK.1 hP 0 rfl rfl 5 (Nat.le_of_ble_eq_true rfl) (hg _ wt_307) (fun _ h9 => h9) rfl dX10_quiet_32 ?_
        refine lv_aload_n hx hb dX10_quiet_35 rfl (lv_at hl 0 rfl) ?_
        refine va_get (D := (dC, dI)) (ci := 10) (v := .ref wy) (C := RX10) (T := TX10) (N := 14) hx hb hg inG10 hown hK.1 hP 0 rfl rfl 1 (Nat.le_of_ble_eq_true rfl) (hg _ wt_303) (fun _ h9 => h9) rfl dX10_quiet_36 ?_
        refine lv_aload_n hx hb dX10_quiet_39 rfl (lv_at hl 0 rfl) ?_
        refine va_get (D := (dC, dI)) (ci := 10) (v := .ref wy) (C := RX10) (T := TX10) (N := 14) hx hb hg inG10 hown hK.1 hP 0 rfl rfl 1 (Nat.le_of_ble_eq_true rfl) (hg _ wt_303) (fun _ h9 => h9) rfl dX10_quiet_40 ?_
        refine va_getN (D := (dC, dI)) (ci := 9) (v := .int (nI N)) (C := RX9) (T := TX9) (N := 9) hx hb hg inG9 hown hK.1 hP 11 rfl rfl 0 (Nat.le_of_ble_eq_true rfl) (hK.nest wn_60) (fun _ h9 => h9) rfl dX10_quiet_43 ?_
        refine lv_bipush (v := (-4)) hx hb dX10_quiet_46 rfl ?_
        obtain ⟨hPc, hDc, hFc⟩ := va_sub3 (ws' := [(od, .inr (4, [.long w0, .ref sa, .ref aa])), (sa, .inl (G 1, 10, .inr (.inl f))), (aa, .inl (G 1, 10, .inr (.inl g))), (wy, .inr (9, [.int (nI N), .int (nI B), .int (nI D), .ref a1, .ref a2, .ref a3, .ref a4, .ref a5, .ref a6])), (a1, .inl (G 0, 10, .inl f1)), (a2, .inl (G 0, 10, .inl f2)), (a3, .inl (G 0, 10, .inl f3)), (a4, .inl (G 0, 6, .inl f4)), (a5, .inl (G 0, 6, .inl f5)), (a6, .inl (G 0, 6, .inl f6))]) hP hD hS hA [1, 2, 3, 11, 12, 13, 14, 15, 16, 17] (by decide +kernel) rfl
        refine va_calll (va_runVN (As := [.ref wy, .int (nI N), .int (-4)]) (rest := []) ⟨hx, hb, hml, hown, hg⟩ (c_X4_waking l dC dI G _ od sa aa wy a1 a2 a3 a4 a5 a6 N B D N (-4) w0 f1 f2 f3 f4 f5 f6 f g hN_N hB_B hD_D hN_N) (kwVN hg hK mfX4_waking wn_608 ⟨Nat.le_of_ble_eq_true rfl, Nat.le_of_ble_eq_true rfl⟩) (preVW hK hPc hDc (ci := 4) (r := (RX4, TX4, 3)) rfl rfl) rfl rfl hl.1 rfl (lv_room (Nat.le_of_ble_eq_true rfl)) dX10_quiet_48 ⟨Nat.le_of_ble_eq_true rfl, Nat.le_of_ble_eq_true rfl⟩) hS (fun q _ h => hFc q h) hFc (fun r16 ur16 t H1 locs ht hvm w17 hB hz1 hk1 hS => ?_)
        obtain ⟨u18, u19, u20⟩ := ur16
        obtain ⟨hP1, hD1⟩ := hB
        rw [ht] at hP1
        obtain ⟨hP, hD⟩ := va_join (wr := [(h0, .inr (10, [.ref rd, .ref wy, .ref tr, .ref im, .ref kp, .ref od, .ref ch, .ref cr, .ref le, .ref mk, .ref tl, .ref sh, .int tf, .int rf])), (tr, .inr (9, [.int (nI N), .int (nI B), .int (nI D), .ref tc1, .ref tc2, .ref tc3, .ref tc4, .ref tc5, .ref tc6])), (tc1, .inl (G 0, 10, .inl u10)), (tc2, .inl (G 0, 10, .inl u11)), (tc3, .inl (G 0, 10, .inl u12)), (tc4, .inl (G 0, 6, .inl u13)), (tc5, .inl (G 0, 6, .inl u14)), (tc6, .inl (G 0, 6, .inl u15))]) (w1 := [(od, .inr (4, [.long u18, .ref sa, .ref aa])), (sa, .inl (G 1, 10, .inr (.inl u19))), (aa, .inl (G 1, 10, .inr (.inl u20))), (wy, .inr (9, [.int (nI N), .int (nI B), .int (nI D), .ref a1, .ref a2, .ref a3, .ref a4, .ref a5, .ref a6])), (a1, .inl (G 0, 10, .inl f1)), (a2, .inl (G 0, 10, .inl f2)), (a3, .inl (G 0, 10, .inl f3)), (a4, .inl (G 0, 6, .inl f4)), (a5, .inl (G 0, 6, .inl f5)), (a6, .inl (G 0, 6, .inl f6))]) hP hD [1, 2, 3, 11, 12, 13, 14, 15, 16, 17] [0, 4, 5, 6, 7, 8, 9, 10] rfl rfl (by decide +kernel) (by decide +kernel) hk1 hFc hP1 hD1
        generalize H1 = H at hP hS ⊢
        obtain ⟨w17, w17x⟩ := w17
        refine lv_lstore_n (lv' := [(3, .long r16), (0, .ref h0), (1, .int mm), (2, .int what)]) hx hb dX10_quiet_51 rfl hl (by decide) rfl (fun ls hl => ?_)
        refine lv_iconst (v := 0) hx hb dX10_quiet_52 rfl ?_
        refine lv_istore (lv' := [(5, .int 0), (3, .long r16), (0, .ref h0), (1, .int mm), (2, .int what)]) hx hb dX10_quiet_53 hl (by decide) rfl (fun ls hl => ?_)
        refine lv_iconst (v := 1) hx hb dX10_quiet_55 rfl ?_
        refine lv_istore (lv' := [(6, .int 1), (5, .int 0), (3, .long r16), (0, .ref h0), (1, .int mm), (2, .int what)]) hx hb dX10_quiet_56 hl (by decide) rfl (fun ls hl => ?_)
        have loop58_28 : ∀ (nf j21 : Nat), 1024 + 1 ≤ j21 + nf → j21 ≤ 1024 → 1 ≤ j21 → ∀ (y22 : Int32) (y23 : Int64) (g24 : Nat → Int32) (y25 : Int64) (g26 : Nat → Int64) (g27 : Nat → Int64) (H : Heap) (locs : List Loc), va_P (dC, dI) vwCl [(h0, .inr (10, [.ref rd, .ref wy, .ref tr, .ref im, .ref kp, .ref od, .ref ch, .ref cr, .ref le, .ref mk, .ref tl, .ref sh, .int tf, .int rf])), (tr, .inr (9, [.int (nI N), .int (nI B), .int (nI D), .ref tc1, .ref tc2, .ref tc3, .ref tc4, .ref tc5, .ref tc6])), (tc1, .inl (G 0, 10, .inl g24)), (tc2, .inl (G 0, 10, .inl u11)), (tc3, .inl (G 0, 10, .inl u12)), (tc4, .inl (G 0, 6, .inl u13)), (tc5, .inl (G 0, 6, .inl u14)), (tc6, .inl (G 0, 6, .inl u15)), (od, .inr (4, [.long y25, .ref sa, .ref aa])), (sa, .inl (G 1, 10, .inr (.inl g26))), (aa, .inl (G 1, 10, .inr (.inl g27))), (wy, .inr (9, [.int (nI N), .int (nI B), .int (nI D), .ref a1, .ref a2, .ref a3, .ref a4, .ref a5, .ref a6])), (a1, .inl (G 0, 10, .inl f1)), (a2, .inl (G 0, 10, .inl f2)), (a3, .inl (G 0, 10, .inl f3)), (a4, .inl (G 0, 6, .inl f4)), (a5, .inl (G 0, 6, .inl f5)), (a6, .inl (G 0, 6, .inl f6))] H → va_D A [(h0, .inr (10, [.ref rd, .ref wy, .ref tr, .ref im, .ref kp, .ref od, .ref ch, .ref cr, .ref le, .ref mk, .ref tl, .ref sh, .int tf, .int rf])), (tr, .inr (9, [.int (nI N), .int (nI B), .int (nI D), .ref tc1, .ref tc2, .ref tc3, .ref tc4, .ref tc5, .ref tc6])), (tc1, .inl (G 0, 10, .inl g24)), (tc2, .inl (G 0, 10, .inl u11)), (tc3, .inl (G 0, 10, .inl u12)), (tc4, .inl (G 0, 6, .inl u13)), (tc5, .inl (G 0, 6, .inl u14)), (tc6, .inl (G 0, 6, .inl u15)), (od, .inr (4, [.long y25, .ref sa, .ref aa])), (sa, .inl (G 1, 10, .inr (.inl g26))), (aa, .inl (G 1, 10, .inr (.inl g27))), (wy, .inr (9, [.int (nI N), .int (nI B), .int (nI D), .ref a1, .ref a2, .ref a3, .ref a4, .ref a5, .ref a6])), (a1, .inl (G 0, 10, .inl f1)), (a2, .inl (G 0, 10, .inl f2)), (a3, .inl (G 0, 10, .inl f3)), (a4, .inl (G 0, 6, .inl f4)), (a5, .inl (G 0, 6, .inl f5)), (a6, .inl (G 0, 6, .inl f6))] → va_S A s.heap H locs → ∀ (ls : Array Slot), lv_has ls 10 [(6, .int (nI j21)), (5, .int y22), (3, .long y23), (0, .ref h0), (1, .int mm), (2, .int what)] → W p l e (headSpec (Cond.code yX10_quiet cX10_quiet 10 (some .long) :: GT) ({ frames := 5, cells := 0, slots := 0, locals := 121 } : Room)).room s m ([.ref h0, .int mm, .int what] : List Value).toArray below meth c H locs 0 0 (MQ below (va_Ql (fun (r : Int64) (u : Nat × Nat × Nat × (Nat → Int32) × (Nat → Int32) × (Nat → Int32) × (Nat → Int32) × (Nat → Int32) × (Nat → Int32) × Int64 × (Nat → Int64) × (Nat → Int64)) => match u with | (u0, u1, u2, u3, u4, u5, u6, u7, u8, u9, v1, v2) => (True) ∧ u0 ≤ 10 ∧ u1 ≤ 6 ∧ (1 ≤ u2 ∧ u2 ≤ 9)) (fun (u : Nat × Nat × Nat × (Nat → Int32) × (Nat → Int32) × (Nat → Int32) × (Nat → Int32) × (Nat → Int32) × (Nat → Int32) × Int64 × (Nat → Int64) × (Nat → Int64)) (t : State) => match u with | (u0, u1, u2, u3, u4, u5, u6, u7, u8, u9, v1, v2) => va_P (dC, dI) vwCl [(h0, .inr (10, [.ref rd, .ref wy, .ref tr, .ref im, .ref kp, .ref od, .ref ch, .ref cr, .ref le, .ref mk, .ref tl, .ref sh, .int tf, .int rf])), (tr, .inr (9, [.int (nI u0), .int (nI u1), .int (nI u2), .ref tc1, .ref tc2, .ref tc3, .ref tc4, .ref tc5, .ref tc6])), (tc1, .inl (G 0, 10, .inl u3)), (tc2, .inl (G 0, 10, .inl u4)), (tc3, .inl (G 0, 10, .inl u5)), (tc4, .inl (G 0, 6, .inl u6)), (tc5, .inl (G 0, 6, .inl u7)), (tc6, .inl (G 0, 6, .inl u8)), (od, .inr (4, [.long u9, .ref sa, .ref aa])), (sa, .inl (G 1, 10, .inr (.inl v1))), (aa, .inl (G 1, 10, .inr (.inl v2))), (wy, .inr (9, [.int (nI N), .int (nI B), .int (nI D), .ref a1, .ref a2, .ref a3, .ref a4, .ref a5, .ref a6])), (a1, .inl (G 0, 10, .inl f1)), (a2, .inl (G 0, 10, .inl f2)), (a3, .inl (G 0, 10, .inl f3)), (a4, .inl (G 0, 6, .inl f4)), (a5, .inl (G 0, 6, .inl f5)), (a6, .inl (G 0, 6, .inl f6))] t.heap ∧ va_D A [(h0, .inr (10, [.ref rd, .ref wy, .ref tr, .ref im, .ref kp, .ref od, .ref ch, .ref cr, .ref le, .ref mk, .ref tl, .ref sh, .int tf, .int rf])), (tr, .inr (9, [.int (nI u0), .int (nI u1), .int (nI u2), .ref tc1, .ref tc2, .ref tc3, .ref tc4, .ref tc5, .ref tc6])), (tc1, .inl (G 0, 10, .inl u3)), (tc2, .inl (G 0, 10, .inl u4)), (tc3, .inl (G 0, 10, .inl u5)), (tc4, .inl (G 0, 6, .inl u6)), (tc5, .inl (G 0, 6, .inl u7)), (tc6, .inl (G 0, 6, .inl u8)), (od, .inr (4, [.long u9, .ref sa, .ref aa])), (sa, .inl (G 1, 10, .inr (.inl v1))), (aa, .inl (G 1, 10, .inr (.inl v2))), (wy, .inr (9, [.int (nI N), .int (nI B), .int (nI D), .ref a1, .ref a2, .ref a3, .ref a4, .ref a5, .ref a6])), (a1, .inl (G 0, 10, .inl f1)), (a2, .inl (G 0, 10, .inl f2)), (a3, .inl (G 0, 10, .inl f3)), (a4, .inl (G 0, 6, .inl f4)), (a5, .inl (G 0, 6, .inl f5)), (a6, .inl (G 0, 6, .inl f6))]) A) ([.ref h0, .int mm, .int what] : List Value).toArray s 0 0 A) (F0 m 58 ls []) := by
          intro nf
          induction nf with
          | zero => intro j21 h1 h2; exact absurd h1 (by omega)
          | succ nf ih58_28 =>
            intro j21 hn29 hj30 hlo_j21 y22 y23 g24 y25 g26 g27 H locs hP hD hS ls hl
            refine lv_iload hx hb dX10_quiet_58 (lv_at hl 0 rfl) ?_
            refine lv_iconst (v := 1) hx hb dX10_quiet_60 rfl ?_
            refine lv_aload_n hx hb dX10_quiet_61 rfl (lv_at hl 3 rfl) ?_
            refine va_get (D := (dC, dI)) (ci := 10) (v := .ref wy) (C := RX10) (T := TX10) (N := 14) hx hb hg inG10 hown hK.1 hP 0 rfl rfl 1 (Nat.le_of_ble_eq_true rfl) (hg _ wt_303) (fun _ h9 => h9) rfl dX10_quiet_62 ?_
            refine va_getN (D := (dC, dI)) (ci := 9) (v := .int (nI N)) (C := RX9) (T := TX9) (N := 9) hx hb hg inG9 hown hK.1 hP 11 rfl rfl 0 (Nat.le_of_ble_eq_true rfl) (hK.nest wn_60) (fun _ h9 => h9) rfl dX10_quiet_65 ?_
            refine lv_ishl hx hb dX10_quiet_68 ?_
            obtain ⟨k31, hk31, ek31⟩ := shl_le (N := N) (by omega)
            refine lv_cg (y := nI k31) (by exact ek31) ?_
            refine lv_icmp_ge (tgt := 153) hx hb dX10_quiet_69 rfl (fun c32 => ?_) (fun c32 => ?_)
            · skip
              have tn283_ : nIT j21 := fun _ => nI_toInt (by first | omega | (have t := leI c32; omega))
              have tn284_ : nIT k31 := fun _ => nI_toInt (by omega)
              have n33 : k31 ≤ j21 := by have t := leI c32; rw [show (nI (j21)).toInt = ((j21 : Nat) : Int) from tn283_ ()] at t; rw [show (nI (k31)).toInt = ((k31 : Nat) : Int) from tn284_ ()] at t; omega
              refine lv_iload_n hx hb dX10_quiet_153 rfl (lv_at hl 5 rfl) ?_
              refine lv_iconst (v := 2) hx hb dX10_quiet_154 rfl ?_
              have cut176_35 : ∀ (y34 : Int64) (H : Heap) (locs : List Loc), va_P (dC, dI) vwCl [(h0, .inr (10, [.ref rd, .ref wy, .ref tr, .ref im, .ref kp, .ref od, .ref ch, .ref cr, .ref le, .ref mk, .ref tl, .ref sh, .int tf, .int rf])), (tr, .inr (9, [.int (nI N), .int (nI B), .int (nI D), .ref tc1, .ref tc2, .ref tc3, .ref tc4, .ref tc5, .ref tc6])), (tc1, .inl (G 0, 10, .inl g24)), (tc2, .inl (G 0, 10, .inl u11)), (tc3, .inl (G 0, 10, .inl u12)), (tc4, .inl (G 0, 6, .inl u13)), (tc5, .inl (G 0, 6, .inl u14)), (tc6, .inl (G 0, 6, .inl u15)), (od, .inr (4, [.long y25, .ref sa, .ref aa])), (sa, .inl (G 1, 10, .inr (.inl g26))), (aa, .inl (G 1, 10, .inr (.inl g27))), (wy, .inr (9, [.int (nI N), .int (nI B), .int (nI D), .ref a1, .ref a2, .ref a3, .ref a4, .ref a5, .ref a6])), (a1, .inl (G 0, 10, .inl f1)), (a2, .inl (G 0, 10, .inl f2)), (a3, .inl (G 0, 10, .inl f3)), (a4, .inl (G 0, 6, .inl f4)), (a5, .inl (G 0, 6, .inl f5)), (a6, .inl (G 0, 6, .inl f6))] H → va_D A [(h0, .inr (10, [.ref rd, .ref wy, .ref tr, .ref im, .ref kp, .ref od, .ref ch, .ref cr, .ref le, .ref mk, .ref tl, .ref sh, .int tf, .int rf])), (tr, .inr (9, [.int (nI N), .int (nI B), .int (nI D), .ref tc1, .ref tc2, .ref tc3, .ref tc4, .ref tc5, .ref tc6])), (tc1, .inl (G 0, 10, .inl g24)), (tc2, .inl (G 0, 10, .inl u11)), (tc3, .inl (G 0, 10, .inl u12)), (tc4, .inl (G 0, 6, .inl u13)), (tc5, .inl (G 0, 6, .inl u14)), (tc6, .inl (G 0, 6, .inl u15)), (od, .inr (4, [.long y25, .ref sa, .ref aa])), (sa, .inl (G 1, 10, .inr (.inl g26))), (aa, .inl (G 1, 10, .inr (.inl g27))), (wy, .inr (9, [.int (nI N), .int (nI B), .int (nI D), .ref a1, .ref a2, .ref a3, .ref a4, .ref a5, .ref a6])), (a1, .inl (G 0, 10, .inl f1)), (a2, .inl (G 0, 10, .inl f2)), (a3, .inl (G 0, 10, .inl f3)), (a4, .inl (G 0, 6, .inl f4)), (a5, .inl (G 0, 6, .inl f5)), (a6, .inl (G 0, 6, .inl f6))] → va_S A s.heap H locs → ∀ (ls : Array Slot), lv_has ls 10 [(6, .int (nI j21)), (5, .int y22), (3, .long y23), (0, .ref h0), (1, .int mm), (2, .int what)] → W p l e (headSpec (Cond.code yX10_quiet cX10_quiet 10 (some .long) :: GT) ({ frames := 5, cells := 0, slots := 0, locals := 121 } : Room)).room s m ([.ref h0, .int mm, .int what] : List Value).toArray below meth c H locs 0 0 (MQ below (va_Ql (fun (r : Int64) (u : Nat × Nat × Nat × (Nat → Int32) × (Nat → Int32) × (Nat → Int32) × (Nat → Int32) × (Nat → Int32) × (Nat → Int32) × Int64 × (Nat → Int64) × (Nat → Int64)) => match u with | (u0, u1, u2, u3, u4, u5, u6, u7, u8, u9, v1, v2) => (True) ∧ u0 ≤ 10 ∧ u1 ≤ 6 ∧ (1 ≤ u2 ∧ u2 ≤ 9)) (fun (u : Nat × Nat × Nat × (Nat → Int32) × (Nat → Int32) × (Nat → Int32) × (Nat → Int32) × (Nat → Int32) × (Nat → Int32) × Int64 × (Nat → Int64) × (Nat → Int64)) (t : State) => match u with | (u0, u1, u2, u3, u4, u5, u6, u7, u8, u9, v1, v2) => va_P (dC, dI) vwCl [(h0, .inr (10, [.ref rd, .ref wy, .ref tr, .ref im, .ref kp, .ref od, .ref ch, .ref cr, .ref le, .ref mk, .ref tl, .ref sh, .int tf, .int rf])), (tr, .inr (9, [.int (nI u0), .int (nI u1), .int (nI u2), .ref tc1, .ref tc2, .ref tc3, .ref tc4, .ref tc5, .ref tc6])), (tc1, .inl (G 0, 10, .inl u3)), (tc2, .inl (G 0, 10, .inl u4)), (tc3, .inl (G 0, 10, .inl u5)), (tc4, .inl (G 0, 6, .inl u6)), (tc5, .inl (G 0, 6, .inl u7)), (tc6, .inl (G 0, 6, .inl u8)), (od, .inr (4, [.long u9, .ref sa, .ref aa])), (sa, .inl (G 1, 10, .inr (.inl v1))), (aa, .inl (G 1, 10, .inr (.inl v2))), (wy, .inr (9, [.int (nI N), .int (nI B), .int (nI D), .ref a1, .ref a2, .ref a3, .ref a4, .ref a5, .ref a6])), (a1, .inl (G 0, 10, .inl f1)), (a2, .inl (G 0, 10, .inl f2)), (a3, .inl (G 0, 10, .inl f3)), (a4, .inl (G 0, 6, .inl f4)), (a5, .inl (G 0, 6, .inl f5)), (a6, .inl (G 0, 6, .inl f6))] t.heap ∧ va_D A [(h0, .inr (10, [.ref rd, .ref wy, .ref tr, .ref im, .ref kp, .ref od, .ref ch, .ref cr, .ref le, .ref mk, .ref tl, .ref sh, .int tf, .int rf])), (tr, .inr (9, [.int (nI u0), .int (nI u1), .int (nI u2), .ref tc1, .ref tc2, .ref tc3, .ref tc4, .ref tc5, .ref tc6])), (tc1, .inl (G 0, 10, .inl u3)), (tc2, .inl (G 0, 10, .inl u4)), (tc3, .inl (G 0, 10, .inl u5)), (tc4, .inl (G 0, 6, .inl u6)), (tc5, .inl (G 0, 6, .inl u7)), (tc6, .inl (G 0, 6, .inl u8)), (od, .inr (4, [.long u9, .ref sa, .ref aa])), (sa, .inl (G 1, 10, .inr (.inl v1))), (aa, .inl (G 1, 10, .inr (.inl v2))), (wy, .inr (9, [.int (nI N), .int (nI B), .int (nI D), .ref a1, .ref a2, .ref a3, .ref a4, .ref a5, .ref a6])), (a1, .inl (G 0, 10, .inl f1)), (a2, .inl (G 0, 10, .inl f2)), (a3, .inl (G 0, 10, .inl f3)), (a4, .inl (G 0, 6, .inl f4)), (a5, .inl (G 0, 6, .inl f5)), (a6, .inl (G 0, 6, .inl f6))]) A) ([.ref h0, .int mm, .int what] : List Value).toArray s 0 0 A) (F0 m 176 ls [.long y34]) := by
                intro y34 H locs hP hD hS ls hl
                have hpost : True := by
                  trivial
                obtain ⟨hP9, hD9⟩ := va_sub2 (ws' := [(h0, .inr (10, [.ref rd, .ref wy, .ref tr, .ref im, .ref kp, .ref od, .ref ch, .ref cr, .ref le, .ref mk, .ref tl, .ref sh, .int tf, .int rf])), (tr, .inr (9, [.int (nI N), .int (nI B), .int (nI D), .ref tc1, .ref tc2, .ref tc3, .ref tc4, .ref tc5, .ref tc6])), (tc1, .inl (G 0, 10, .inl g24)), (tc2, .inl (G 0, 10, .inl u11)), (tc3, .inl (G 0, 10, .inl u12)), (tc4, .inl (G 0, 6, .inl u13)), (tc5, .inl (G 0, 6, .inl u14)), (tc6, .inl (G 0, 6, .inl u15)), (od, .inr (4, [.long y25, .ref sa, .ref aa])), (sa, .inl (G 1, 10, .inr (.inl g26))), (aa, .inl (G 1, 10, .inr (.inl g27))), (wy, .inr (9, [.int (nI N), .int (nI B), .int (nI D), .ref a1, .ref a2, .ref a3, .ref a4, .ref a5, .ref a6])), (a1, .inl (G 0, 10, .inl f1)), (a2, .inl (G 0, 10, .inl f2)), (a3, .inl (G 0, 10, .inl f3)), (a4, .inl (G 0, 6, .inl f4)), (a5, .inl (G 0, 6, .inl f5)), (a6, .inl (G 0, 6, .inl f6))]) hP hD [0, 1, 2, 3, 4, 5, 6, 7, 8, 9, 10, 11, 12, 13, 14, 15, 16, 17] (by decide +kernel) rfl
                refine W.widen (k := 0) (n := 0) (Nat.le_of_ble_eq_true rfl) (Nat.le_of_ble_eq_true rfl) ?_
                exact W.lret (v := y34) hx hb hr (fun t ht hW => ⟨⟨y34, (N, B, D, g24, u11, u12, u13, u14, u15, y25, g26, g27), rfl, ⟨hpost, (by have t_c2 := nltI c2; have t_c3 := nltI c3; have t_b7 := b7; have t_hj30 := hj30; have t_hlo_j21 := hlo_j21; have t_hk31 := hk31; have t_n33 := n33; have tqz_ := qz9_; have tnb_ := nib8 tn280_ tn281_ tn282_ tn277_ tn278_ tn279_ tn283_ tn284_; omega)⟩, ⟨by rw [ht]; exact hP9, hD9⟩⟩, hS.F ht⟩) hS.2.2 dX10_quiet_176
              refine lv_icmp_ne (tgt := 164) hx hb dX10_quiet_155 rfl (fun c36 => ?_) (fun c36 => ?_)
              · skip
                refine lv_lload_n hx hb dX10_quiet_164 rfl (lv_at hl 2 rfl) ?_
                refine lv_aload_n hx hb dX10_quiet_165 rfl (lv_at hl 3 rfl) ?_
                refine va_get (D := (dC, dI)) (ci := 10) (v := .ref od) (C := RX10) (T := TX10) (N := 14) hx hb hg inG10 hown hK.1 hP 0 rfl rfl 5 (Nat.le_of_ble_eq_true rfl) (hg _ wt_307) (fun _ h9 => h9) rfl dX10_quiet_166 ?_
                refine va_getN (D := (dC, dI)) (ci := 4) (v := .long y25) (C := RX4) (T := TX4) (N := 3) hx hb hg inG4 hown hK.1 hP 8 rfl rfl 0 (Nat.le_of_ble_eq_true rfl) (hK.nest wn_157) (fun _ h9 => h9) rfl dX10_quiet_169 ?_
                refine lv_iload_n hx hb dX10_quiet_172 rfl (lv_at hl 5 rfl) ?_
                have hPc := hP.sub (ws' := []) [] rfl
                refine va_calll (va_runS (As := [.long y23, .long y25, .int what]) (rest := []) ⟨hx, hb, hml, hown, hg⟩ (c_X10_fraction l dC dI G _ what y23 y25) (kwS hg mfX10_fraction wt_635 ⟨Nat.le_of_ble_eq_true rfl, Nat.le_of_ble_eq_true rfl⟩) (preSR hK hPc) rfl rfl hl.1 rfl (lv_room (Nat.le_of_ble_eq_true rfl)) dX10_quiet_173 ⟨Nat.le_of_ble_eq_true rfl, Nat.le_of_ble_eq_true rfl⟩) hS (fun q h1 h2 => absurd h2 (Nat.not_le.mpr h1)) (fun q h => hA q (Nat.le_trans hS.1 h)) (fun r37 ur37 t H1 locs ht hvm w38 hB hz1 hk1 hS => ?_)
                have hP := keepR hP hk1
                obtain ⟨w38, w38x⟩ := w38
                exact cut176_35 r37 _ _ hP hD hS ls (lv_sub hl [0, 1, 2, 3, 4, 5] rfl)
              · skip
                refine lv_iload hx hb dX10_quiet_158 (lv_at hl 1 rfl) ?_
                refine lv_i2l (v := y22.toInt64) hx hb dX10_quiet_160 rfl ?_
                refine lv_goto (tgt := 176) hx hb dX10_quiet_161 rfl ?_
                exact cut176_35 y22.toInt64 _ _ hP hD hS ls (lv_sub hl [0, 1, 2, 3, 4, 5] rfl)
            · skip
              have tn285_ : nIT j21 := fun _ => nI_toInt (by first | omega | (have t := nleI c32; omega))
              have tn286_ : nIT k31 := fun _ => nI_toInt (by omega)
              have n39 : j21 < k31 := by have t := nleI c32; rw [show (nI (j21)).toInt = ((j21 : Nat) : Int) from tn285_ ()] at t; rw [show (nI (k31)).toInt = ((k31 : Nat) : Int) from tn286_ ()] at t; omega
              refine lv_iload hx hb dX10_quiet_72 (lv_at hl 0 rfl) ?_
              have hPc := hP.sub (ws' := []) [] rfl
              refine va_calli (va_runS (As := [.int (nI j21)]) (rest := []) ⟨hx, hb, hml, hown, hg⟩ (c_J6_bitCount l dC dI G _ (nI j21)) (kwS hg mfJ6_bitCount_0f7a4 wt_697 ⟨Nat.le_of_ble_eq_true rfl, Nat.le_of_ble_eq_true rfl⟩) (preSR hK hPc) rfl rfl hl.1 rfl (lv_room (Nat.le_of_ble_eq_true rfl)) dX10_quiet_74 ⟨Nat.le_of_ble_eq_true rfl, Nat.le_of_ble_eq_true rfl⟩) hS (fun q h1 h2 => absurd h2 (Nat.not_le.mpr h1)) (fun q h => hA q (Nat.le_trans hS.1 h)) (fun r40 ur40 t H1 locs ht hvm w41 hB hz1 hk1 hS => ?_)
              have hP := keepR hP hk1
              obtain ⟨w41, w41x⟩ := w41
              refine lv_istore (lv' := [(7, .int r40), (6, .int (nI j21)), (5, .int y22), (3, .long y23), (0, .ref h0), (1, .int mm), (2, .int what)]) hx hb dX10_quiet_77 hl (by decide) rfl (fun ls hl => ?_)
              refine lv_iload hx hb dX10_quiet_79 (lv_at hl 0 rfl) ?_
              refine lv_iload_n hx hb dX10_quiet_81 rfl (lv_at hl 5 rfl) ?_
              have cut147_48 : ∀ (y42 : Int32) (y43 : Int64) (y44 : Int64) (g45 : Nat → Int64) (g46 : Nat → Int64) (g47 : Nat → Int32) (H : Heap) (locs : List Loc), va_P (dC, dI) vwCl [(a2, .inl (G 0, 10, .inl f2)), (a3, .inl (G 0, 10, .inl f3)), (a4, .inl (G 0, 6, .inl f4)), (a5, .inl (G 0, 6, .inl f5)), (a6, .inl (G 0, 6, .inl f6)), (h0, .inr (10, [.ref rd, .ref wy, .ref tr, .ref im, .ref kp, .ref od, .ref ch, .ref cr, .ref le, .ref mk, .ref tl, .ref sh, .int tf, .int rf])), (wy, .inr (9, [.int (nI N), .int (nI B), .int (nI D), .ref a1, .ref a2, .ref a3, .ref a4, .ref a5, .ref a6])), (a1, .inl (G 0, 10, .inl f1)), (od, .inr (4, [.long y44, .ref sa, .ref aa])), (sa, .inl (G 1, 10, .inr (.inl g45))), (aa, .inl (G 1, 10, .inr (.inl g46))), (tr, .inr (9, [.int (nI N), .int (nI B), .int (nI D), .ref tc1, .ref tc2, .ref tc3, .ref tc4, .ref tc5, .ref tc6])), (tc1, .inl (G 0, 10, .inl g47)), (tc2, .inl (G 0, 10, .inl u11)), (tc3, .inl (G 0, 10, .inl u12)), (tc4, .inl (G 0, 6, .inl u13)), (tc5, .inl (G 0, 6, .inl u14)), (tc6, .inl (G 0, 6, .inl u15))] H → va_D A [(a2, .inl (G 0, 10, .inl f2)), (a3, .inl (G 0, 10, .inl f3)), (a4, .inl (G 0, 6, .inl f4)), (a5, .inl (G 0, 6, .inl f5)), (a6, .inl (G 0, 6, .inl f6)), (h0, .inr (10, [.ref rd, .ref wy, .ref tr, .ref im, .ref kp, .ref od, .ref ch, .ref cr, .ref le, .ref mk, .ref tl, .ref sh, .int tf, .int rf])), (wy, .inr (9, [.int (nI N), .int (nI B), .int (nI D), .ref a1, .ref a2, .ref a3, .ref a4, .ref a5, .ref a6])), (a1, .inl (G 0, 10, .inl f1)), (od, .inr (4, [.long y44, .ref sa, .ref aa])), (sa, .inl (G 1, 10, .inr (.inl g45))), (aa, .inl (G 1, 10, .inr (.inl g46))), (tr, .inr (9, [.int (nI N), .int (nI B), .int (nI D), .ref tc1, .ref tc2, .ref tc3, .ref tc4, .ref tc5, .ref tc6])), (tc1, .inl (G 0, 10, .inl g47)), (tc2, .inl (G 0, 10, .inl u11)), (tc3, .inl (G 0, 10, .inl u12)), (tc4, .inl (G 0, 6, .inl u13)), (tc5, .inl (G 0, 6, .inl u14)), (tc6, .inl (G 0, 6, .inl u15))] → va_S A s.heap H locs → ∀ (ls : Array Slot), lv_has ls 10 [(7, .int r40), (6, .int (nI j21)), (5, .int y42), (3, .long y43), (0, .ref h0), (1, .int mm), (2, .int what)] → W p l e (headSpec (Cond.code yX10_quiet cX10_quiet 10 (some .long) :: GT) ({ frames := 5, cells := 0, slots := 0, locals := 121 } : Room)).room s m ([.ref h0, .int mm, .int what] : List Value).toArray below meth c H locs 0 0 (MQ below (va_Ql (fun (r : Int64) (u : Nat × Nat × Nat × (Nat → Int32) × (Nat → Int32) × (Nat → Int32) × (Nat → Int32) × (Nat → Int32) × (Nat → Int32) × Int64 × (Nat → Int64) × (Nat → Int64)) => match u with | (u0, u1, u2, u3, u4, u5, u6, u7, u8, u9, v1, v2) => (True) ∧ u0 ≤ 10 ∧ u1 ≤ 6 ∧ (1 ≤ u2 ∧ u2 ≤ 9)) (fun (u : Nat × Nat × Nat × (Nat → Int32) × (Nat → Int32) × (Nat → Int32) × (Nat → Int32) × (Nat → Int32) × (Nat → Int32) × Int64 × (Nat → Int64) × (Nat → Int64)) (t : State) => match u with | (u0, u1, u2, u3, u4, u5, u6, u7, u8, u9, v1, v2) => va_P (dC, dI) vwCl [(h0, .inr (10, [.ref rd, .ref wy, .ref tr, .ref im, .ref kp, .ref od, .ref ch, .ref cr, .ref le, .ref mk, .ref tl, .ref sh, .int tf, .int rf])), (tr, .inr (9, [.int (nI u0), .int (nI u1), .int (nI u2), .ref tc1, .ref tc2, .ref tc3, .ref tc4, .ref tc5, .ref tc6])), (tc1, .inl (G 0, 10, .inl u3)), (tc2, .inl (G 0, 10, .inl u4)), (tc3, .inl (G 0, 10, .inl u5)), (tc4, .inl (G 0, 6, .inl u6)), (tc5, .inl (G 0, 6, .inl u7)), (tc6, .inl (G 0, 6, .inl u8)), (od, .inr (4, [.long u9, .ref sa, .ref aa])), (sa, .inl (G 1, 10, .inr (.inl v1))), (aa, .inl (G 1, 10, .inr (.inl v2))), (wy, .inr (9, [.int (nI N), .int (nI B), .int (nI D), .ref a1, .ref a2, .ref a3, .ref a4, .ref a5, .ref a6])), (a1, .inl (G 0, 10, .inl f1)), (a2, .inl (G 0, 10, .inl f2)), (a3, .inl (G 0, 10, .inl f3)), (a4, .inl (G 0, 6, .inl f4)), (a5, .inl (G 0, 6, .inl f5)), (a6, .inl (G 0, 6, .inl f6))] t.heap ∧ va_D A [(h0, .inr (10, [.ref rd, .ref wy, .ref tr, .ref im, .ref kp, .ref od, .ref ch, .ref cr, .ref le, .ref mk, .ref tl, .ref sh, .int tf, .int rf])), (tr, .inr (9, [.int (nI u0), .int (nI u1), .int (nI u2), .ref tc1, .ref tc2, .ref tc3, .ref tc4, .ref tc5, .ref tc6])), (tc1, .inl (G 0, 10, .inl u3)), (tc2, .inl (G 0, 10, .inl u4)), (tc3, .inl (G 0, 10, .inl u5)), (tc4, .inl (G 0, 6, .inl u6)), (tc5, .inl (G 0, 6, .inl u7)), (tc6, .inl (G 0, 6, .inl u8)), (od, .inr (4, [.long u9, .ref sa, .ref aa])), (sa, .inl (G 1, 10, .inr (.inl v1))), (aa, .inl (G 1, 10, .inr (.inl v2))), (wy, .inr (9, [.int (nI N), .int (nI B), .int (nI D), .ref a1, .ref a2, .ref a3, .ref a4, .ref a5, .ref a6])), (a1, .inl (G 0, 10, .inl f1)), (a2, .inl (G 0, 10, .inl f2)), (a3, .inl (G 0, 10, .inl f3)), (a4, .inl (G 0, 6, .inl f4)), (a5, .inl (G 0, 6, .inl f5)), (a6, .inl (G 0, 6, .inl f6))]) A) ([.ref h0, .int mm, .int what] : List Value).toArray s 0 0 A) (F0 m 147 ls []) := by
                intro y42 y43 y44 g45 g46 g47 H locs hP hD hS ls hl
                refine lv_iinc (v := nI (j21 + 1)) (lv' := [(6, .int (nI (j21 + 1))), (7, .int r40), (5, .int y42), (3, .long y43), (0, .ref h0), (1, .int mm), (2, .int what)]) hx hb dX10_quiet_147 hl (k := 1) rfl (by rw [show Int32.ofInt 1 = nI 1 from by decide]; exact nI_add _ _) (by decide) rfl (fun ls hl => ?_)
                refine lv_goto (tgt := 58) hx hb dX10_quiet_150 rfl ?_
                exact ih58_28 (j21 + 1) (by omega) (by omega) (by omega) y42 y43 g47 y44 g45 g46 _ _ (hP.sub [5, 11, 12, 13, 14, 15, 16, 17, 8, 9, 10, 6, 7, 0, 1, 2, 3, 4] rfl) (hD.sub [5, 11, 12, 13, 14, 15, 16, 17, 8, 9, 10, 6, 7, 0, 1, 2, 3, 4] (by decide) rfl) hS ls (lv_sub hl [0, 2, 3, 4, 5, 6] rfl)
              refine lv_icmp_le (tgt := 88) hx hb dX10_quiet_82 rfl (fun c49 => ?_) (fun c49 => ?_)
              · skip
                refine lv_aload_n hx hb dX10_quiet_88 rfl (lv_at hl 4 rfl) ?_
                refine lv_iload hx hb dX10_quiet_89 (lv_at hl 1 rfl) ?_
                obtain ⟨hPc, hDc, hFc⟩ := va_sub3 (ws' := [(h0, .inr (10, [.ref rd, .ref wy, .ref tr, .ref im, .ref kp, .ref od, .ref ch, .ref cr, .ref le, .ref mk, .ref tl, .ref sh, .int tf, .int rf])), (wy, .inr (9, [.int (nI N), .int (nI B), .int (nI D), .ref a1, .ref a2, .ref a3, .ref a4, .ref a5, .ref a6])), (a1, .inl (G 0, 10, .inl f1)), (tr, .inr (9, [.int (nI N), .int (nI B), .int (nI D), .ref tc1, .ref tc2, .ref tc3, .ref tc4, .ref tc5, .ref tc6])), (tc1, .inl (G 0, 10, .inl g24))]) hP hD hS hA [0, 11, 12, 1, 2] (by decide +kernel) rfl
                refine va_callv (va_runV (As := [.int (nI j21)]) (rest := []) ⟨hx, hb, hml, hown, hg⟩ (c_X10_stopNoises l dC dI G _ h0 rd wy tr im kp od ch cr le mk tl sh a1 a2 a3 a4 a5 a6 N B D tc1 tc2 tc3 tc4 tc5 tc6 tf rf (nI j21) f1 g24 hN_N hB_B hD_D) (kwV hg mfX10_stopNoises wt_703 ⟨Nat.le_of_ble_eq_true rfl, Nat.le_of_ble_eq_true rfl⟩) (preVW hK hPc hDc (ci := 10) (r := (RX10, TX10, 14)) rfl rfl) rfl rfl hl.1 rfl (lv_room (Nat.le_of_ble_eq_true rfl)) dX10_quiet_91 ⟨Nat.le_of_ble_eq_true rfl, Nat.le_of_ble_eq_true rfl⟩) hS (fun q _ h => hFc q h) hFc (fun ur50 t H1 locs ht hvm w51 hB hz1 hk1 hS => ?_)
                obtain ⟨u52, rfl⟩ : ∃ z, z = ur50 := ⟨_, rfl⟩
                obtain ⟨hP1, hD1⟩ := hB
                rw [ht] at hP1
                obtain ⟨hP, hD⟩ := va_join (wr := [(tc2, .inl (G 0, 10, .inl u11)), (tc3, .inl (G 0, 10, .inl u12)), (tc4, .inl (G 0, 6, .inl u13)), (tc5, .inl (G 0, 6, .inl u14)), (tc6, .inl (G 0, 6, .inl u15)), (od, .inr (4, [.long y25, .ref sa, .ref aa])), (sa, .inl (G 1, 10, .inr (.inl g26))), (aa, .inl (G 1, 10, .inr (.inl g27))), (a2, .inl (G 0, 10, .inl f2)), (a3, .inl (G 0, 10, .inl f3)), (a4, .inl (G 0, 6, .inl f4)), (a5, .inl (G 0, 6, .inl f5)), (a6, .inl (G 0, 6, .inl f6))]) (w1 := [(h0, .inr (10, [.ref rd, .ref wy, .ref tr, .ref im, .ref kp, .ref od, .ref ch, .ref cr, .ref le, .ref mk, .ref tl, .ref sh, .int tf, .int rf])), (wy, .inr (9, [.int (nI N), .int (nI B), .int (nI D), .ref a1, .ref a2, .ref a3, .ref a4, .ref a5, .ref a6])), (a1, .inl (G 0, 10, .inl f1)), (tr, .inr (9, [.int (nI N), .int (nI B), .int (nI D), .ref tc1, .ref tc2, .ref tc3, .ref tc4, .ref tc5, .ref tc6])), (tc1, .inl (G 0, 10, .inl u52))]) hP hD [0, 11, 12, 1, 2] [3, 4, 5, 6, 7, 8, 9, 10, 13, 14, 15, 16, 17] rfl rfl (by decide +kernel) (by decide +kernel) hk1 hFc hP1 hD1
                generalize H1 = H at hP hS ⊢
                refine lv_aload_n hx hb dX10_quiet_94 rfl (lv_at hl 4 rfl) ?_
                refine va_get (D := (dC, dI)) (ci := 10) (v := .ref od) (C := RX10) (T := TX10) (N := 14) hx hb hg inG10 hown hK.1 hP 13 rfl rfl 5 (Nat.le_of_ble_eq_true rfl) (hg _ wt_307) (fun _ h9 => h9) rfl dX10_quiet_95 ?_
                refine lv_aload_n hx hb dX10_quiet_98 rfl (lv_at hl 4 rfl) ?_
                refine va_get (D := (dC, dI)) (ci := 10) (v := .ref tr) (C := RX10) (T := TX10) (N := 14) hx hb hg inG10 hown hK.1 hP 13 rfl rfl 2 (Nat.le_of_ble_eq_true rfl) (hg _ wt_304) (fun _ h9 => h9) rfl dX10_quiet_99 ?_
                refine lv_aload_n hx hb dX10_quiet_102 rfl (lv_at hl 4 rfl) ?_
                refine va_get (D := (dC, dI)) (ci := 10) (v := .ref tr) (C := RX10) (T := TX10) (N := 14) hx hb hg inG10 hown hK.1 hP 13 rfl rfl 2 (Nat.le_of_ble_eq_true rfl) (hg _ wt_304) (fun _ h9 => h9) rfl dX10_quiet_103 ?_
                refine va_getN (D := (dC, dI)) (ci := 9) (v := .int (nI N)) (C := RX9) (T := TX9) (N := 9) hx hb hg inG9 hown hK.1 hP 16 rfl rfl 0 (Nat.le_of_ble_eq_true rfl) (hK.nest wn_60) (fun _ h9 => h9) rfl dX10_quiet_106 ?_
                refine lv_bipush (v := (-4)) hx hb dX10_quiet_109 rfl ?_
                obtain ⟨hPc, hDc, hFc⟩ := va_sub3 (ws' := [(od, .inr (4, [.long y25, .ref sa, .ref aa])), (sa, .inl (G 1, 10, .inr (.inl g26))), (aa, .inl (G 1, 10, .inr (.inl g27))), (tr, .inr (9, [.int (nI N), .int (nI B), .int (nI D), .ref tc1, .ref tc2, .ref tc3, .ref tc4, .ref tc5, .ref tc6])), (tc1, .inl (G 0, 10, .inl u52)), (tc2, .inl (G 0, 10, .inl u11)), (tc3, .inl (G 0, 10, .inl u12)), (tc4, .inl (G 0, 6, .inl u13)), (tc5, .inl (G 0, 6, .inl u14)), (tc6, .inl (G 0, 6, .inl u15))]) hP hD hS hA [5, 6, 7, 16, 17, 0, 1, 2, 3, 4] (by decide +kernel) rfl
                refine va_calll (va_runVN (As := [.ref tr, .int (nI N), .int (-4)]) (rest := []) ⟨hx, hb, hml, hown, hg⟩ (c_X4_waking l dC dI G _ od sa aa tr tc1 tc2 tc3 tc4 tc5 tc6 N B D N (-4) y25 u52 u11 u12 u13 u14 u15 g26 g27 hN_N hB_B hD_D hN_N) (kwVN hg hK mfX4_waking wn_608 ⟨Nat.le_of_ble_eq_true rfl, Nat.le_of_ble_eq_true rfl⟩) (preVW hK hPc hDc (ci := 4) (r := (RX4, TX4, 3)) rfl rfl) rfl rfl hl.1 rfl (lv_room (Nat.le_of_ble_eq_true rfl)) dX10_quiet_111 ⟨Nat.le_of_ble_eq_true rfl, Nat.le_of_ble_eq_true rfl⟩) hS (fun q _ h => hFc q h) hFc (fun r53 ur53 t H1 locs ht hvm w54 hB hz1 hk1 hS => ?_)
                obtain ⟨u55, u56, u57⟩ := ur53
                obtain ⟨hP1, hD1⟩ := hB
                rw [ht] at hP1
                obtain ⟨hP, hD⟩ := va_join (wr := [(a2, .inl (G 0, 10, .inl f2)), (a3, .inl (G 0, 10, .inl f3)), (a4, .inl (G 0, 6, .inl f4)), (a5, .inl (G 0, 6, .inl f5)), (a6, .inl (G 0, 6, .inl f6)), (h0, .inr (10, [.ref rd, .ref wy, .ref tr, .ref im, .ref kp, .ref od, .ref ch, .ref cr, .ref le, .ref mk, .ref tl, .ref sh, .int tf, .int rf])), (wy, .inr (9, [.int (nI N), .int (nI B), .int (nI D), .ref a1, .ref a2, .ref a3, .ref a4, .ref a5, .ref a6])), (a1, .inl (G 0, 10, .inl f1))]) (w1 := [(od, .inr (4, [.long u55, .ref sa, .ref aa])), (sa, .inl (G 1, 10, .inr (.inl u56))), (aa, .inl (G 1, 10, .inr (.inl u57))), (tr, .inr (9, [.int (nI N), .int (nI B), .int (nI D), .ref tc1, .ref tc2, .ref tc3, .ref tc4, .ref tc5, .ref tc6])), (tc1, .inl (G 0, 10, .inl u52)), (tc2, .inl (G 0, 10, .inl u11)), (tc3, .inl (G 0, 10, .inl u12)), (tc4, .inl (G 0, 6, .inl u13)), (tc5, .inl (G 0, 6, .inl u14)), (tc6, .inl (G 0, 6, .inl u15))]) hP hD [5, 6, 7, 16, 17, 0, 1, 2, 3, 4] [8, 9, 10, 11, 12, 13, 14, 15] rfl rfl (by decide +kernel) (by decide +kernel) hk1 hFc hP1 hD1
                generalize H1 = H at hP hS ⊢
                obtain ⟨w54, w54x⟩ := w54
                refine lv_lstore (lv' := [(8, .long r53), (7, .int r40), (6, .int (nI j21)), (5, .int y22), (3, .long y23), (0, .ref h0), (1, .int mm), (2, .int what)]) hx hb dX10_quiet_114 hl (by decide) rfl (fun ls hl => ?_)
                refine lv_lload hx hb dX10_quiet_116 (lv_at hl 0 rfl) ?_
                refine lv_lload_n hx hb dX10_quiet_118 rfl (lv_at hl 4 rfl) ?_
                refine W.lcmp hx hb dX10_quiet_119 ?_
                have cut140_58 : ∀ (H : Heap) (locs : List Loc), va_P (dC, dI) vwCl [(a2, .inl (G 0, 10, .inl f2)), (a3, .inl (G 0, 10, .inl f3)), (a4, .inl (G 0, 6, .inl f4)), (a5, .inl (G 0, 6, .inl f5)), (a6, .inl (G 0, 6, .inl f6)), (h0, .inr (10, [.ref rd, .ref wy, .ref tr, .ref im, .ref kp, .ref od, .ref ch, .ref cr, .ref le, .ref mk, .ref tl, .ref sh, .int tf, .int rf])), (wy, .inr (9, [.int (nI N), .int (nI B), .int (nI D), .ref a1, .ref a2, .ref a3, .ref a4, .ref a5, .ref a6])), (a1, .inl (G 0, 10, .inl f1)), (od, .inr (4, [.long u55, .ref sa, .ref aa])), (sa, .inl (G 1, 10, .inr (.inl u56))), (aa, .inl (G 1, 10, .inr (.inl u57))), (tr, .inr (9, [.int (nI N), .int (nI B), .int (nI D), .ref tc1, .ref tc2, .ref tc3, .ref tc4, .ref tc5, .ref tc6])), (tc1, .inl (G 0, 10, .inl u52)), (tc2, .inl (G 0, 10, .inl u11)), (tc3, .inl (G 0, 10, .inl u12)), (tc4, .inl (G 0, 6, .inl u13)), (tc5, .inl (G 0, 6, .inl u14)), (tc6, .inl (G 0, 6, .inl u15))] H → va_D A [(a2, .inl (G 0, 10, .inl f2)), (a3, .inl (G 0, 10, .inl f3)), (a4, .inl (G 0, 6, .inl f4)), (a5, .inl (G 0, 6, .inl f5)), (a6, .inl (G 0, 6, .inl f6)), (h0, .inr (10, [.ref rd, .ref wy, .ref tr, .ref im, .ref kp, .ref od, .ref ch, .ref cr, .ref le, .ref mk, .ref tl, .ref sh, .int tf, .int rf])), (wy, .inr (9, [.int (nI N), .int (nI B), .int (nI D), .ref a1, .ref a2, .ref a3, .ref a4, .ref a5, .ref a6])), (a1, .inl (G 0, 10, .inl f1)), (od, .inr (4, [.long u55, .ref sa, .ref aa])), (sa, .inl (G 1, 10, .inr (.inl u56))), (aa, .inl (G 1, 10, .inr (.inl u57))), (tr, .inr (9, [.int (nI N), .int (nI B), .int (nI D), .ref tc1, .ref tc2, .ref tc3, .ref tc4, .ref tc5, .ref tc6])), (tc1, .inl (G 0, 10, .inl u52)), (tc2, .inl (G 0, 10, .inl u11)), (tc3, .inl (G 0, 10, .inl u12)), (tc4, .inl (G 0, 6, .inl u13)), (tc5, .inl (G 0, 6, .inl u14)), (tc6, .inl (G 0, 6, .inl u15))] → va_S A s.heap H locs → ∀ (ls : Array Slot), lv_has ls 10 [(8, .long r53), (7, .int r40), (6, .int (nI j21)), (5, .int y22), (3, .long y23), (0, .ref h0), (1, .int mm), (2, .int what)] → W p l e (headSpec (Cond.code yX10_quiet cX10_quiet 10 (some .long) :: GT) ({ frames := 5, cells := 0, slots := 0, locals := 121 } : Room)).room s m ([.ref h0, .int mm, .int what] : List Value).toArray below meth c H locs 0 0 (MQ below (va_Ql (fun (r : Int64) (u : Nat × Nat × Nat × (Nat → Int32) × (Nat → Int32) × (Nat → Int32) × (Nat → Int32) × (Nat → Int32) × (Nat → Int32) × Int64 × (Nat → Int64) × (Nat → Int64)) => match u with | (u0, u1, u2, u3, u4, u5, u6, u7, u8, u9, v1, v2) => (True) ∧ u0 ≤ 10 ∧ u1 ≤ 6 ∧ (1 ≤ u2 ∧ u2 ≤ 9)) (fun (u : Nat × Nat × Nat × (Nat → Int32) × (Nat → Int32) × (Nat → Int32) × (Nat → Int32) × (Nat → Int32) × (Nat → Int32) × Int64 × (Nat → Int64) × (Nat → Int64)) (t : State) => match u with | (u0, u1, u2, u3, u4, u5, u6, u7, u8, u9, v1, v2) => va_P (dC, dI) vwCl [(h0, .inr (10, [.ref rd, .ref wy, .ref tr, .ref im, .ref kp, .ref od, .ref ch, .ref cr, .ref le, .ref mk, .ref tl, .ref sh, .int tf, .int rf])), (tr, .inr (9, [.int (nI u0), .int (nI u1), .int (nI u2), .ref tc1, .ref tc2, .ref tc3, .ref tc4, .ref tc5, .ref tc6])), (tc1, .inl (G 0, 10, .inl u3)), (tc2, .inl (G 0, 10, .inl u4)), (tc3, .inl (G 0, 10, .inl u5)), (tc4, .inl (G 0, 6, .inl u6)), (tc5, .inl (G 0, 6, .inl u7)), (tc6, .inl (G 0, 6, .inl u8)), (od, .inr (4, [.long u9, .ref sa, .ref aa])), (sa, .inl (G 1, 10, .inr (.inl v1))), (aa, .inl (G 1, 10, .inr (.inl v2))), (wy, .inr (9, [.int (nI N), .int (nI B), .int (nI D), .ref a1, .ref a2, .ref a3, .ref a4, .ref a5, .ref a6])), (a1, .inl (G 0, 10, .inl f1)), (a2, .inl (G 0, 10, .inl f2)), (a3, .inl (G 0, 10, .inl f3)), (a4, .inl (G 0, 6, .inl f4)), (a5, .inl (G 0, 6, .inl f5)), (a6, .inl (G 0, 6, .inl f6))] t.heap ∧ va_D A [(h0, .inr (10, [.ref rd, .ref wy, .ref tr, .ref im, .ref kp, .ref od, .ref ch, .ref cr, .ref le, .ref mk, .ref tl, .ref sh, .int tf, .int rf])), (tr, .inr (9, [.int (nI u0), .int (nI u1), .int (nI u2), .ref tc1, .ref tc2, .ref tc3, .ref tc4, .ref tc5, .ref tc6])), (tc1, .inl (G 0, 10, .inl u3)), (tc2, .inl (G 0, 10, .inl u4)), (tc3, .inl (G 0, 10, .inl u5)), (tc4, .inl (G 0, 6, .inl u6)), (tc5, .inl (G 0, 6, .inl u7)), (tc6, .inl (G 0, 6, .inl u8)), (od, .inr (4, [.long u9, .ref sa, .ref aa])), (sa, .inl (G 1, 10, .inr (.inl v1))), (aa, .inl (G 1, 10, .inr (.inl v2))), (wy, .inr (9, [.int (nI N), .int (nI B), .int (nI D), .ref a1, .ref a2, .ref a3, .ref a4, .ref a5, .ref a6])), (a1, .inl (G 0, 10, .inl f1)), (a2, .inl (G 0, 10, .inl f2)), (a3, .inl (G 0, 10, .inl f3)), (a4, .inl (G 0, 6, .inl f4)), (a5, .inl (G 0, 6, .inl f5)), (a6, .inl (G 0, 6, .inl f6))]) A) ([.ref h0, .int mm, .int what] : List Value).toArray s 0 0 A) (F0 m 140 ls []) := by
                  intro  H locs hP hD hS ls hl
                  refine lv_lload hx hb dX10_quiet_140 (lv_at hl 0 rfl) ?_
                  refine lv_lstore_n (lv' := [(3, .long r53), (8, .long r53), (7, .int r40), (6, .int (nI j21)), (5, .int y22), (0, .ref h0), (1, .int mm), (2, .int what)]) hx hb dX10_quiet_142 rfl hl (by decide) rfl (fun ls hl => ?_)
                  refine lv_iload hx hb dX10_quiet_143 (lv_at hl 3 rfl) ?_
                  refine lv_istore (lv' := [(5, .int (nI j21)), (3, .long r53), (8, .long r53), (7, .int r40), (6, .int (nI j21)), (0, .ref h0), (1, .int mm), (2, .int what)]) hx hb dX10_quiet_145 hl (by decide) rfl (fun ls hl => ?_)
                  exact cut147_48 (nI j21) r53 u55 u56 u57 u52 _ _ hP hD hS ls (lv_sub hl [3, 4, 0, 1, 5, 6, 7] rfl)
                refine lv_if_lt (tgt := 140) hx hb dX10_quiet_120 rfl (fun c59 => ?_) (fun c59 => ?_)
                · skip
                  exact cut140_58  _ _ hP hD hS ls (lv_sub hl [0, 1, 2, 3, 4, 5, 6, 7] rfl)
                · skip
                  refine lv_lload hx hb dX10_quiet_123 (lv_at hl 0 rfl) ?_
                  refine lv_lload_n hx hb dX10_quiet_125 rfl (lv_at hl 4 rfl) ?_
                  refine W.lcmp hx hb dX10_quiet_126 ?_
                  refine lv_if_ne (tgt := 147) hx hb dX10_quiet_127 rfl (fun c60 => ?_) (fun c60 => ?_)
                  · skip
                    exact cut147_48 y22 y23 u55 u56 u57 u52 _ _ hP hD hS ls (lv_sub hl [1, 2, 3, 4, 5, 6, 7] rfl)
                  · skip
                    refine lv_iload hx hb dX10_quiet_130 (lv_at hl 1 rfl) ?_
                    refine lv_iload hx hb dX10_quiet_132 (lv_at hl 3 rfl) ?_
                    have hPc := hP.sub (ws' := []) [] rfl
                    refine va_calli (va_runS (As := [.int y22]) (rest := [.int r40]) ⟨hx, hb, hml, hown, hg⟩ (c_J6_bitCount l dC dI G _ y22) (kwS hg mfJ6_bitCount_0f7a4 wt_697 ⟨Nat.le_of_ble_eq_true rfl, Nat.le_of_ble_eq_true rfl⟩) (preSR hK hPc) rfl rfl hl.1 rfl (lv_room (Nat.le_of_ble_eq_true rfl)) dX10_quiet_134 ⟨Nat.le_of_ble_eq_true rfl, Nat.le_of_ble_eq_true rfl⟩) hS (fun q h1 h2 => absurd h2 (Nat.not_le.mpr h1)) (fun q h => hA q (Nat.le_trans hS.1 h)) (fun r61 ur61 t H1 locs ht hvm w62 hB hz1 hk1 hS => ?_)
                    have hP := keepR hP hk1
                    obtain ⟨w62, w62x⟩ := w62
                    refine lv_icmp_ge (tgt := 147) hx hb dX10_quiet_137 rfl (fun c63 => ?_) (fun c63 => ?_)
                    · skip
                      exact cut147_48 y22 y23 u55 u56 u57 u52 _ _ hP hD hS ls (lv_sub hl [1, 2, 3, 4, 5, 6, 7] rfl)
                    · skip
                      exact cut140_58  _ _ hP hD hS ls (lv_sub hl [0, 1, 2, 3, 4, 5, 6, 7] rfl)
              · skip
                refine lv_goto (tgt := 147) hx hb dX10_quiet_85 rfl ?_
                exact cut147_48 y22 y23 y25 g26 g27 g24 _ _ (hP.sub [13, 14, 15, 16, 17, 0, 11, 12, 8, 9, 10, 1, 2, 3, 4, 5, 6, 7] rfl) (hD.sub [13, 14, 15, 16, 17, 0, 11, 12, 8, 9, 10, 1, 2, 3, 4, 5, 6, 7] (by decide) rfl) hS ls (lv_sub hl [0, 1, 2, 3, 4, 5, 6] rfl)
        exact loop58_28 (1024 + 1) 1 (by omega) (by omega) (by omega) 0 r16 u10 u18 u19 u20 _ _ hP hD hS ls (lv_sub hl [0, 1, 2, 3, 4, 5] rfl)
      · skip
        have b64 := if10_n c6
        exact cut16_1  _ _ hP hD hS ls (lv_sub hl [0, 1, 2] rfl)

set_option maxHeartbeats 1000000 in
set_option maxRecDepth 100000 in
theorem c_X10_swap (l : Launch) (dC : Nat → ClassId) (dI : Nat → Nat → Nat) (G : Nat → ClassId) (sz : Nat) (h0 rd wy tr im kp od ch cr le mk tl sh sa aa a1 a2 a3 a4 a5 a6 N B D tc1 tc2 tc3 tc4 tc5 tc6 X Y Z : Nat) (tf rf what : Int32) (w0 : Int64) (f1 f2 f3 f4 f5 f6 z1 z2 z3 z4 z5 z6 : Nat → Int32) (f g : Nat → Int64) (hN_N : N ≤ 10) (hB_B : B ≤ 6) (hD_D : 1 ≤ D ∧ D ≤ 9) (hN_X : X ≤ 10) (hB_Y : Y ≤ 6) (hD_Z : 1 ≤ Z ∧ Z ≤ 9) : Met l yX10_swap (Cond.code yX10_swap cX10_swap 9 (some .long) :: GT) ({ frames := 5, cells := 0, slots := 0, locals := 121 } : Room) (PcW [.ref h0, .int what] dC dI G [(h0, .inr (10, [.ref rd, .ref wy, .ref tr, .ref im, .ref kp, .ref od, .ref ch, .ref cr, .ref le, .ref mk, .ref tl, .ref sh, .int tf, .int rf])), (tr, .inr (9, [.int (nI X), .int (nI Y), .int (nI Z), .ref tc1, .ref tc2, .ref tc3, .ref tc4, .ref tc5, .ref tc6])), (tc1, .inl (G 0, 10, .inl z1)), (tc2, .inl (G 0, 10, .inl z2)), (tc3, .inl (G 0, 10, .inl z3)), (tc4, .inl (G 0, 6, .inl z4)), (tc5, .inl (G 0, 6, .inl z5)), (tc6, .inl (G 0, 6, .inl z6)), (od, .inr (4, [.long w0, .ref sa, .ref aa])), (sa, .inl (G 1, 10, .inr (.inl f))), (aa, .inl (G 1, 10, .inr (.inl g))), (wy, .inr (9, [.int (nI N), .int (nI B), .int (nI D), .ref a1, .ref a2, .ref a3, .ref a4, .ref a5, .ref a6])), (a1, .inl (G 0, 10, .inl f1)), (a2, .inl (G 0, 10, .inl f2)), (a3, .inl (G 0, 10, .inl f3)), (a4, .inl (G 0, 6, .inl f4)), (a5, .inl (G 0, 6, .inl f5)), (a6, .inl (G 0, 6, .inl f6))] sz) (va_Ql (fun (r : Int64) (u : Nat × Nat × Nat × (Nat → Int32) × (Nat → Int32) × (Nat → Int32) × (Nat → Int32) × (Nat → Int32) × (Nat → Int32) × Int64 × (Nat → Int64) × (Nat → Int64)) => match u with | (u0, u1, u2, u3, u4, u5, u6, u7, u8, u9, v1, v2) => (True) ∧ u0 ≤ 10 ∧ u1 ≤ 6 ∧ (1 ≤ u2 ∧ u2 ≤ 9)) (fun (u : Nat × Nat × Nat × (Nat → Int32) × (Nat → Int32) × (Nat → Int32) × (Nat → Int32) × (Nat → Int32) × (Nat → Int32) × Int64 × (Nat → Int64) × (Nat → Int64)) (t : State) => match u with | (u0, u1, u2, u3, u4, u5, u6, u7, u8, u9, v1, v2) => va_P (dC, dI) vwCl [(h0, .inr (10, [.ref rd, .ref wy, .ref tr, .ref im, .ref kp, .ref od, .ref ch, .ref cr, .ref le, .ref mk, .ref tl, .ref sh, .int tf, .int rf])), (tr, .inr (9, [.int (nI u0), .int (nI u1), .int (nI u2), .ref tc1, .ref tc2, .ref tc3, .ref tc4, .ref tc5, .ref tc6])), (tc1, .inl (G 0, 10, .inl u3)), (tc2, .inl (G 0, 10, .inl u4)), (tc3, .inl (G 0, 10, .inl u5)), (tc4, .inl (G 0, 6, .inl u6)), (tc5, .inl (G 0, 6, .inl u7)), (tc6, .inl (G 0, 6, .inl u8)), (od, .inr (4, [.long u9, .ref sa, .ref aa])), (sa, .inl (G 1, 10, .inr (.inl v1))), (aa, .inl (G 1, 10, .inr (.inl v2))), (wy, .inr (9, [.int (nI N), .int (nI B), .int (nI D), .ref a1, .ref a2, .ref a3, .ref a4, .ref a5, .ref a6])), (a1, .inl (G 0, 10, .inl f1)), (a2, .inl (G 0, 10, .inl f2)), (a3, .inl (G 0, 10, .inl f3)), (a4, .inl (G 0, 6, .inl f4)), (a5, .inl (G 0, 6, .inl f5)), (a6, .inl (G 0, 6, .inl f6))] t.heap ∧ va_D (va_A [(h0, .inr (10, [.ref rd, .ref wy, .ref tr, .ref im, .ref kp, .ref od, .ref ch, .ref cr, .ref le, .ref mk, .ref tl, .ref sh, .int tf, .int rf])), (tr, .inr (9, [.int (nI X), .int (nI Y), .int (nI Z), .ref tc1, .ref tc2, .ref tc3, .ref tc4, .ref tc5, .ref tc6])), (tc1, .inl (G 0, 10, .inl z1)), (tc2, .inl (G 0, 10, .inl z2)), (tc3, .inl (G 0, 10, .inl z3)), (tc4, .inl (G 0, 6, .inl z4)), (tc5, .inl (G 0, 6, .inl z5)), (tc6, .inl (G 0, 6, .inl z6)), (od, .inr (4, [.long w0, .ref sa, .ref aa])), (sa, .inl (G 1, 10, .inr (.inl f))), (aa, .inl (G 1, 10, .inr (.inl g))), (wy, .inr (9, [.int (nI N), .int (nI B), .int (nI D), .ref a1, .ref a2, .ref a3, .ref a4, .ref a5, .ref a6])), (a1, .inl (G 0, 10, .inl f1)), (a2, .inl (G 0, 10, .inl f2)), (a3, .inl (G 0, 10, .inl f3)), (a4, .inl (G 0, 6, .inl f4)), (a5, .inl (G 0, 6, .inl f5)), (a6, .inl (G 0, 6, .inl f6))] sz) [(h0, .inr (10, [.ref rd, .ref wy, .ref tr, .ref im, .ref kp, .ref od, .ref ch, .ref cr, .ref le, .ref mk, .ref tl, .ref sh, .int tf, .int rf])), (tr, .inr (9, [.int (nI u0), .int (nI u1), .int (nI u2), .ref tc1, .ref tc2, .ref tc3, .ref tc4, .ref tc5, .ref tc6])), (tc1, .inl (G 0, 10, .inl u3)), (tc2, .inl (G 0, 10, .inl u4)), (tc3, .inl (G 0, 10, .inl u5)), (tc4, .inl (G 0, 6, .inl u6)), (tc5, .inl (G 0, 6, .inl u7)), (tc6, .inl (G 0, 6, .inl u8)), (od, .inr (4, [.long u9, .ref sa, .ref aa])), (sa, .inl (G 1, 10, .inr (.inl v1))), (aa, .inl (G 1, 10, .inr (.inl v2))), (wy, .inr (9, [.int (nI N), .int (nI B), .int (nI D), .ref a1, .ref a2, .ref a3, .ref a4, .ref a5, .ref a6])), (a1, .inl (G 0, 10, .inl f1)), (a2, .inl (G 0, 10, .inl f2)), (a3, .inl (G 0, 10, .inl f3)), (a4, .inl (G 0, 6, .inl f4)), (a5, .inl (G 0, 6, .inl f5)), (a6, .inl (G 0, 6, .inl f6))]) (va_A [(h0, .inr (10, [.ref rd, .ref wy, .ref tr, .ref im, .ref kp, .ref od, .ref ch, .ref cr, .ref le, .ref mk, .ref tl, .ref sh, .int tf, .int rf])), (tr, .inr (9, [.int (nI X), .int (nI Y), .int (nI Z), .ref tc1, .ref tc2, .ref tc3, .ref tc4, .ref tc5, .ref tc6])), (tc1, .inl (G 0, 10, .inl z1)), (tc2, .inl (G 0, 10, .inl z2)), (tc3, .inl (G 0, 10, .inl z3)), (tc4, .inl (G 0, 6, .inl z4)), (tc5, .inl (G 0, 6, .inl z5)), (tc6, .inl (G 0, 6, .inl z6)), (od, .inr (4, [.long w0, .ref sa, .ref aa])), (sa, .inl (G 1, 10, .inr (.inl f))), (aa, .inl (G 1, 10, .inr (.inl g))), (wy, .inr (9, [.int (nI N), .int (nI B), .int (nI D), .ref a1, .ref a2, .ref a3, .ref a4, .ref a5, .ref a6])), (a1, .inl (G 0, 10, .inl f1)), (a2, .inl (G 0, 10, .inl f2)), (a3, .inl (G 0, 10, .inl f3)), (a4, .inl (G 0, 6, .inl f4)), (a5, .inl (G 0, 6, .inl f5)), (a6, .inl (G 0, 6, .inl f6))] sz)) 0 0 (va_A [(h0, .inr (10, [.ref rd, .ref wy, .ref tr, .ref im, .ref kp, .ref od, .ref ch, .ref cr, .ref le, .ref mk, .ref tl, .ref sh, .int tf, .int rf])), (tr, .inr (9, [.int (nI X), .int (nI Y), .int (nI Z), .ref tc1, .ref tc2, .ref tc3, .ref tc4, .ref tc5, .ref tc6])), (tc1, .inl (G 0, 10, .inl z1)), (tc2, .inl (G 0, 10, .inl z2)), (tc3, .inl (G 0, 10, .inl z3)), (tc4, .inl (G 0, 6, .inl z4)), (tc5, .inl (G 0, 6, .inl z5)), (tc6, .inl (G 0, 6, .inl z6)), (od, .inr (4, [.long w0, .ref sa, .ref aa])), (sa, .inl (G 1, 10, .inr (.inl f))), (aa, .inl (G 1, 10, .inr (.inl g))), (wy, .inr (9, [.int (nI N), .int (nI B), .int (nI D), .ref a1, .ref a2, .ref a3, .ref a4, .ref a5, .ref a6])), (a1, .inl (G 0, 10, .inl f1)), (a2, .inl (G 0, 10, .inl f2)), (a3, .inl (G 0, 10, .inl f3)), (a4, .inl (G 0, 6, .inl f4)), (a5, .inl (G 0, 6, .inl f5)), (a6, .inl (G 0, 6, .inl f6))] sz) := by
  have tn287_ : nIT N := fun _ => nI_toInt (by omega)
  have tn288_ : nIT B := fun _ => nI_toInt (by omega)
  have tn289_ : nIT D := fun _ => nI_toInt (by omega)
  have tn290_ : nIT X := fun _ => nI_toInt (by omega)
  have tn291_ : nIT Y := fun _ => nI_toInt (by omega)
  have tn292_ : nIT Z := fun _ => nI_toInt (by omega)
  refine Met.ofW (cc := cX10_swap) (maxL := 9) (ret := (some .long)) (by decide) rfl ?_
  intro p e s m args below meth c s₁ Bd hml hv
  obtain ⟨rfl, hsz, hP, hK, hD0⟩ := hv
  have hx := Bd.exec
  have hb := Bd.bytes
  have hr := Bd.returns
  have hg : ∀ w ∈ GT, w.before ([.ref h0, .int what] : List Value).toArray s = true := fun w h => atoms_spec (ws := Cond.code yX10_swap cX10_swap 9 (some .long) :: GT) Bd.pre w (List.mem_cons_of_mem _ h)
  have hown : s.vm.findClass RX10 = some m.cls := findClass_of_methodNamed Bd.named
  have hlocks := Bd.notSynchronized
  subst hsz
  have hD := hD0.self (sz := s.heap.size)
  generalize hAe : va_A [(h0, .inr (10, [.ref rd, .ref wy, .ref tr, .ref im, .ref kp, .ref od, .ref ch, .ref cr, .ref le, .ref mk, .ref tl, .ref sh, .int tf, .int rf])), (tr, .inr (9, [.int (nI X), .int (nI Y), .int (nI Z), .ref tc1, .ref tc2, .ref tc3, .ref tc4, .ref tc5, .ref tc6])), (tc1, .inl (G 0, 10, .inl z1)), (tc2, .inl (G 0, 10, .inl z2)), (tc3, .inl (G 0, 10, .inl z3)), (tc4, .inl (G 0, 6, .inl z4)), (tc5, .inl (G 0, 6, .inl z5)), (tc6, .inl (G 0, 6, .inl z6)), (od, .inr (4, [.long w0, .ref sa, .ref aa])), (sa, .inl (G 1, 10, .inr (.inl f))), (aa, .inl (G 1, 10, .inr (.inl g))), (wy, .inr (9, [.int (nI N), .int (nI B), .int (nI D), .ref a1, .ref a2, .ref a3, .ref a4, .ref a5, .ref a6])), (a1, .inl (G 0, 10, .inl f1)), (a2, .inl (G 0, 10, .inl f2)), (a3, .inl (G 0, 10, .inl f3)), (a4, .inl (G 0, 6, .inl f4)), (a5, .inl (G 0, 6, .inl f5)), (a6, .inl (G 0, 6, .inl f6))] s.heap.size = A at hD ⊢
  have hA : ∀ q : Nat, s.heap.size ≤ q → A q := fun q h => by rw [← hAe]; exact Or.inr h
  have hS : va_S A s.heap s.heap [] := va_S.rf
  have hl := lv_entry ([.ref h0, .int what]) (n := 9) (Nat.le_of_ble_eq_true rfl)
  rw [lg_entry_eq]
  generalize (lg_sl ([.ref h0, .int what]) ++ List.replicate (9 - (lg_sl ([.ref h0, .int what])).length) Slot.unset).toArray = ls at hl ⊢
  have hl : lv_has ls 9 [(0, .ref h0), (1, .int what)] := hl
  refine lv_iload_n hx hb dX10_swap_0 rfl (lv_at hl 1 rfl) ?_
  have hPc := hP.sub (ws' := []) [] rfl
  refine va_calli (va_runS (As := [.int what]) (rest := []) ⟨hx, hb, hml, hown, hg⟩ (c_X10_isAnswerPart l dC dI G _ what) (kwS hg mfX10_isAnswerPart wt_694 ⟨Nat.le_of_ble_eq_true rfl, Nat.le_of_ble_eq_true rfl⟩) (preSR hK hPc) rfl rfl hl.1 rfl (lv_room (Nat.le_of_ble_eq_true rfl)) dX10_swap_1 ⟨Nat.le_of_ble_eq_true rfl, Nat.le_of_ble_eq_true rfl⟩) hS (fun q h1 h2 => absurd h2 (Nat.not_le.mpr h1)) (fun q h => hA q (Nat.le_trans hS.1 h)) (fun r1 ur1 t H1 locs ht hvm w2 hB hz1 hk1 hS => ?_)
  have hP := keepR hP hk1
  obtain ⟨w2, w2x⟩ := w2
  try simp only [l_ii, show (0 : Int32).toInt = 0 from by decide, show (2 : Int32).toInt = 2 from by decide] at w2
  subst w2
  refine lv_if_ne (tgt := 11) hx hb dX10_swap_4 rfl (fun c3 => ?_) (fun c3 => ?_)
  · skip
    have b4 := if10_p c3
    refine lv_aload_n hx hb dX10_swap_11 rfl (lv_at hl 0 rfl) ?_
    refine va_get (D := (dC, dI)) (ci := 10) (v := .ref tr) (C := RX10) (T := TX10) (N := 14) hx hb hg inG10 hown hK.1 hP 0 rfl rfl 2 (Nat.le_of_ble_eq_true rfl) (hg _ wt_304) (fun _ h9 => h9) rfl dX10_swap_12 ?_
    refine lv_aload_n hx hb dX10_swap_15 rfl (lv_at hl 0 rfl) ?_
    refine va_get (D := (dC, dI)) (ci := 10) (v := .ref wy) (C := RX10) (T := TX10) (N := 14) hx hb hg inG10 hown hK.1 hP 0 rfl rfl 1 (Nat.le_of_ble_eq_true rfl) (hg _ wt_303) (fun _ h9 => h9) rfl dX10_swap_16 ?_
    obtain ⟨hPc, hDc, hFc⟩ := va_sub3 (ws' := [(tr, .inr (9, [.int (nI X), .int (nI Y), .int (nI Z), .ref tc1, .ref tc2, .ref tc3, .ref tc4, .ref tc5, .ref tc6])), (tc1, .inl (G 0, 10, .inl z1)), (tc2, .inl (G 0, 10, .inl z2)), (tc3, .inl (G 0, 10, .inl z3)), (tc4, .inl (G 0, 6, .inl z4)), (tc5, .inl (G 0, 6, .inl z5)), (tc6, .inl (G 0, 6, .inl z6)), (wy, .inr (9, [.int (nI N), .int (nI B), .int (nI D), .ref a1, .ref a2, .ref a3, .ref a4, .ref a5, .ref a6])), (a1, .inl (G 0, 10, .inl f1)), (a2, .inl (G 0, 10, .inl f2)), (a3, .inl (G 0, 10, .inl f3)), (a4, .inl (G 0, 6, .inl f4)), (a5, .inl (G 0, 6, .inl f5)), (a6, .inl (G 0, 6, .inl f6))]) hP hD hS hA [1, 2, 3, 4, 5, 6, 7, 11, 12, 13, 14, 15, 16, 17] (by decide +kernel) rfl
    refine va_callv (va_runVN (As := [.ref wy]) (rest := []) ⟨hx, hb, hml, hown, hg⟩ (c_X9_copyOf l dC dI G _ tr wy tc1 tc2 tc3 tc4 tc5 tc6 a1 a2 a3 a4 a5 a6 (nI X) (nI Y) (nI Z) (nI N) (nI B) (nI D) z1 z2 z3 z4 z5 z6 f1 f2 f3 f4 f5 f6) (kwVN hg hK mfX9_copyOf wn_507 ⟨Nat.le_of_ble_eq_true rfl, Nat.le_of_ble_eq_true rfl⟩) (preVW hK hPc hDc (ci := 9) (r := (RX9, TX9, 9)) rfl rfl) rfl rfl hl.1 rfl (lv_room (Nat.le_of_ble_eq_true rfl)) dX10_swap_19 ⟨Nat.le_of_ble_eq_true rfl, Nat.le_of_ble_eq_true rfl⟩) hS (fun q _ h => hFc q h) hFc (fun ur5 t H1 locs ht hvm w6 hB hz1 hk1 hS => ?_)
    obtain ⟨u7, u8, u9, u10, u11, u12⟩ := ur5
    obtain ⟨hP1, hD1⟩ := hB
    rw [ht] at hP1
    obtain ⟨hP, hD⟩ := va_join (wr := [(h0, .inr (10, [.ref rd, .ref wy, .ref tr, .ref im, .ref kp, .ref od, .ref ch, .ref cr, .ref le, .ref mk, .ref tl, .ref sh, .int tf, .int rf])), (od, .inr (4, [.long w0, .ref sa, .ref aa])), (sa, .inl (G 1, 10, .inr (.inl f))), (aa, .inl (G 1, 10, .inr (.inl g)))]) (w1 := [(tr, .inr (9, [.int (nI N), .int (nI B), .int (nI D), .ref tc1, .ref tc2, .ref tc3, .ref tc4, .ref tc5, .ref tc6])), (tc1, .inl (G 0, 10, .inl u7)), (tc2, .inl (G 0, 10, .inl u8)), (tc3, .inl (G 0, 10, .inl u9)), (tc4, .inl (G 0, 6, .inl u10)), (tc5, .inl (G 0, 6, .inl u11)), (tc6, .inl (G 0, 6, .inl u12)), (wy, .inr (9, [.int (nI N), .int (nI B), .int (nI D), .ref a1, .ref a2, .ref a3, .ref a4, .ref a5, .ref a6])), (a1, .inl (G 0, 10, .inl f1)), (a2, .inl (G 0, 10, .inl f2)), (a3, .inl (G 0, 10, .inl f3)), (a4, .inl (G 0, 6, .inl f4)), (a5, .inl (G 0, 6, .inl f5)), (a6, .inl (G 0, 6, .inl f6))]) hP hD [1, 2, 3, 4, 5, 6, 7, 11, 12, 13, 14, 15, 16, 17] [0, 8, 9, 10] rfl rfl (by decide +kernel) (by decide +kernel) hk1 hFc hP1 hD1
    generalize H1 = H at hP hS ⊢
    refine lv_aload_n hx hb dX10_swap_22 rfl (lv_at hl 0 rfl) ?_
    refine va_get (D := (dC, dI)) (ci := 10) (v := .ref od) (C := RX10) (T := TX10) (N := 14) hx hb hg inG10 hown hK.1 hP 0 rfl rfl 5 (Nat.le_of_ble_eq_true rfl) (hg _ wt_307) (fun _ h9 => h9) rfl dX10_swap_23 ?_
    refine lv_aload_n hx hb dX10_swap_26 rfl (lv_at hl 0 rfl) ?_
    refine va_get (D := (dC, dI)) (ci := 10) (v := .ref wy) (C := RX10) (T := TX10) (N := 14) hx hb hg inG10 hown hK.1 hP 0 rfl rfl 1 (Nat.le_of_ble_eq_true rfl) (hg _ wt_303) (fun _ h9 => h9) rfl dX10_swap_27 ?_
    refine lv_aload_n hx hb dX10_swap_30 rfl (lv_at hl 0 rfl) ?_
    refine va_get (D := (dC, dI)) (ci := 10) (v := .ref wy) (C := RX10) (T := TX10) (N := 14) hx hb hg inG10 hown hK.1 hP 0 rfl rfl 1 (Nat.le_of_ble_eq_true rfl) (hg _ wt_303) (fun _ h9 => h9) rfl dX10_swap_31 ?_
    refine va_getN (D := (dC, dI)) (ci := 9) (v := .int (nI N)) (C := RX9) (T := TX9) (N := 9) hx hb hg inG9 hown hK.1 hP 11 rfl rfl 0 (Nat.le_of_ble_eq_true rfl) (hK.nest wn_60) (fun _ h9 => h9) rfl dX10_swap_34 ?_
    refine lv_bipush (v := (-4)) hx hb dX10_swap_37 rfl ?_
    obtain ⟨hPc, hDc, hFc⟩ := va_sub3 (ws' := [(od, .inr (4, [.long w0, .ref sa, .ref aa])), (sa, .inl (G 1, 10, .inr (.inl f))), (aa, .inl (G 1, 10, .inr (.inl g))), (wy, .inr (9, [.int (nI N), .int (nI B), .int (nI D), .ref a1, .ref a2, .ref a3, .ref a4, .ref a5, .ref a6])), (a1, .inl (G 0, 10, .inl f1)), (a2, .inl (G 0, 10, .inl f2)), (a3, .inl (G 0, 10, .inl f3)), (a4, .inl (G 0, 6, .inl f4)), (a5, .inl (G 0, 6, .inl f5)), (a6, .inl (G 0, 6, .inl f6))]) hP hD hS hA [1, 2, 3, 11, 12, 13, 14, 15, 16, 17] (by decide +kernel) rfl
    refine va_calll (va_runVN (As := [.ref wy, .int (nI N), .int (-4)]) (rest := []) ⟨hx, hb, hml, hown, hg⟩ (c_X4_waking l dC dI G _ od sa aa wy a1 a2 a3 a4 a5 a6 N B D N (-4) w0 f1 f2 f3 f4 f5 f6 f g hN_N hB_B hD_D hN_N) (kwVN hg hK mfX4_waking wn_608 ⟨Nat.le_of_ble_eq_true rfl, Nat.le_of_ble_eq_true rfl⟩) (preVW hK hPc hDc (ci := 4) (r := (RX4, TX4, 3)) rfl rfl) rfl rfl hl.1 rfl (lv_room (Nat.le_of_ble_eq_true rfl)) dX10_swap_39 ⟨Nat.le_of_ble_eq_true rfl, Nat.le_of_ble_eq_true rfl⟩) hS (fun q _ h => hFc q h) hFc (fun r13 ur13 t H1 locs ht hvm w14 hB hz1 hk1 hS => ?_)
    obtain ⟨u15, u16, u17⟩ := ur13
    obtain ⟨hP1, hD1⟩ := hB
    rw [ht] at hP1
    obtain ⟨hP, hD⟩ := va_join (wr := [(h0, .inr (10, [.ref rd, .ref wy, .ref tr, .ref im, .ref kp, .ref od, .ref ch, .ref cr, .ref le, .ref mk, .ref tl, .ref sh, .int tf, .int rf])), (tr, .inr (9, [.int (nI N), .int (nI B), .int (nI D), .ref tc1, .ref tc2, .ref tc3, .ref tc4, .ref tc5, .ref tc6])), (tc1, .inl (G 0, 10, .inl u7)), (tc2, .inl (G 0, 10, .inl u8)), (tc3, .inl (G 0, 10, .inl u9)), (tc4, .inl (G 0, 6, .inl u10)), (tc5, .inl (G 0, 6, .inl u11)), (tc6, .inl (G 0, 6, .inl u12))]) (w1 := [(od, .inr (4, [.long u15, .ref sa, .ref aa])), (sa, .inl (G 1, 10, .inr (.inl u16))), (aa, .inl (G 1, 10, .inr (.inl u17))), (wy, .inr (9, [.int (nI N), .int (nI B), .int (nI D), .ref a1, .ref a2, .ref a3, .ref a4, .ref a5, .ref a6])), (a1, .inl (G 0, 10, .inl f1)), (a2, .inl (G 0, 10, .inl f2)), (a3, .inl (G 0, 10, .inl f3)), (a4, .inl (G 0, 6, .inl f4)), (a5, .inl (G 0, 6, .inl f5)), (a6, .inl (G 0, 6, .inl f6))]) hP hD [1, 2, 3, 11, 12, 13, 14, 15, 16, 17] [0, 4, 5, 6, 7, 8, 9, 10] rfl rfl (by decide +kernel) (by decide +kernel) hk1 hFc hP1 hD1
    generalize H1 = H at hP hS ⊢
    obtain ⟨w14, w14x⟩ := w14
    refine lv_lstore_n (lv' := [(2, .long r13), (0, .ref h0), (1, .int what)]) hx hb dX10_swap_42 rfl hl (by decide) rfl (fun ls hl => ?_)
    refine lv_bipush (v := (-4)) hx hb dX10_swap_43 rfl ?_
    refine lv_istore (lv' := [(4, .int (-4)), (2, .long r13), (0, .ref h0), (1, .int what)]) hx hb dX10_swap_45 hl (by decide) rfl (fun ls hl => ?_)
    refine lv_iconst (v := 0) hx hb dX10_swap_47 rfl ?_
    refine lv_istore (lv' := [(5, .int 0), (4, .int (-4)), (2, .long r13), (0, .ref h0), (1, .int what)]) hx hb dX10_swap_48 hl (by decide) rfl (fun ls hl => ?_)
    have loop50_25 : ∀ (nf j18 : Nat), N + 1 ≤ j18 + nf → j18 ≤ N → ∀ (y19 : Int32) (y20 : Int64) (g21 : Nat → Int32) (y22 : Int64) (g23 : Nat → Int64) (g24 : Nat → Int64) (H : Heap) (locs : List Loc), va_P (dC, dI) vwCl [(h0, .inr (10, [.ref rd, .ref wy, .ref tr, .ref im, .ref kp, .ref od, .ref ch, .ref cr, .ref le, .ref mk, .ref tl, .ref sh, .int tf, .int rf])), (tr, .inr (9, [.int (nI N), .int (nI B), .int (nI D), .ref tc1, .ref tc2, .ref tc3, .ref tc4, .ref tc5, .ref tc6])), (tc1, .inl (G 0, 10, .inl u7)), (tc2, .inl (G 0, 10, .inl u8)), (tc3, .inl (G 0, 10, .inl g21)), (tc4, .inl (G 0, 6, .inl u10)), (tc5, .inl (G 0, 6, .inl u11)), (tc6, .inl (G 0, 6, .inl u12)), (od, .inr (4, [.long y22, .ref sa, .ref aa])), (sa, .inl (G 1, 10, .inr (.inl g23))), (aa, .inl (G 1, 10, .inr (.inl g24))), (wy, .inr (9, [.int (nI N), .int (nI B), .int (nI D), .ref a1, .ref a2, .ref a3, .ref a4, .ref a5, .ref a6])), (a1, .inl (G 0, 10, .inl f1)), (a2, .inl (G 0, 10, .inl f2)), (a3, .inl (G 0, 10, .inl f3)), (a4, .inl (G 0, 6, .inl f4)), (a5, .inl (G 0, 6, .inl f5)), (a6, .inl (G 0, 6, .inl f6))] H → va_D A [(h0, .inr (10, [.ref rd, .ref wy, .ref tr, .ref im, .ref kp, .ref od, .ref ch, .ref cr, .ref le, .ref mk, .ref tl, .ref sh, .int tf, .int rf])), (tr, .inr (9, [.int (nI N), .int (nI B), .int (nI D), .ref tc1, .ref tc2, .ref tc3, .ref tc4, .ref tc5, .ref tc6])), (tc1, .inl (G 0, 10, .inl u7)), (tc2, .inl (G 0, 10, .inl u8)), (tc3, .inl (G 0, 10, .inl g21)), (tc4, .inl (G 0, 6, .inl u10)), (tc5, .inl (G 0, 6, .inl u11)), (tc6, .inl (G 0, 6, .inl u12)), (od, .inr (4, [.long y22, .ref sa, .ref aa])), (sa, .inl (G 1, 10, .inr (.inl g23))), (aa, .inl (G 1, 10, .inr (.inl g24))), (wy, .inr (9, [.int (nI N), .int (nI B), .int (nI D), .ref a1, .ref a2, .ref a3, .ref a4, .ref a5, .ref a6])), (a1, .inl (G 0, 10, .inl f1)), (a2, .inl (G 0, 10, .inl f2)), (a3, .inl (G 0, 10, .inl f3)), (a4, .inl (G 0, 6, .inl f4)), (a5, .inl (G 0, 6, .inl f5)), (a6, .inl (G 0, 6, .inl f6))] → va_S A s.heap H locs → ∀ (ls : Array Slot), lv_has ls 9 [(5, .int (nI j18)), (4, .int y19), (2, .long y20), (0, .ref h0), (1, .int what)] → W p l e (headSpec (Cond.code yX10_swap cX10_swap 9 (some .long) :: GT) ({ frames := 5, cells := 0, slots := 0, locals := 121 } : Room)).room s m ([.ref h0, .int what] : List Value).toArray below meth c H locs 0 0 (MQ below (va_Ql (fun (r : Int64) (u : Nat × Nat × Nat × (Nat → Int32) × (Nat → Int32) × (Nat → Int32) × (Nat → Int32) × (Nat → Int32) × (Nat → Int32) × Int64 × (Nat → Int64) × (Nat → Int64)) => match u with | (u0, u1, u2, u3, u4, u5, u6, u7, u8, u9, v1, v2) => (True) ∧ u0 ≤ 10 ∧ u1 ≤ 6 ∧ (1 ≤ u2 ∧ u2 ≤ 9)) (fun (u : Nat × Nat × Nat × (Nat → Int32) × (Nat → Int32) × (Nat → Int32) × (Nat → Int32) × (Nat → Int32) × (Nat → Int32) × Int64 × (Nat → Int64) × (Nat → Int64)) (t : State) => match u with | (u0, u1, u2, u3, u4, u5, u6, u7, u8, u9, v1, v2) => va_P (dC, dI) vwCl [(h0, .inr (10, [.ref rd, .ref wy, .ref tr, .ref im, .ref kp, .ref od, .ref ch, .ref cr, .ref le, .ref mk, .ref tl, .ref sh, .int tf, .int rf])), (tr, .inr (9, [.int (nI u0), .int (nI u1), .int (nI u2), .ref tc1, .ref tc2, .ref tc3, .ref tc4, .ref tc5, .ref tc6])), (tc1, .inl (G 0, 10, .inl u3)), (tc2, .inl (G 0, 10, .inl u4)), (tc3, .inl (G 0, 10, .inl u5)), (tc4, .inl (G 0, 6, .inl u6)), (tc5, .inl (G 0, 6, .inl u7)), (tc6, .inl (G 0, 6, .inl u8)), (od, .inr (4, [.long u9, .ref sa, .ref aa])), (sa, .inl (G 1, 10, .inr (.inl v1))), (aa, .inl (G 1, 10, .inr (.inl v2))), (wy, .inr (9, [.int (nI N), .int (nI B), .int (nI D), .ref a1, .ref a2, .ref a3, .ref a4, .ref a5, .ref a6])), (a1, .inl (G 0, 10, .inl f1)), (a2, .inl (G 0, 10, .inl f2)), (a3, .inl (G 0, 10, .inl f3)), (a4, .inl (G 0, 6, .inl f4)), (a5, .inl (G 0, 6, .inl f5)), (a6, .inl (G 0, 6, .inl f6))] t.heap ∧ va_D A [(h0, .inr (10, [.ref rd, .ref wy, .ref tr, .ref im, .ref kp, .ref od, .ref ch, .ref cr, .ref le, .ref mk, .ref tl, .ref sh, .int tf, .int rf])), (tr, .inr (9, [.int (nI u0), .int (nI u1), .int (nI u2), .ref tc1, .ref tc2, .ref tc3, .ref tc4, .ref tc5, .ref tc6])), (tc1, .inl (G 0, 10, .inl u3)), (tc2, .inl (G 0, 10, .inl u4)), (tc3, .inl (G 0, 10, .inl u5)), (tc4, .inl (G 0, 6, .inl u6)), (tc5, .inl (G 0, 6, .inl u7)), (tc6, .inl (G 0, 6, .inl u8)), (od, .inr (4, [.long u9, .ref sa, .ref aa])), (sa, .inl (G 1, 10, .inr (.inl v1))), (aa, .inl (G 1, 10, .inr (.inl v2))), (wy, .inr (9, [.int (nI N), .int (nI B), .int (nI D), .ref a1, .ref a2, .ref a3, .ref a4, .ref a5, .ref a6])), (a1, .inl (G 0, 10, .inl f1)), (a2, .inl (G 0, 10, .inl f2)), (a3, .inl (G 0, 10, .inl f3)), (a4, .inl (G 0, 6, .inl f4)), (a5, .inl (G 0, 6, .inl f5)), (a6, .inl (G 0, 6, .inl f6))]) A) ([.ref h0, .int what] : List Value).toArray s 0 0 A) (F0 m 50 ls []) := by
      intro nf
      induction nf with
      | zero => intro j18 h1 h2; exact absurd h1 (by omega)
      | succ nf ih50_25 =>
        intro j18 hn26 hj27 y19 y20 g21 y22 g23 g24 H locs hP hD hS ls hl
        refine lv_iload hx hb dX10_swap_50 (lv_at hl 0 rfl) ?_
        refine lv_aload_n hx hb dX10_swap_52 rfl (lv_at hl 3 rfl) ?_
        refine va_get (D := (dC, dI)) (ci := 10) (v := .ref wy) (C := RX10) (T := TX10) (N := 14) hx hb hg inG10 hown hK.1 hP 0 rfl rfl 1 (Nat.le_of_ble_eq_true rfl) (hg _ wt_303) (fun _ h9 => h9) rfl dX10_swap_53 ?_
        refine va_getN (D := (dC, dI)) (ci := 9) (v := .int (nI N)) (C := RX9) (T := TX9) (N := 9) hx hb hg inG9 hown hK.1 hP 11 rfl rfl 0 (Nat.le_of_ble_eq_true rfl) (hK.nest wn_60) (fun _ h9 => h9) rfl dX10_swap_56 ?_
        refine lv_icmp_ge (tgt := 156) hx hb dX10_swap_59 rfl (fun c28 => ?_) (fun c28 => ?_)
        · skip
          have tn293_ : nIT j18 := fun _ => nI_toInt (by first | omega | (have t := leI c28; omega))
          have n29 : N ≤ j18 := by have t := leI c28; rw [show (nI (j18)).toInt = ((j18 : Nat) : Int) from tn293_ ()] at t; rw [show (nI (N)).toInt = ((N : Nat) : Int) from tn287_ ()] at t; omega
          refine lv_iload hx hb dX10_swap_156 (lv_at hl 1 rfl) ?_
          refine lv_bipush (v := (-4)) hx hb dX10_swap_158 rfl ?_
          have cut168_30 : ∀ (H : Heap) (locs : List Loc), va_P (dC, dI) vwCl [(h0, .inr (10, [.ref rd, .ref wy, .ref tr, .ref im, .ref kp, .ref od, .ref ch, .ref cr, .ref le, .ref mk, .ref tl, .ref sh, .int tf, .int rf])), (tr, .inr (9, [.int (nI N), .int (nI B), .int (nI D), .ref tc1, .ref tc2, .ref tc3, .ref tc4, .ref tc5, .ref tc6])), (tc1, .inl (G 0, 10, .inl u7)), (tc2, .inl (G 0, 10, .inl u8)), (tc3, .inl (G 0, 10, .inl g21)), (tc4, .inl (G 0, 6, .inl u10)), (tc5, .inl (G 0, 6, .inl u11)), (tc6, .inl (G 0, 6, .inl u12)), (od, .inr (4, [.long y22, .ref sa, .ref aa])), (sa, .inl (G 1, 10, .inr (.inl g23))), (aa, .inl (G 1, 10, .inr (.inl g24))), (wy, .inr (9, [.int (nI N), .int (nI B), .int (nI D), .ref a1, .ref a2, .ref a3, .ref a4, .ref a5, .ref a6])), (a1, .inl (G 0, 10, .inl f1)), (a2, .inl (G 0, 10, .inl f2)), (a3, .inl (G 0, 10, .inl f3)), (a4, .inl (G 0, 6, .inl f4)), (a5, .inl (G 0, 6, .inl f5)), (a6, .inl (G 0, 6, .inl f6))] H → va_D A [(h0, .inr (10, [.ref rd, .ref wy, .ref tr, .ref im, .ref kp, .ref od, .ref ch, .ref cr, .ref le, .ref mk, .ref tl, .ref sh, .int tf, .int rf])), (tr, .inr (9, [.int (nI N), .int (nI B), .int (nI D), .ref tc1, .ref tc2, .ref tc3, .ref tc4, .ref tc5, .ref tc6])), (tc1, .inl (G 0, 10, .inl u7)), (tc2, .inl (G 0, 10, .inl u8)), (tc3, .inl (G 0, 10, .inl g21)), (tc4, .inl (G 0, 6, .inl u10)), (tc5, .inl (G 0, 6, .inl u11)), (tc6, .inl (G 0, 6, .inl u12)), (od, .inr (4, [.long y22, .ref sa, .ref aa])), (sa, .inl (G 1, 10, .inr (.inl g23))), (aa, .inl (G 1, 10, .inr (.inl g24))), (wy, .inr (9, [.int (nI N), .int (nI B), .int (nI D), .ref a1, .ref a2, .ref a3, .ref a4, .ref a5, .ref a6])), (a1, .inl (G 0, 10, .inl f1)), (a2, .inl (G 0, 10, .inl f2)), (a3, .inl (G 0, 10, .inl f3)), (a4, .inl (G 0, 6, .inl f4)), (a5, .inl (G 0, 6, .inl f5)), (a6, .inl (G 0, 6, .inl f6))] → va_S A s.heap H locs → ∀ (ls : Array Slot), lv_has ls 9 [(5, .int (nI j18)), (4, .int y19), (2, .long y20), (0, .ref h0), (1, .int what)] → W p l e (headSpec (Cond.code yX10_swap cX10_swap 9 (some .long) :: GT) ({ frames := 5, cells := 0, slots := 0, locals := 121 } : Room)).room s m ([.ref h0, .int what] : List Value).toArray below meth c H locs 0 0 (MQ below (va_Ql (fun (r : Int64) (u : Nat × Nat × Nat × (Nat → Int32) × (Nat → Int32) × (Nat → Int32) × (Nat → Int32) × (Nat → Int32) × (Nat → Int32) × Int64 × (Nat → Int64) × (Nat → Int64)) => match u with | (u0, u1, u2, u3, u4, u5, u6, u7, u8, u9, v1, v2) => (True) ∧ u0 ≤ 10 ∧ u1 ≤ 6 ∧ (1 ≤ u2 ∧ u2 ≤ 9)) (fun (u : Nat × Nat × Nat × (Nat → Int32) × (Nat → Int32) × (Nat → Int32) × (Nat → Int32) × (Nat → Int32) × (Nat → Int32) × Int64 × (Nat → Int64) × (Nat → Int64)) (t : State) => match u with | (u0, u1, u2, u3, u4, u5, u6, u7, u8, u9, v1, v2) => va_P (dC, dI) vwCl [(h0, .inr (10, [.ref rd, .ref wy, .ref tr, .ref im, .ref kp, .ref od, .ref ch, .ref cr, .ref le, .ref mk, .ref tl, .ref sh, .int tf, .int rf])), (tr, .inr (9, [.int (nI u0), .int (nI u1), .int (nI u2), .ref tc1, .ref tc2, .ref tc3, .ref tc4, .ref tc5, .ref tc6])), (tc1, .inl (G 0, 10, .inl u3)), (tc2, .inl (G 0, 10, .inl u4)), (tc3, .inl (G 0, 10, .inl u5)), (tc4, .inl (G 0, 6, .inl u6)), (tc5, .inl (G 0, 6, .inl u7)), (tc6, .inl (G 0, 6, .inl u8)), (od, .inr (4, [.long u9, .ref sa, .ref aa])), (sa, .inl (G 1, 10, .inr (.inl v1))), (aa, .inl (G 1, 10, .inr (.inl v2))), (wy, .inr (9, [.int (nI N), .int (nI B), .int (nI D), .ref a1, .ref a2, .ref a3, .ref a4, .ref a5, .ref a6])), (a1, .inl (G 0, 10, .inl f1)), (a2, .inl (G 0, 10, .inl f2)), (a3, .inl (G 0, 10, .inl f3)), (a4, .inl (G 0, 6, .inl f4)), (a5, .inl (G 0, 6, .inl f5)), (a6, .inl (G 0, 6, .inl f6))] t.heap ∧ va_D A [(h0, .inr (10, [.ref rd, .ref wy, .ref tr, .ref im, .ref kp, .ref od, .ref ch, .ref cr, .ref le, .ref mk, .ref tl, .ref sh, .int tf, .int rf])), (tr, .inr (9, [.int (nI u0), .int (nI u1), .int (nI u2), .ref tc1, .ref tc2, .ref tc3, .ref tc4, .ref tc5, .ref tc6])), (tc1, .inl (G 0, 10, .inl u3)), (tc2, .inl (G 0, 10, .inl u4)), (tc3, .inl (G 0, 10, .inl u5)), (tc4, .inl (G 0, 6, .inl u6)), (tc5, .inl (G 0, 6, .inl u7)), (tc6, .inl (G 0, 6, .inl u8)), (od, .inr (4, [.long u9, .ref sa, .ref aa])), (sa, .inl (G 1, 10, .inr (.inl v1))), (aa, .inl (G 1, 10, .inr (.inl v2))), (wy, .inr (9, [.int (nI N), .int (nI B), .int (nI D), .ref a1, .ref a2, .ref a3, .ref a4, .ref a5, .ref a6])), (a1, .inl (G 0, 10, .inl f1)), (a2, .inl (G 0, 10, .inl f2)), (a3, .inl (G 0, 10, .inl f3)), (a4, .inl (G 0, 6, .inl f4)), (a5, .inl (G 0, 6, .inl f5)), (a6, .inl (G 0, 6, .inl f6))]) A) ([.ref h0, .int what] : List Value).toArray s 0 0 A) (F0 m 168 ls []) := by
            intro  H locs hP hD hS ls hl
            refine lv_iload hx hb dX10_swap_168 (lv_at hl 1 rfl) ?_
            refine lv_i2l (v := y19.toInt64) hx hb dX10_swap_170 rfl ?_
            have hpost : True := by
              trivial
            obtain ⟨hP9, hD9⟩ := va_sub2 (ws' := [(h0, .inr (10, [.ref rd, .ref wy, .ref tr, .ref im, .ref kp, .ref od, .ref ch, .ref cr, .ref le, .ref mk, .ref tl, .ref sh, .int tf, .int rf])), (tr, .inr (9, [.int (nI N), .int (nI B), .int (nI D), .ref tc1, .ref tc2, .ref tc3, .ref tc4, .ref tc5, .ref tc6])), (tc1, .inl (G 0, 10, .inl u7)), (tc2, .inl (G 0, 10, .inl u8)), (tc3, .inl (G 0, 10, .inl g21)), (tc4, .inl (G 0, 6, .inl u10)), (tc5, .inl (G 0, 6, .inl u11)), (tc6, .inl (G 0, 6, .inl u12)), (od, .inr (4, [.long y22, .ref sa, .ref aa])), (sa, .inl (G 1, 10, .inr (.inl g23))), (aa, .inl (G 1, 10, .inr (.inl g24))), (wy, .inr (9, [.int (nI N), .int (nI B), .int (nI D), .ref a1, .ref a2, .ref a3, .ref a4, .ref a5, .ref a6])), (a1, .inl (G 0, 10, .inl f1)), (a2, .inl (G 0, 10, .inl f2)), (a3, .inl (G 0, 10, .inl f3)), (a4, .inl (G 0, 6, .inl f4)), (a5, .inl (G 0, 6, .inl f5)), (a6, .inl (G 0, 6, .inl f6))]) hP hD [0, 1, 2, 3, 4, 5, 6, 7, 8, 9, 10, 11, 12, 13, 14, 15, 16, 17] (by decide +kernel) rfl
            refine W.widen (k := 0) (n := 0) (Nat.le_of_ble_eq_true rfl) (Nat.le_of_ble_eq_true rfl) ?_
            exact W.lret (v := y19.toInt64) hx hb hr (fun t ht hW => ⟨⟨y19.toInt64, (N, B, D, u7, u8, g21, u10, u11, u12, y22, g23, g24), rfl, ⟨hpost, (by have t_b4 := b4; have t_hj27 := hj27; have t_n29 := n29; have tnb_ := nib7 tn290_ tn291_ tn292_ tn287_ tn288_ tn289_ tn293_; omega)⟩, ⟨by rw [ht]; exact hP9, hD9⟩⟩, hS.F ht⟩) hS.2.2 dX10_swap_171
          refine lv_icmp_eq (tgt := 168) hx hb dX10_swap_160 rfl (fun c31 => ?_) (fun c31 => ?_)
          · skip
            exact cut168_30  _ _ hP hD hS ls (lv_sub hl [0, 1, 2, 3, 4] rfl)
          · skip
            refine lv_iload_n hx hb dX10_swap_163 rfl (lv_at hl 4 rfl) ?_
            refine lv_iconst (v := 2) hx hb dX10_swap_164 rfl ?_
            refine lv_icmp_ne (tgt := 172) hx hb dX10_swap_165 rfl (fun c32 => ?_) (fun c32 => ?_)
            · skip
              refine lv_lload_n hx hb dX10_swap_172 rfl (lv_at hl 2 rfl) ?_
              refine lv_aload_n hx hb dX10_swap_173 rfl (lv_at hl 3 rfl) ?_
              refine va_get (D := (dC, dI)) (ci := 10) (v := .ref od) (C := RX10) (T := TX10) (N := 14) hx hb hg inG10 hown hK.1 hP 0 rfl rfl 5 (Nat.le_of_ble_eq_true rfl) (hg _ wt_307) (fun _ h9 => h9) rfl dX10_swap_174 ?_
              refine va_getN (D := (dC, dI)) (ci := 4) (v := .long y22) (C := RX4) (T := TX4) (N := 3) hx hb hg inG4 hown hK.1 hP 8 rfl rfl 0 (Nat.le_of_ble_eq_true rfl) (hK.nest wn_157) (fun _ h9 => h9) rfl dX10_swap_177 ?_
              refine lv_iload_n hx hb dX10_swap_180 rfl (lv_at hl 4 rfl) ?_
              have hPc := hP.sub (ws' := []) [] rfl
              refine va_calll (va_runS (As := [.long y20, .long y22, .int what]) (rest := []) ⟨hx, hb, hml, hown, hg⟩ (c_X10_fraction l dC dI G _ what y20 y22) (kwS hg mfX10_fraction wt_635 ⟨Nat.le_of_ble_eq_true rfl, Nat.le_of_ble_eq_true rfl⟩) (preSR hK hPc) rfl rfl hl.1 rfl (lv_room (Nat.le_of_ble_eq_true rfl)) dX10_swap_181 ⟨Nat.le_of_ble_eq_true rfl, Nat.le_of_ble_eq_true rfl⟩) hS (fun q h1 h2 => absurd h2 (Nat.not_le.mpr h1)) (fun q h => hA q (Nat.le_trans hS.1 h)) (fun r33 ur33 t H1 locs ht hvm w34 hB hz1 hk1 hS => ?_)
              have hP := keepR hP hk1
              obtain ⟨w34, w34x⟩ := w34
              have hpost : True := by
                trivial
              obtain ⟨hP9, hD9⟩ := va_sub2 (ws' := [(h0, .inr (10, [.ref rd, .ref wy, .ref tr, .ref im, .ref kp, .ref od, .ref ch, .ref cr, .ref le, .ref mk, .ref tl, .ref sh, .int tf, .int rf])), (tr, .inr (9, [.int (nI N), .int (nI B), .int (nI D), .ref tc1, .ref tc2, .ref tc3, .ref tc4, .ref tc5, .ref tc6])), (tc1, .inl (G 0, 10, .inl u7)), (tc2, .inl (G 0, 10, .inl u8)), (tc3, .inl (G 0, 10, .inl g21)), (tc4, .inl (G 0, 6, .inl u10)), (tc5, .inl (G 0, 6, .inl u11)), (tc6, .inl (G 0, 6, .inl u12)), (od, .inr (4, [.long y22, .ref sa, .ref aa])), (sa, .inl (G 1, 10, .inr (.inl g23))), (aa, .inl (G 1, 10, .inr (.inl g24))), (wy, .inr (9, [.int (nI N), .int (nI B), .int (nI D), .ref a1, .ref a2, .ref a3, .ref a4, .ref a5, .ref a6])), (a1, .inl (G 0, 10, .inl f1)), (a2, .inl (G 0, 10, .inl f2)), (a3, .inl (G 0, 10, .inl f3)), (a4, .inl (G 0, 6, .inl f4)), (a5, .inl (G 0, 6, .inl f5)), (a6, .inl (G 0, 6, .inl f6))]) hP hD [0, 1, 2, 3, 4, 5, 6, 7, 8, 9, 10, 11, 12, 13, 14, 15, 16, 17] (by decide +kernel) rfl
              refine W.widen (k := 0) (n := 0) (Nat.le_of_ble_eq_true rfl) (Nat.le_of_ble_eq_true rfl) ?_
              exact W.lret (v := r33) hx hb hr (fun t ht hW => ⟨⟨r33, (N, B, D, u7, u8, g21, u10, u11, u12, y22, g23, g24), rfl, ⟨hpost, (by have t_b4 := b4; have t_hj27 := hj27; have t_n29 := n29; have t_c31 := neI c31; have t_c32 := neI c32; have tqz_ := qz10_; have tnb_ := nib7 tn290_ tn291_ tn292_ tn287_ tn288_ tn289_ tn293_; omega)⟩, ⟨by rw [ht]; exact hP9, hD9⟩⟩, hS.F ht⟩) hS.2.2 dX10_swap_184
            · skip
              exact cut168_30  _ _ hP hD hS ls (lv_sub hl [0, 1, 2, 3, 4] rfl)
        · skip
          have tn294_ : nIT j18 := fun _ => nI_toInt (by first | omega | (have t := nleI c28; omega))
          have n35 : j18 < N := by have t := nleI c28; rw [show (nI (j18)).toInt = ((j18 : Nat) : Int) from tn294_ ()] at t; rw [show (nI (N)).toInt = ((N : Nat) : Int) from tn287_ ()] at t; omega
          refine lv_iload hx hb dX10_swap_62 (lv_at hl 0 rfl) ?_
          refine lv_iconst (v := 1) hx hb dX10_swap_64 rfl ?_
          refine lv_iadd hx hb dX10_swap_65 ?_
          refine lv_cg (y := nI (j18 + 1)) (by rw [show (1 : Int32) = nI 1 from rfl]; exact nI_add _ _) ?_
          refine lv_istore (lv' := [(6, .int (nI (j18 + 1))), (5, .int (nI j18)), (4, .int y19), (2, .long y20), (0, .ref h0), (1, .int what)]) hx hb dX10_swap_66 hl (by decide) rfl (fun ls hl => ?_)
          have loop68_43 : ∀ (nf j36 : Nat), N + 1 ≤ j36 + nf → j36 ≤ N → (j18 + 1) ≤ j36 → ∀ (y37 : Int32) (y38 : Int64) (g39 : Nat → Int32) (y40 : Int64) (g41 : Nat → Int64) (g42 : Nat → Int64) (H : Heap) (locs : List Loc), va_P (dC, dI) vwCl [(h0, .inr (10, [.ref rd, .ref wy, .ref tr, .ref im, .ref kp, .ref od, .ref ch, .ref cr, .ref le, .ref mk, .ref tl, .ref sh, .int tf, .int rf])), (tr, .inr (9, [.int (nI N), .int (nI B), .int (nI D), .ref tc1, .ref tc2, .ref tc3, .ref tc4, .ref tc5, .ref tc6])), (tc1, .inl (G 0, 10, .inl u7)), (tc2, .inl (G 0, 10, .inl u8)), (tc3, .inl (G 0, 10, .inl g39)), (tc4, .inl (G 0, 6, .inl u10)), (tc5, .inl (G 0, 6, .inl u11)), (tc6, .inl (G 0, 6, .inl u12)), (od, .inr (4, [.long y40, .ref sa, .ref aa])), (sa, .inl (G 1, 10, .inr (.inl g41))), (aa, .inl (G 1, 10, .inr (.inl g42))), (wy, .inr (9, [.int (nI N), .int (nI B), .int (nI D), .ref a1, .ref a2, .ref a3, .ref a4, .ref a5, .ref a6])), (a1, .inl (G 0, 10, .inl f1)), (a2, .inl (G 0, 10, .inl f2)), (a3, .inl (G 0, 10, .inl f3)), (a4, .inl (G 0, 6, .inl f4)), (a5, .inl (G 0, 6, .inl f5)), (a6, .inl (G 0, 6, .inl f6))] H → va_D A [(h0, .inr (10, [.ref rd, .ref wy, .ref tr, .ref im, .ref kp, .ref od, .ref ch, .ref cr, .ref le, .ref mk, .ref tl, .ref sh, .int tf, .int rf])), (tr, .inr (9, [.int (nI N), .int (nI B), .int (nI D), .ref tc1, .ref tc2, .ref tc3, .ref tc4, .ref tc5, .ref tc6])), (tc1, .inl (G 0, 10, .inl u7)), (tc2, .inl (G 0, 10, .inl u8)), (tc3, .inl (G 0, 10, .inl g39)), (tc4, .inl (G 0, 6, .inl u10)), (tc5, .inl (G 0, 6, .inl u11)), (tc6, .inl (G 0, 6, .inl u12)), (od, .inr (4, [.long y40, .ref sa, .ref aa])), (sa, .inl (G 1, 10, .inr (.inl g41))), (aa, .inl (G 1, 10, .inr (.inl g42))), (wy, .inr (9, [.int (nI N), .int (nI B), .int (nI D), .ref a1, .ref a2, .ref a3, .ref a4, .ref a5, .ref a6])), (a1, .inl (G 0, 10, .inl f1)), (a2, .inl (G 0, 10, .inl f2)), (a3, .inl (G 0, 10, .inl f3)), (a4, .inl (G 0, 6, .inl f4)), (a5, .inl (G 0, 6, .inl f5)), (a6, .inl (G 0, 6, .inl f6))] → va_S A s.heap H locs → ∀ (ls : Array Slot), lv_has ls 9 [(6, .int (nI j36)), (5, .int (nI j18)), (4, .int y37), (2, .long y38), (0, .ref h0), (1, .int what)] → W p l e (headSpec (Cond.code yX10_swap cX10_swap 9 (some .long) :: GT) ({ frames := 5, cells := 0, slots := 0, locals := 121 } : Room)).room s m ([.ref h0, .int what] : List Value).toArray below meth c H locs 0 0 (MQ below (va_Ql (fun (r : Int64) (u : Nat × Nat × Nat × (Nat → Int32) × (Nat → Int32) × (Nat → Int32) × (Nat → Int32) × (Nat → Int32) × (Nat → Int32) × Int64 × (Nat → Int64) × (Nat → Int64)) => match u with | (u0, u1, u2, u3, u4, u5, u6, u7, u8, u9, v1, v2) => (True) ∧ u0 ≤ 10 ∧ u1 ≤ 6 ∧ (1 ≤ u2 ∧ u2 ≤ 9)) (fun (u : Nat × Nat × Nat × (Nat → Int32) × (Nat → Int32) × (Nat → Int32) × (Nat → Int32) × (Nat → Int32) × (Nat → Int32) × Int64 × (Nat → Int64) × (Nat → Int64)) (t : State) => match u with | (u0, u1, u2, u3, u4, u5, u6, u7, u8, u9, v1, v2) => va_P (dC, dI) vwCl [(h0, .inr (10, [.ref rd, .ref wy, .ref tr, .ref im, .ref kp, .ref od, .ref ch, .ref cr, .ref le, .ref mk, .ref tl, .ref sh, .int tf, .int rf])), (tr, .inr (9, [.int (nI u0), .int (nI u1), .int (nI u2), .ref tc1, .ref tc2, .ref tc3, .ref tc4, .ref tc5, .ref tc6])), (tc1, .inl (G 0, 10, .inl u3)), (tc2, .inl (G 0, 10, .inl u4)), (tc3, .inl (G 0, 10, .inl u5)), (tc4, .inl (G 0, 6, .inl u6)), (tc5, .inl (G 0, 6, .inl u7)), (tc6, .inl (G 0, 6, .inl u8)), (od, .inr (4, [.long u9, .ref sa, .ref aa])), (sa, .inl (G 1, 10, .inr (.inl v1))), (aa, .inl (G 1, 10, .inr (.inl v2))), (wy, .inr (9, [.int (nI N), .int (nI B), .int (nI D), .ref a1, .ref a2, .ref a3, .ref a4, .ref a5, .ref a6])), (a1, .inl (G 0, 10, .inl f1)), (a2, .inl (G 0, 10, .inl f2)), (a3, .inl (G 0, 10, .inl f3)), (a4, .inl (G 0, 6, .inl f4)), (a5, .inl (G 0, 6, .inl f5)), (a6, .inl (G 0, 6, .inl f6))] t.heap ∧ va_D A [(h0, .inr (10, [.ref rd, .ref wy, .ref tr, .ref im, .ref kp, .ref od, .ref ch, .ref cr, .ref le, .ref mk, .ref tl, .ref sh, .int tf, .int rf])), (tr, .inr (9, [.int (nI u0), .int (nI u1), .int (nI u2), .ref tc1, .ref tc2, .ref tc3, .ref tc4, .ref tc5, .ref tc6])), (tc1, .inl (G 0, 10, .inl u3)), (tc2, .inl (G 0, 10, .inl u4)), (tc3, .inl (G 0, 10, .inl u5)), (tc4, .inl (G 0, 6, .inl u6)), (tc5, .inl (G 0, 6, .inl u7)), (tc6, .inl (G 0, 6, .inl u8)), (od, .inr (4, [.long u9, .ref sa, .ref aa])), (sa, .inl (G 1, 10, .inr (.inl v1))), (aa, .inl (G 1, 10, .inr (.inl v2))), (wy, .inr (9, [.int (nI N), .int (nI B), .int (nI D), .ref a1, .ref a2, .ref a3, .ref a4, .ref a5, .ref a6])), (a1, .inl (G 0, 10, .inl f1)), (a2, .inl (G 0, 10, .inl f2)), (a3, .inl (G 0, 10, .inl f3)), (a4, .inl (G 0, 6, .inl f4)), (a5, .inl (G 0, 6, .inl f5)), (a6, .inl (G 0, 6, .inl f6))]) A) ([.ref h0, .int what] : List Value).toArray s 0 0 A) (F0 m 68 ls []) := by
            intro nf
            induction nf with
            | zero => intro j36 h1 h2; exact absurd h1 (by omega)
            | succ nf ih68_43 =>
              intro j36 hn44 hj45 hlo_j36 y37 y38 g39 y40 g41 g42 H locs hP hD hS ls hl
              refine lv_iload hx hb dX10_swap_68 (lv_at hl 0 rfl) ?_
              refine lv_aload_n hx hb dX10_swap_70 rfl (lv_at hl 4 rfl) ?_
              refine va_get (D := (dC, dI)) (ci := 10) (v := .ref wy) (C := RX10) (T := TX10) (N := 14) hx hb hg inG10 hown hK.1 hP 0 rfl rfl 1 (Nat.le_of_ble_eq_true rfl) (hg _ wt_303) (fun _ h9 => h9) rfl dX10_swap_71 ?_
              refine va_getN (D := (dC, dI)) (ci := 9) (v := .int (nI N)) (C := RX9) (T := TX9) (N := 9) hx hb hg inG9 hown hK.1 hP 11 rfl rfl 0 (Nat.le_of_ble_eq_true rfl) (hK.nest wn_60) (fun _ h9 => h9) rfl dX10_swap_74 ?_
              refine lv_icmp_ge (tgt := 150) hx hb dX10_swap_77 rfl (fun c46 => ?_) (fun c46 => ?_)
              · skip
                have tn295_ : nIT j36 := fun _ => nI_toInt (by first | omega | (have t := leI c46; omega))
                have n47 : N ≤ j36 := by have t := leI c46; rw [show (nI (j36)).toInt = ((j36 : Nat) : Int) from tn295_ ()] at t; rw [show (nI (N)).toInt = ((N : Nat) : Int) from tn287_ ()] at t; omega
                refine lv_iinc (v := nI (j18 + 1)) (lv' := [(5, .int (nI (j18 + 1))), (6, .int (nI j36)), (4, .int y37), (2, .long y38), (0, .ref h0), (1, .int what)]) hx hb dX10_swap_150 hl (k := 1) rfl (by rw [show Int32.ofInt 1 = nI 1 from by decide]; exact nI_add _ _) (by decide) rfl (fun ls hl => ?_)
                refine lv_goto (tgt := 50) hx hb dX10_swap_153 rfl ?_
                exact ih50_25 (j18 + 1) (by omega) (by omega) y37 y38 g39 y40 g41 g42 _ _ hP hD hS ls (lv_sub hl [0, 2, 3, 4, 5] rfl)
              · skip
                have tn296_ : nIT j36 := fun _ => nI_toInt (by first | omega | (have t := nleI c46; omega))
                have n48 : j36 < N := by have t := nleI c46; rw [show (nI (j36)).toInt = ((j36 : Nat) : Int) from tn296_ ()] at t; rw [show (nI (N)).toInt = ((N : Nat) : Int) from tn287_ ()] at t; omega
                refine lv_aload_n hx hb dX10_swap_80 rfl (lv_at hl 4 rfl) ?_
                refine va_get (D := (dC, dI)) (ci := 10) (v := .ref tr) (C := RX10) (T := TX10) (N := 14) hx hb hg inG10 hown hK.1 hP 0 rfl rfl 2 (Nat.le_of_ble_eq_true rfl) (hg _ wt_304) (fun _ h9 => h9) rfl dX10_swap_81 ?_
                refine lv_iload hx hb dX10_swap_84 (lv_at hl 1 rfl) ?_
                refine lv_iload hx hb dX10_swap_86 (lv_at hl 0 rfl) ?_
                obtain ⟨hPc, hDc, hFc⟩ := va_sub3 (ws' := [(tr, .inr (9, [.int (nI N), .int (nI B), .int (nI D), .ref tc1, .ref tc2, .ref tc3, .ref tc4, .ref tc5, .ref tc6])), (tc3, .inl (G 0, 10, .inl g39))]) hP hD hS hA [1, 4] (by decide +kernel) rfl
                refine va_callv (va_runVN (As := [.int (nI j18), .int (nI j36)]) (rest := []) ⟨hx, hb, hml, hown, hg⟩ (c_X9_exchange l dC dI G _ tr tc1 tc2 tc3 tc4 tc5 tc6 N B D (nI j18) (nI j36) g39 hN_N hB_B hD_D) (kwVN hg hK mfX9_exchange wn_715 ⟨Nat.le_of_ble_eq_true rfl, Nat.le_of_ble_eq_true rfl⟩) (preVW hK hPc hDc (ci := 9) (r := (RX9, TX9, 9)) rfl rfl) rfl rfl hl.1 rfl (lv_room (Nat.le_of_ble_eq_true rfl)) dX10_swap_88 ⟨Nat.le_of_ble_eq_true rfl, Nat.le_of_ble_eq_true rfl⟩) hS (fun q _ h => hFc q h) hFc (fun ur49 t H1 locs ht hvm w50 hB hz1 hk1 hS => ?_)
                obtain ⟨u51, rfl⟩ : ∃ z, z = ur49 := ⟨_, rfl⟩
                obtain ⟨hP1, hD1⟩ := hB
                rw [ht] at hP1
                obtain ⟨hP, hD⟩ := va_join (wr := [(h0, .inr (10, [.ref rd, .ref wy, .ref tr, .ref im, .ref kp, .ref od, .ref ch, .ref cr, .ref le, .ref mk, .ref tl, .ref sh, .int tf, .int rf])), (tc1, .inl (G 0, 10, .inl u7)), (tc2, .inl (G 0, 10, .inl u8)), (tc4, .inl (G 0, 6, .inl u10)), (tc5, .inl (G 0, 6, .inl u11)), (tc6, .inl (G 0, 6, .inl u12)), (od, .inr (4, [.long y40, .ref sa, .ref aa])), (sa, .inl (G 1, 10, .inr (.inl g41))), (aa, .inl (G 1, 10, .inr (.inl g42))), (wy, .inr (9, [.int (nI N), .int (nI B), .int (nI D), .ref a1, .ref a2, .ref a3, .ref a4, .ref a5, .ref a6])), (a1, .inl (G 0, 10, .inl f1)), (a2, .inl (G 0, 10, .inl f2)), (a3, .inl (G 0, 10, .inl f3)), (a4, .inl (G 0, 6, .inl f4)), (a5, .inl (G 0, 6, .inl f5)), (a6, .inl (G 0, 6, .inl f6))]) (w1 := [(tr, .inr (9, [.int (nI N), .int (nI B), .int (nI D), .ref tc1, .ref tc2, .ref tc3, .ref tc4, .ref tc5, .ref tc6])), (tc3, .inl (G 0, 10, .inl u51))]) hP hD [1, 4] [0, 2, 3, 5, 6, 7, 8, 9, 10, 11, 12, 13, 14, 15, 16, 17] rfl rfl (by decide +kernel) (by decide +kernel) hk1 hFc hP1 hD1
                generalize H1 = H at hP hS ⊢
                refine lv_aload_n hx hb dX10_swap_91 rfl (lv_at hl 4 rfl) ?_
                refine va_get (D := (dC, dI)) (ci := 10) (v := .ref od) (C := RX10) (T := TX10) (N := 14) hx hb hg inG10 hown hK.1 hP 0 rfl rfl 5 (Nat.le_of_ble_eq_true rfl) (hg _ wt_307) (fun _ h9 => h9) rfl dX10_swap_92 ?_
                refine lv_aload_n hx hb dX10_swap_95 rfl (lv_at hl 4 rfl) ?_
                refine va_get (D := (dC, dI)) (ci := 10) (v := .ref tr) (C := RX10) (T := TX10) (N := 14) hx hb hg inG10 hown hK.1 hP 0 rfl rfl 2 (Nat.le_of_ble_eq_true rfl) (hg _ wt_304) (fun _ h9 => h9) rfl dX10_swap_96 ?_
                refine lv_aload_n hx hb dX10_swap_99 rfl (lv_at hl 4 rfl) ?_
                refine va_get (D := (dC, dI)) (ci := 10) (v := .ref tr) (C := RX10) (T := TX10) (N := 14) hx hb hg inG10 hown hK.1 hP 0 rfl rfl 2 (Nat.le_of_ble_eq_true rfl) (hg _ wt_304) (fun _ h9 => h9) rfl dX10_swap_100 ?_
                refine va_getN (D := (dC, dI)) (ci := 9) (v := .int (nI N)) (C := RX9) (T := TX9) (N := 9) hx hb hg inG9 hown hK.1 hP 16 rfl rfl 0 (Nat.le_of_ble_eq_true rfl) (hK.nest wn_60) (fun _ h9 => h9) rfl dX10_swap_103 ?_
                refine lv_bipush (v := (-4)) hx hb dX10_swap_106 rfl ?_
                obtain ⟨hPc, hDc, hFc⟩ := va_sub3 (ws' := [(od, .inr (4, [.long y40, .ref sa, .ref aa])), (sa, .inl (G 1, 10, .inr (.inl g41))), (aa, .inl (G 1, 10, .inr (.inl g42))), (tr, .inr (9, [.int (nI N), .int (nI B), .int (nI D), .ref tc1, .ref tc2, .ref tc3, .ref tc4, .ref tc5, .ref tc6])), (tc1, .inl (G 0, 10, .inl u7)), (tc2, .inl (G 0, 10, .inl u8)), (tc3, .inl (G 0, 10, .inl u51)), (tc4, .inl (G 0, 6, .inl u10)), (tc5, .inl (G 0, 6, .inl u11)), (tc6, .inl (G 0, 6, .inl u12))]) hP hD hS hA [6, 7, 8, 16, 1, 2, 17, 3, 4, 5] (by decide +kernel) rfl
                refine va_calll (va_runVN (As := [.ref tr, .int (nI N), .int (-4)]) (rest := []) ⟨hx, hb, hml, hown, hg⟩ (c_X4_waking l dC dI G _ od sa aa tr tc1 tc2 tc3 tc4 tc5 tc6 N B D N (-4) y40 u7 u8 u51 u10 u11 u12 g41 g42 hN_N hB_B hD_D hN_N) (kwVN hg hK mfX4_waking wn_608 ⟨Nat.le_of_ble_eq_true rfl, Nat.le_of_ble_eq_true rfl⟩) (preVW hK hPc hDc (ci := 4) (r := (RX4, TX4, 3)) rfl rfl) rfl rfl hl.1 rfl (lv_room (Nat.le_of_ble_eq_true rfl)) dX10_swap_108 ⟨Nat.le_of_ble_eq_true rfl, Nat.le_of_ble_eq_true rfl⟩) hS (fun q _ h => hFc q h) hFc (fun r52 ur52 t H1 locs ht hvm w53 hB hz1 hk1 hS => ?_)
                obtain ⟨u54, u55, u56⟩ := ur52
                obtain ⟨hP1, hD1⟩ := hB
                rw [ht] at hP1
                obtain ⟨hP, hD⟩ := va_join (wr := [(h0, .inr (10, [.ref rd, .ref wy, .ref tr, .ref im, .ref kp, .ref od, .ref ch, .ref cr, .ref le, .ref mk, .ref tl, .ref sh, .int tf, .int rf])), (wy, .inr (9, [.int (nI N), .int (nI B), .int (nI D), .ref a1, .ref a2, .ref a3, .ref a4, .ref a5, .ref a6])), (a1, .inl (G 0, 10, .inl f1)), (a2, .inl (G 0, 10, .inl f2)), (a3, .inl (G 0, 10, .inl f3)), (a4, .inl (G 0, 6, .inl f4)), (a5, .inl (G 0, 6, .inl f5)), (a6, .inl (G 0, 6, .inl f6))]) (w1 := [(od, .inr (4, [.long u54, .ref sa, .ref aa])), (sa, .inl (G 1, 10, .inr (.inl u55))), (aa, .inl (G 1, 10, .inr (.inl u56))), (tr, .inr (9, [.int (nI N), .int (nI B), .int (nI D), .ref tc1, .ref tc2, .ref tc3, .ref tc4, .ref tc5, .ref tc6])), (tc1, .inl (G 0, 10, .inl u7)), (tc2, .inl (G 0, 10, .inl u8)), (tc3, .inl (G 0, 10, .inl u51)), (tc4, .inl (G 0, 6, .inl u10)), (tc5, .inl (G 0, 6, .inl u11)), (tc6, .inl (G 0, 6, .inl u12))]) hP hD [6, 7, 8, 16, 1, 2, 17, 3, 4, 5] [0, 9, 10, 11, 12, 13, 14, 15] rfl rfl (by decide +kernel) (by decide +kernel) hk1 hFc hP1 hD1
                generalize H1 = H at hP hS ⊢
                obtain ⟨w53, w53x⟩ := w53
                refine lv_lstore (lv' := [(7, .long r52), (6, .int (nI j36)), (5, .int (nI j18)), (4, .int y37), (2, .long y38), (0, .ref h0), (1, .int what)]) hx hb dX10_swap_111 hl (by decide) rfl (fun ls hl => ?_)
                refine lv_aload_n hx hb dX10_swap_113 rfl (lv_at hl 5 rfl) ?_
                refine va_get (D := (dC, dI)) (ci := 10) (v := .ref tr) (C := RX10) (T := TX10) (N := 14) hx hb hg inG10 hown hK.1 hP 0 rfl rfl 2 (Nat.le_of_ble_eq_true rfl) (hg _ wt_304) (fun _ h9 => h9) rfl dX10_swap_114 ?_
                refine lv_iload hx hb dX10_swap_117 (lv_at hl 2 rfl) ?_
                refine lv_iload hx hb dX10_swap_119 (lv_at hl 1 rfl) ?_
                obtain ⟨hPc, hDc, hFc⟩ := va_sub3 (ws' := [(tr, .inr (9, [.int (nI N), .int (nI B), .int (nI D), .ref tc1, .ref tc2, .ref tc3, .ref tc4, .ref tc5, .ref tc6])), (tc3, .inl (G 0, 10, .inl u51))]) hP hD hS hA [11, 14] (by decide +kernel) rfl
                refine va_callv (va_runVN (As := [.int (nI j18), .int (nI j36)]) (rest := []) ⟨hx, hb, hml, hown, hg⟩ (c_X9_exchange l dC dI G _ tr tc1 tc2 tc3 tc4 tc5 tc6 N B D (nI j18) (nI j36) u51 hN_N hB_B hD_D) (kwVN hg hK mfX9_exchange wn_715 ⟨Nat.le_of_ble_eq_true rfl, Nat.le_of_ble_eq_true rfl⟩) (preVW hK hPc hDc (ci := 9) (r := (RX9, TX9, 9)) rfl rfl) rfl rfl hl.1 rfl (lv_room (Nat.le_of_ble_eq_true rfl)) dX10_swap_121 ⟨Nat.le_of_ble_eq_true rfl, Nat.le_of_ble_eq_true rfl⟩) hS (fun q _ h => hFc q h) hFc (fun ur57 t H1 locs ht hvm w58 hB hz1 hk1 hS => ?_)
                obtain ⟨u59, rfl⟩ : ∃ z, z = ur57 := ⟨_, rfl⟩
                obtain ⟨hP1, hD1⟩ := hB
                rw [ht] at hP1
                obtain ⟨hP, hD⟩ := va_join (wr := [(h0, .inr (10, [.ref rd, .ref wy, .ref tr, .ref im, .ref kp, .ref od, .ref ch, .ref cr, .ref le, .ref mk, .ref tl, .ref sh, .int tf, .int rf])), (wy, .inr (9, [.int (nI N), .int (nI B), .int (nI D), .ref a1, .ref a2, .ref a3, .ref a4, .ref a5, .ref a6])), (a1, .inl (G 0, 10, .inl f1)), (a2, .inl (G 0, 10, .inl f2)), (a3, .inl (G 0, 10, .inl f3)), (a4, .inl (G 0, 6, .inl f4)), (a5, .inl (G 0, 6, .inl f5)), (a6, .inl (G 0, 6, .inl f6)), (od, .inr (4, [.long u54, .ref sa, .ref aa])), (sa, .inl (G 1, 10, .inr (.inl u55))), (aa, .inl (G 1, 10, .inr (.inl u56))), (tc1, .inl (G 0, 10, .inl u7)), (tc2, .inl (G 0, 10, .inl u8)), (tc4, .inl (G 0, 6, .inl u10)), (tc5, .inl (G 0, 6, .inl u11)), (tc6, .inl (G 0, 6, .inl u12))]) (w1 := [(tr, .inr (9, [.int (nI N), .int (nI B), .int (nI D), .ref tc1, .ref tc2, .ref tc3, .ref tc4, .ref tc5, .ref tc6])), (tc3, .inl (G 0, 10, .inl u59))]) hP hD [11, 14] [0, 1, 2, 3, 4, 5, 6, 7, 8, 9, 10, 12, 13, 15, 16, 17] rfl rfl (by decide +kernel) (by decide +kernel) hk1 hFc hP1 hD1
                generalize H1 = H at hP hS ⊢
                refine lv_lload hx hb dX10_swap_124 (lv_at hl 0 rfl) ?_
                refine lv_lload_n hx hb dX10_swap_126 rfl (lv_at hl 4 rfl) ?_
                refine W.lcmp hx hb dX10_swap_127 ?_
                have cut144_62 : ∀ (y60 : Int32) (y61 : Int64) (H : Heap) (locs : List Loc), va_P (dC, dI) vwCl [(h0, .inr (10, [.ref rd, .ref wy, .ref tr, .ref im, .ref kp, .ref od, .ref ch, .ref cr, .ref le, .ref mk, .ref tl, .ref sh, .int tf, .int rf])), (wy, .inr (9, [.int (nI N), .int (nI B), .int (nI D), .ref a1, .ref a2, .ref a3, .ref a4, .ref a5, .ref a6])), (a1, .inl (G 0, 10, .inl f1)), (a2, .inl (G 0, 10, .inl f2)), (a3, .inl (G 0, 10, .inl f3)), (a4, .inl (G 0, 6, .inl f4)), (a5, .inl (G 0, 6, .inl f5)), (a6, .inl (G 0, 6, .inl f6)), (od, .inr (4, [.long u54, .ref sa, .ref aa])), (sa, .inl (G 1, 10, .inr (.inl u55))), (aa, .inl (G 1, 10, .inr (.inl u56))), (tc1, .inl (G 0, 10, .inl u7)), (tc2, .inl (G 0, 10, .inl u8)), (tc4, .inl (G 0, 6, .inl u10)), (tc5, .inl (G 0, 6, .inl u11)), (tc6, .inl (G 0, 6, .inl u12)), (tr, .inr (9, [.int (nI N), .int (nI B), .int (nI D), .ref tc1, .ref tc2, .ref tc3, .ref tc4, .ref tc5, .ref tc6])), (tc3, .inl (G 0, 10, .inl u59))] H → va_D A [(h0, .inr (10, [.ref rd, .ref wy, .ref tr, .ref im, .ref kp, .ref od, .ref ch, .ref cr, .ref le, .ref mk, .ref tl, .ref sh, .int tf, .int rf])), (wy, .inr (9, [.int (nI N), .int (nI B), .int (nI D), .ref a1, .ref a2, .ref a3, .ref a4, .ref a5, .ref a6])), (a1, .inl (G 0, 10, .inl f1)), (a2, .inl (G 0, 10, .inl f2)), (a3, .inl (G 0, 10, .inl f3)), (a4, .inl (G 0, 6, .inl f4)), (a5, .inl (G 0, 6, .inl f5)), (a6, .inl (G 0, 6, .inl f6)), (od, .inr (4, [.long u54, .ref sa, .ref aa])), (sa, .inl (G 1, 10, .inr (.inl u55))), (aa, .inl (G 1, 10, .inr (.inl u56))), (tc1, .inl (G 0, 10, .inl u7)), (tc2, .inl (G 0, 10, .inl u8)), (tc4, .inl (G 0, 6, .inl u10)), (tc5, .inl (G 0, 6, .inl u11)), (tc6, .inl (G 0, 6, .inl u12)), (tr, .inr (9, [.int (nI N), .int (nI B), .int (nI D), .ref tc1, .ref tc2, .ref tc3, .ref tc4, .ref tc5, .ref tc6])), (tc3, .inl (G 0, 10, .inl u59))] → va_S A s.heap H locs → ∀ (ls : Array Slot), lv_has ls 9 [(7, .long r52), (6, .int (nI j36)), (5, .int (nI j18)), (4, .int y60), (2, .long y61), (0, .ref h0), (1, .int what)] → W p l e (headSpec (Cond.code yX10_swap cX10_swap 9 (some .long) :: GT) ({ frames := 5, cells := 0, slots := 0, locals := 121 } : Room)).room s m ([.ref h0, .int what] : List Value).toArray below meth c H locs 0 0 (MQ below (va_Ql (fun (r : Int64) (u : Nat × Nat × Nat × (Nat → Int32) × (Nat → Int32) × (Nat → Int32) × (Nat → Int32) × (Nat → Int32) × (Nat → Int32) × Int64 × (Nat → Int64) × (Nat → Int64)) => match u with | (u0, u1, u2, u3, u4, u5, u6, u7, u8, u9, v1, v2) => (True) ∧ u0 ≤ 10 ∧ u1 ≤ 6 ∧ (1 ≤ u2 ∧ u2 ≤ 9)) (fun (u : Nat × Nat × Nat × (Nat → Int32) × (Nat → Int32) × (Nat → Int32) × (Nat → Int32) × (Nat → Int32) × (Nat → Int32) × Int64 × (Nat → Int64) × (Nat → Int64)) (t : State) => match u with | (u0, u1, u2, u3, u4, u5, u6, u7, u8, u9, v1, v2) => va_P (dC, dI) vwCl [(h0, .inr (10, [.ref rd, .ref wy, .ref tr, .ref im, .ref kp, .ref od, .ref ch, .ref cr, .ref le, .ref mk, .ref tl, .ref sh, .int tf, .int rf])), (tr, .inr (9, [.int (nI u0), .int (nI u1), .int (nI u2), .ref tc1, .ref tc2, .ref tc3, .ref tc4, .ref tc5, .ref tc6])), (tc1, .inl (G 0, 10, .inl u3)), (tc2, .inl (G 0, 10, .inl u4)), (tc3, .inl (G 0, 10, .inl u5)), (tc4, .inl (G 0, 6, .inl u6)), (tc5, .inl (G 0, 6, .inl u7)), (tc6, .inl (G 0, 6, .inl u8)), (od, .inr (4, [.long u9, .ref sa, .ref aa])), (sa, .inl (G 1, 10, .inr (.inl v1))), (aa, .inl (G 1, 10, .inr (.inl v2))), (wy, .inr (9, [.int (nI N), .int (nI B), .int (nI D), .ref a1, .ref a2, .ref a3, .ref a4, .ref a5, .ref a6])), (a1, .inl (G 0, 10, .inl f1)), (a2, .inl (G 0, 10, .inl f2)), (a3, .inl (G 0, 10, .inl f3)), (a4, .inl (G 0, 6, .inl f4)), (a5, .inl (G 0, 6, .inl f5)), (a6, .inl (G 0, 6, .inl f6))] t.heap ∧ va_D A [(h0, .inr (10, [.ref rd, .ref wy, .ref tr, .ref im, .ref kp, .ref od, .ref ch, .ref cr, .ref le, .ref mk, .ref tl, .ref sh, .int tf, .int rf])), (tr, .inr (9, [.int (nI u0), .int (nI u1), .int (nI u2), .ref tc1, .ref tc2, .ref tc3, .ref tc4, .ref tc5, .ref tc6])), (tc1, .inl (G 0, 10, .inl u3)), (tc2, .inl (G 0, 10, .inl u4)), (tc3, .inl (G 0, 10, .inl u5)), (tc4, .inl (G 0, 6, .inl u6)), (tc5, .inl (G 0, 6, .inl u7)), (tc6, .inl (G 0, 6, .inl u8)), (od, .inr (4, [.long u9, .ref sa, .ref aa])), (sa, .inl (G 1, 10, .inr (.inl v1))), (aa, .inl (G 1, 10, .inr (.inl v2))), (wy, .inr (9, [.int (nI N), .int (nI B), .int (nI D), .ref a1, .ref a2, .ref a3, .ref a4, .ref a5, .ref a6])), (a1, .inl (G 0, 10, .inl f1)), (a2, .inl (G 0, 10, .inl f2)), (a3, .inl (G 0, 10, .inl f3)), (a4, .inl (G 0, 6, .inl f4)), (a5, .inl (G 0, 6, .inl f5)), (a6, .inl (G 0, 6, .inl f6))]) A) ([.ref h0, .int what] : List Value).toArray s 0 0 A) (F0 m 144 ls []) := by
                  intro y60 y61 H locs hP hD hS ls hl
                  refine lv_iinc (v := nI (j36 + 1)) (lv' := [(6, .int (nI (j36 + 1))), (7, .long r52), (5, .int (nI j18)), (4, .int y60), (2, .long y61), (0, .ref h0), (1, .int what)]) hx hb dX10_swap_144 hl (k := 1) rfl (by rw [show Int32.ofInt 1 = nI 1 from by decide]; exact nI_add _ _) (by decide) rfl (fun ls hl => ?_)
                  refine lv_goto (tgt := 68) hx hb dX10_swap_147 rfl ?_
                  exact ih68_43 (j36 + 1) (by omega) (by omega) (by omega) y60 y61 u59 u54 u55 u56 _ _ (hP.sub [0, 16, 11, 12, 17, 13, 14, 15, 8, 9, 10, 1, 2, 3, 4, 5, 6, 7] rfl) (hD.sub [0, 16, 11, 12, 17, 13, 14, 15, 8, 9, 10, 1, 2, 3, 4, 5, 6, 7] (by decide) rfl) hS ls (lv_sub hl [0, 2, 3, 4, 5, 6] rfl)
                refine lv_if_ge (tgt := 144) hx hb dX10_swap_128 rfl (fun c63 => ?_) (fun c63 => ?_)
                · skip
                  exact cut144_62 y37 y38 _ _ hP hD hS ls (lv_sub hl [0, 1, 2, 3, 4, 5, 6] rfl)
                · skip
                  refine lv_lload hx hb dX10_swap_131 (lv_at hl 0 rfl) ?_
                  refine lv_lstore_n (lv' := [(2, .long r52), (7, .long r52), (6, .int (nI j36)), (5, .int (nI j18)), (4, .int y37), (0, .ref h0), (1, .int what)]) hx hb dX10_swap_133 rfl hl (by decide) rfl (fun ls hl => ?_)
                  refine lv_bipush (v := 10) hx hb dX10_swap_134 rfl ?_
                  refine lv_iload hx hb dX10_swap_136 (lv_at hl 3 rfl) ?_
                  refine lv_imul hx hb dX10_swap_138 ?_
                  refine lv_cg (y := nI (10 * j18)) (by rw [show (10 : Int32) = nI 10 from rfl]; exact pk_mul _ _) ?_
                  refine lv_iload hx hb dX10_swap_139 (lv_at hl 2 rfl) ?_
                  refine lv_iadd hx hb dX10_swap_141 ?_
                  refine lv_cg (y := nI ((10 * j18) + j36)) (by exact nI_add _ _) ?_
                  refine lv_istore (lv' := [(4, .int (nI ((10 * j18) + j36))), (2, .long r52), (7, .long r52), (6, .int (nI j36)), (5, .int (nI j18)), (0, .ref h0), (1, .int what)]) hx hb dX10_swap_142 hl (by decide) rfl (fun ls hl => ?_)
                  exact cut144_62 (nI ((10 * j18) + j36)) r52 _ _ hP hD hS ls (lv_sub hl [2, 3, 4, 0, 1, 5, 6] rfl)
          exact loop68_43 (N + 1) (j18 + 1) (by omega) (by omega) (by omega) y19 y20 g21 y22 g23 g24 _ _ hP hD hS ls (lv_sub hl [0, 1, 2, 3, 4, 5] rfl)
    exact loop50_25 (N + 1) 0 (by omega) (by omega) (-4) r13 u9 u15 u16 u17 _ _ hP hD hS ls (lv_sub hl [0, 1, 2, 3, 4] rfl)
  · skip
    have b64 := if10_n c3
    refine lv_ldc2 (v := (-1)) hx hb hown (hg _ wt_607) dX10_swap_7 ?_
    have hpost : True := by
      trivial
    obtain ⟨hP9, hD9⟩ := va_sub2 (ws' := [(h0, .inr (10, [.ref rd, .ref wy, .ref tr, .ref im, .ref kp, .ref od, .ref ch, .ref cr, .ref le, .ref mk, .ref tl, .ref sh, .int tf, .int rf])), (tr, .inr (9, [.int (nI X), .int (nI Y), .int (nI Z), .ref tc1, .ref tc2, .ref tc3, .ref tc4, .ref tc5, .ref tc6])), (tc1, .inl (G 0, 10, .inl z1)), (tc2, .inl (G 0, 10, .inl z2)), (tc3, .inl (G 0, 10, .inl z3)), (tc4, .inl (G 0, 6, .inl z4)), (tc5, .inl (G 0, 6, .inl z5)), (tc6, .inl (G 0, 6, .inl z6)), (od, .inr (4, [.long w0, .ref sa, .ref aa])), (sa, .inl (G 1, 10, .inr (.inl f))), (aa, .inl (G 1, 10, .inr (.inl g))), (wy, .inr (9, [.int (nI N), .int (nI B), .int (nI D), .ref a1, .ref a2, .ref a3, .ref a4, .ref a5, .ref a6])), (a1, .inl (G 0, 10, .inl f1)), (a2, .inl (G 0, 10, .inl f2)), (a3, .inl (G 0, 10, .inl f3)), (a4, .inl (G 0, 6, .inl f4)), (a5, .inl (G 0, 6, .inl f5)), (a6, .inl (G 0, 6, .inl f6))]) hP hD [0, 1, 2, 3, 4, 5, 6, 7, 8, 9, 10, 11, 12, 13, 14, 15, 16, 17] (by decide +kernel) rfl
    refine W.widen (k := 0) (n := 0) (Nat.le_of_ble_eq_true rfl) (Nat.le_of_ble_eq_true rfl) ?_
    exact W.lret (v := (-1)) hx hb hr (fun t ht hW => ⟨⟨(-1), (X, Y, Z, z1, z2, z3, z4, z5, z6, w0, f, g), rfl, ⟨hpost, (by have t_b64 := b64; have tnb_ := nib6 tn290_ tn291_ tn292_ tn287_ tn288_ tn289_; omega)⟩, ⟨by rw [ht]; exact hP9, hD9⟩⟩, hS.F ht⟩) hS.2.2 dX10_swap_10

set_option maxHeartbeats 1000000 in
set_option maxRecDepth 100000 in
theorem c_X10_steps (l : Launch) (dC : Nat → ClassId) (dI : Nat → Nat → Nat) (G : Nat → ClassId) (sz : Nat) (h0 rd wy tr im kp od ch cr le mk tl sh a1 a2 a3 a4 a5 a6 N B D tc1 tc2 tc3 tc4 tc5 tc6 X Y Z l1 l2 l3 l4 S : Nat) (tf rf b what : Int32) (f1 f2 f3 f4 f5 f6 z1 z2 z3 z4 z5 z6 zz1 zz2 zz3 zz4 : Nat → Int32) (hN_N : N ≤ 10) (hB_B : B ≤ 6) (hD_D : 1 ≤ D ∧ D ≤ 9) (hN_X : X ≤ 10) (hB_Y : Y ≤ 6) (hD_Z : 1 ≤ Z ∧ Z ≤ 9) (hS0 : S ≤ 8) : Met l yX10_steps (Cond.code yX10_steps cX10_steps 7 (some .int) :: GT) ({ frames := 4, cells := 0, slots := 0, locals := 121 } : Room) (PcW [.ref h0, .int b, .int what] dC dI G [(h0, .inr (10, [.ref rd, .ref wy, .ref tr, .ref im, .ref kp, .ref od, .ref ch, .ref cr, .ref le, .ref mk, .ref tl, .ref sh, .int tf, .int rf])), (tr, .inr (9, [.int (nI X), .int (nI Y), .int (nI Z), .ref tc1, .ref tc2, .ref tc3, .ref tc4, .ref tc5, .ref tc6])), (tc1, .inl (G 0, 10, .inl z1)), (tc2, .inl (G 0, 10, .inl z2)), (tc3, .inl (G 0, 10, .inl z3)), (tc4, .inl (G 0, 6, .inl z4)), (tc5, .inl (G 0, 6, .inl z5)), (tc6, .inl (G 0, 6, .inl z6)), (wy, .inr (9, [.int (nI N), .int (nI B), .int (nI D), .ref a1, .ref a2, .ref a3, .ref a4, .ref a5, .ref a6])), (a1, .inl (G 0, 10, .inl f1)), (a2, .inl (G 0, 10, .inl f2)), (a3, .inl (G 0, 10, .inl f3)), (a4, .inl (G 0, 6, .inl f4)), (a5, .inl (G 0, 6, .inl f5)), (a6, .inl (G 0, 6, .inl f6)), (le, .inr (2, [.int (nI S), .ref l1, .ref l2, .ref l3, .ref l4])), (l1, .inl (G 0, 8, .inl zz1)), (l2, .inl (G 0, 8, .inl zz2)), (l3, .inl (G 0, 8, .inl zz3)), (l4, .inl (G 0, 8, .inl zz4))] sz) (va_Qi (fun (r : Int32) (u : Nat × Nat × Nat × (Nat → Int32) × (Nat → Int32) × (Nat → Int32) × (Nat → Int32) × (Nat → Int32) × (Nat → Int32)) => match u with | (u0, u1, u2, u3, u4, u5, u6, u7, u8) => (True) ∧ u0 ≤ 10 ∧ u1 ≤ 6 ∧ (1 ≤ u2 ∧ u2 ≤ 9)) (fun (u : Nat × Nat × Nat × (Nat → Int32) × (Nat → Int32) × (Nat → Int32) × (Nat → Int32) × (Nat → Int32) × (Nat → Int32)) (t : State) => match u with | (u0, u1, u2, u3, u4, u5, u6, u7, u8) => va_P (dC, dI) vwCl [(h0, .inr (10, [.ref rd, .ref wy, .ref tr, .ref im, .ref kp, .ref od, .ref ch, .ref cr, .ref le, .ref mk, .ref tl, .ref sh, .int tf, .int rf])), (tr, .inr (9, [.int (nI u0), .int (nI u1), .int (nI u2), .ref tc1, .ref tc2, .ref tc3, .ref tc4, .ref tc5, .ref tc6])), (tc1, .inl (G 0, 10, .inl u3)), (tc2, .inl (G 0, 10, .inl u4)), (tc3, .inl (G 0, 10, .inl u5)), (tc4, .inl (G 0, 6, .inl u6)), (tc5, .inl (G 0, 6, .inl u7)), (tc6, .inl (G 0, 6, .inl u8)), (wy, .inr (9, [.int (nI N), .int (nI B), .int (nI D), .ref a1, .ref a2, .ref a3, .ref a4, .ref a5, .ref a6])), (a1, .inl (G 0, 10, .inl f1)), (a2, .inl (G 0, 10, .inl f2)), (a3, .inl (G 0, 10, .inl f3)), (a4, .inl (G 0, 6, .inl f4)), (a5, .inl (G 0, 6, .inl f5)), (a6, .inl (G 0, 6, .inl f6)), (le, .inr (2, [.int (nI S), .ref l1, .ref l2, .ref l3, .ref l4])), (l1, .inl (G 0, 8, .inl zz1)), (l2, .inl (G 0, 8, .inl zz2)), (l3, .inl (G 0, 8, .inl zz3)), (l4, .inl (G 0, 8, .inl zz4))] t.heap ∧ va_D (va_A [(h0, .inr (10, [.ref rd, .ref wy, .ref tr, .ref im, .ref kp, .ref od, .ref ch, .ref cr, .ref le, .ref mk, .ref tl, .ref sh, .int tf, .int rf])), (tr, .inr (9, [.int (nI X), .int (nI Y), .int (nI Z), .ref tc1, .ref tc2, .ref tc3, .ref tc4, .ref tc5, .ref tc6])), (tc1, .inl (G 0, 10, .inl z1)), (tc2, .inl (G 0, 10, .inl z2)), (tc3, .inl (G 0, 10, .inl z3)), (tc4, .inl (G 0, 6, .inl z4)), (tc5, .inl (G 0, 6, .inl z5)), (tc6, .inl (G 0, 6, .inl z6)), (wy, .inr (9, [.int (nI N), .int (nI B), .int (nI D), .ref a1, .ref a2, .ref a3, .ref a4, .ref a5, .ref a6])), (a1, .inl (G 0, 10, .inl f1)), (a2, .inl (G 0, 10, .inl f2)), (a3, .inl (G 0, 10, .inl f3)), (a4, .inl (G 0, 6, .inl f4)), (a5, .inl (G 0, 6, .inl f5)), (a6, .inl (G 0, 6, .inl f6)), (le, .inr (2, [.int (nI S), .ref l1, .ref l2, .ref l3, .ref l4])), (l1, .inl (G 0, 8, .inl zz1)), (l2, .inl (G 0, 8, .inl zz2)), (l3, .inl (G 0, 8, .inl zz3)), (l4, .inl (G 0, 8, .inl zz4))] sz) [(h0, .inr (10, [.ref rd, .ref wy, .ref tr, .ref im, .ref kp, .ref od, .ref ch, .ref cr, .ref le, .ref mk, .ref tl, .ref sh, .int tf, .int rf])), (tr, .inr (9, [.int (nI u0), .int (nI u1), .int (nI u2), .ref tc1, .ref tc2, .ref tc3, .ref tc4, .ref tc5, .ref tc6])), (tc1, .inl (G 0, 10, .inl u3)), (tc2, .inl (G 0, 10, .inl u4)), (tc3, .inl (G 0, 10, .inl u5)), (tc4, .inl (G 0, 6, .inl u6)), (tc5, .inl (G 0, 6, .inl u7)), (tc6, .inl (G 0, 6, .inl u8)), (wy, .inr (9, [.int (nI N), .int (nI B), .int (nI D), .ref a1, .ref a2, .ref a3, .ref a4, .ref a5, .ref a6])), (a1, .inl (G 0, 10, .inl f1)), (a2, .inl (G 0, 10, .inl f2)), (a3, .inl (G 0, 10, .inl f3)), (a4, .inl (G 0, 6, .inl f4)), (a5, .inl (G 0, 6, .inl f5)), (a6, .inl (G 0, 6, .inl f6)), (le, .inr (2, [.int (nI S), .ref l1, .ref l2, .ref l3, .ref l4])), (l1, .inl (G 0, 8, .inl zz1)), (l2, .inl (G 0, 8, .inl zz2)), (l3, .inl (G 0, 8, .inl zz3)), (l4, .inl (G 0, 8, .inl zz4))]) (va_A [(h0, .inr (10, [.ref rd, .ref wy, .ref tr, .ref im, .ref kp, .ref od, .ref ch, .ref cr, .ref le, .ref mk, .ref tl, .ref sh, .int tf, .int rf])), (tr, .inr (9, [.int (nI X), .int (nI Y), .int (nI Z), .ref tc1, .ref tc2, .ref tc3, .ref tc4, .ref tc5, .ref tc6])), (tc1, .inl (G 0, 10, .inl z1)), (tc2, .inl (G 0, 10, .inl z2)), (tc3, .inl (G 0, 10, .inl z3)), (tc4, .inl (G 0, 6, .inl z4)), (tc5, .inl (G 0, 6, .inl z5)), (tc6, .inl (G 0, 6, .inl z6)), (wy, .inr (9, [.int (nI N), .int (nI B), .int (nI D), .ref a1, .ref a2, .ref a3, .ref a4, .ref a5, .ref a6])), (a1, .inl (G 0, 10, .inl f1)), (a2, .inl (G 0, 10, .inl f2)), (a3, .inl (G 0, 10, .inl f3)), (a4, .inl (G 0, 6, .inl f4)), (a5, .inl (G 0, 6, .inl f5)), (a6, .inl (G 0, 6, .inl f6)), (le, .inr (2, [.int (nI S), .ref l1, .ref l2, .ref l3, .ref l4])), (l1, .inl (G 0, 8, .inl zz1)), (l2, .inl (G 0, 8, .inl zz2)), (l3, .inl (G 0, 8, .inl zz3)), (l4, .inl (G 0, 8, .inl zz4))] sz)) 0 0 (va_A [(h0, .inr (10, [.ref rd, .ref wy, .ref tr, .ref im, .ref kp, .ref od, .ref ch, .ref cr, .ref le, .ref mk, .ref tl, .ref sh, .int tf, .int rf])), (tr, .inr (9, [.int (nI X), .int (nI Y), .int (nI Z), .ref tc1, .ref tc2, .ref tc3, .ref tc4, .ref tc5, .ref tc6])), (tc1, .inl (G 0, 10, .inl z1)), (tc2, .inl (G 0, 10, .inl z2)), (tc3, .inl (G 0, 10, .inl z3)), (tc4, .inl (G 0, 6, .inl z4)), (tc5, .inl (G 0, 6, .inl z5)), (tc6, .inl (G 0, 6, .inl z6)), (wy, .inr (9, [.int (nI N), .int (nI B), .int (nI D), .ref a1, .ref a2, .ref a3, .ref a4, .ref a5, .ref a6])), (a1, .inl (G 0, 10, .inl f1)), (a2, .inl (G 0, 10, .inl f2)), (a3, .inl (G 0, 10, .inl f3)), (a4, .inl (G 0, 6, .inl f4)), (a5, .inl (G 0, 6, .inl f5)), (a6, .inl (G 0, 6, .inl f6)), (le, .inr (2, [.int (nI S), .ref l1, .ref l2, .ref l3, .ref l4])), (l1, .inl (G 0, 8, .inl zz1)), (l2, .inl (G 0, 8, .inl zz2)), (l3, .inl (G 0, 8, .inl zz3)), (l4, .inl (G 0, 8, .inl zz4))] sz) := by
  have tn297_ : nIT N := fun _ => nI_toInt (by omega)
  have tn298_ : nIT B := fun _ => nI_toInt (by omega)
  have tn299_ : nIT D := fun _ => nI_toInt (by omega)
  have tn300_ : nIT S := fun _ => nI_toInt (by omega)
  have tn301_ : nIT X := fun _ => nI_toInt (by omega)
  have tn302_ : nIT Y := fun _ => nI_toInt (by omega)
  have tn303_ : nIT Z := fun _ => nI_toInt (by omega)
  refine Met.ofW (cc := cX10_steps) (maxL := 7) (ret := (some .int)) (by decide) rfl ?_
  intro p e s m args below meth c s₁ Bd hml hv
  obtain ⟨rfl, hsz, hP, hK, hD0⟩ := hv
  have hx := Bd.exec
  have hb := Bd.bytes
  have hr := Bd.returns
  have hg : ∀ w ∈ GT, w.before ([.ref h0, .int b, .int what] : List Value).toArray s = true := fun w h => atoms_spec (ws := Cond.code yX10_steps cX10_steps 7 (some .int) :: GT) Bd.pre w (List.mem_cons_of_mem _ h)
  have hown : s.vm.findClass RX10 = some m.cls := findClass_of_methodNamed Bd.named
  have hlocks := Bd.notSynchronized
  subst hsz
  have hD := hD0.self (sz := s.heap.size)
  generalize hAe : va_A [(h0, .inr (10, [.ref rd, .ref wy, .ref tr, .ref im, .ref kp, .ref od, .ref ch, .ref cr, .ref le, .ref mk, .ref tl, .ref sh, .int tf, .int rf])), (tr, .inr (9, [.int (nI X), .int (nI Y), .int (nI Z), .ref tc1, .ref tc2, .ref tc3, .ref tc4, .ref tc5, .ref tc6])), (tc1, .inl (G 0, 10, .inl z1)), (tc2, .inl (G 0, 10, .inl z2)), (tc3, .inl (G 0, 10, .inl z3)), (tc4, .inl (G 0, 6, .inl z4)), (tc5, .inl (G 0, 6, .inl z5)), (tc6, .inl (G 0, 6, .inl z6)), (wy, .inr (9, [.int (nI N), .int (nI B), .int (nI D), .ref a1, .ref a2, .ref a3, .ref a4, .ref a5, .ref a6])), (a1, .inl (G 0, 10, .inl f1)), (a2, .inl (G 0, 10, .inl f2)), (a3, .inl (G 0, 10, .inl f3)), (a4, .inl (G 0, 6, .inl f4)), (a5, .inl (G 0, 6, .inl f5)), (a6, .inl (G 0, 6, .inl f6)), (le, .inr (2, [.int (nI S), .ref l1, .ref l2, .ref l3, .ref l4])), (l1, .inl (G 0, 8, .inl zz1)), (l2, .inl (G 0, 8, .inl zz2)), (l3, .inl (G 0, 8, .inl zz3)), (l4, .inl (G 0, 8, .inl zz4))] s.heap.size = A at hD ⊢
  have hA : ∀ q : Nat, s.heap.size ≤ q → A q := fun q h => by rw [← hAe]; exact Or.inr h
  have hS : va_S A s.heap s.heap [] := va_S.rf
  have hl := lv_entry ([.ref h0, .int b, .int what]) (n := 7) (Nat.le_of_ble_eq_true rfl)
  rw [lg_entry_eq]
  generalize (lg_sl ([.ref h0, .int b, .int what]) ++ List.replicate (7 - (lg_sl ([.ref h0, .int b, .int what])).length) Slot.unset).toArray = ls at hl ⊢
  have hl : lv_has ls 7 [(0, .ref h0), (1, .int b), (2, .int what)] := hl
  refine lv_aload_n hx hb dX10_steps_0 rfl (lv_at hl 0 rfl) ?_
  refine va_get (D := (dC, dI)) (ci := 10) (v := .ref wy) (C := RX10) (T := TX10) (N := 14) hx hb hg inG10 hown hK.1 hP 0 rfl rfl 1 (Nat.le_of_ble_eq_true rfl) (hg _ wt_303) (fun _ h9 => h9) rfl dX10_steps_1 ?_
  refine lv_iload_n hx hb dX10_steps_4 rfl (lv_at hl 1 rfl) ?_
  have hPc := hP.sub (ws' := [(wy, .inr (9, [.int (nI N), .int (nI B), .int (nI D), .ref a1, .ref a2, .ref a3, .ref a4, .ref a5, .ref a6]))]) [8] rfl
  refine va_calli (va_runVN (As := [.int b]) (rest := []) ⟨hx, hb, hml, hown, hg⟩ (c_X9_hasBearer l dC dI G _ wy a1 a2 a3 a4 a5 a6 N B D b hN_N hB_B hD_D) (kwVN hg hK mfX9_hasBearer wn_535 ⟨Nat.le_of_ble_eq_true rfl, Nat.le_of_ble_eq_true rfl⟩) (preVR hK hPc (ci := 9) (r := (RX9, TX9, 9)) rfl rfl) rfl rfl hl.1 rfl (lv_room (Nat.le_of_ble_eq_true rfl)) dX10_steps_5 ⟨Nat.le_of_ble_eq_true rfl, Nat.le_of_ble_eq_true rfl⟩) hS (fun q h1 h2 => absurd h2 (Nat.not_le.mpr h1)) (fun q h => hA q (Nat.le_trans hS.1 h)) (fun r1 ur1 t H1 locs ht hvm w2 hB hz1 hk1 hS => ?_)
  have hP := keepR hP hk1
  obtain ⟨w2, w2x⟩ := w2
  try simp only [l_ii, show (0 : Int32).toInt = 0 from by decide] at w2
  try rw [show (nI (B)).toInt = ((B : Nat) : Int) from tn298_ ()] at w2
  subst w2
  have cut18_3 : ∀ (H : Heap) (locs : List Loc), va_P (dC, dI) vwCl [(h0, .inr (10, [.ref rd, .ref wy, .ref tr, .ref im, .ref kp, .ref od, .ref ch, .ref cr, .ref le, .ref mk, .ref tl, .ref sh, .int tf, .int rf])), (tr, .inr (9, [.int (nI X), .int (nI Y), .int (nI Z), .ref tc1, .ref tc2, .ref tc3, .ref tc4, .ref tc5, .ref tc6])), (tc1, .inl (G 0, 10, .inl z1)), (tc2, .inl (G 0, 10, .inl z2)), (tc3, .inl (G 0, 10, .inl z3)), (tc4, .inl (G 0, 6, .inl z4)), (tc5, .inl (G 0, 6, .inl z5)), (tc6, .inl (G 0, 6, .inl z6)), (wy, .inr (9, [.int (nI N), .int (nI B), .int (nI D), .ref a1, .ref a2, .ref a3, .ref a4, .ref a5, .ref a6])), (a1, .inl (G 0, 10, .inl f1)), (a2, .inl (G 0, 10, .inl f2)), (a3, .inl (G 0, 10, .inl f3)), (a4, .inl (G 0, 6, .inl f4)), (a5, .inl (G 0, 6, .inl f5)), (a6, .inl (G 0, 6, .inl f6)), (le, .inr (2, [.int (nI S), .ref l1, .ref l2, .ref l3, .ref l4])), (l1, .inl (G 0, 8, .inl zz1)), (l2, .inl (G 0, 8, .inl zz2)), (l3, .inl (G 0, 8, .inl zz3)), (l4, .inl (G 0, 8, .inl zz4))] H → va_D A [(h0, .inr (10, [.ref rd, .ref wy, .ref tr, .ref im, .ref kp, .ref od, .ref ch, .ref cr, .ref le, .ref mk, .ref tl, .ref sh, .int tf, .int rf])), (tr, .inr (9, [.int (nI X), .int (nI Y), .int (nI Z), .ref tc1, .ref tc2, .ref tc3, .ref tc4, .ref tc5, .ref tc6])), (tc1, .inl (G 0, 10, .inl z1)), (tc2, .inl (G 0, 10, .inl z2)), (tc3, .inl (G 0, 10, .inl z3)), (tc4, .inl (G 0, 6, .inl z4)), (tc5, .inl (G 0, 6, .inl z5)), (tc6, .inl (G 0, 6, .inl z6)), (wy, .inr (9, [.int (nI N), .int (nI B), .int (nI D), .ref a1, .ref a2, .ref a3, .ref a4, .ref a5, .ref a6])), (a1, .inl (G 0, 10, .inl f1)), (a2, .inl (G 0, 10, .inl f2)), (a3, .inl (G 0, 10, .inl f3)), (a4, .inl (G 0, 6, .inl f4)), (a5, .inl (G 0, 6, .inl f5)), (a6, .inl (G 0, 6, .inl f6)), (le, .inr (2, [.int (nI S), .ref l1, .ref l2, .ref l3, .ref l4])), (l1, .inl (G 0, 8, .inl zz1)), (l2, .inl (G 0, 8, .inl zz2)), (l3, .inl (G 0, 8, .inl zz3)), (l4, .inl (G 0, 8, .inl zz4))] → va_S A s.heap H locs → ∀ (ls : Array Slot), lv_has ls 7 [(0, .ref h0), (1, .int b), (2, .int what)] → W p l e (headSpec (Cond.code yX10_steps cX10_steps 7 (some .int) :: GT) ({ frames := 4, cells := 0, slots := 0, locals := 121 } : Room)).room s m ([.ref h0, .int b, .int what] : List Value).toArray below meth c H locs 0 0 (MQ below (va_Qi (fun (r : Int32) (u : Nat × Nat × Nat × (Nat → Int32) × (Nat → Int32) × (Nat → Int32) × (Nat → Int32) × (Nat → Int32) × (Nat → Int32)) => match u with | (u0, u1, u2, u3, u4, u5, u6, u7, u8) => (True) ∧ u0 ≤ 10 ∧ u1 ≤ 6 ∧ (1 ≤ u2 ∧ u2 ≤ 9)) (fun (u : Nat × Nat × Nat × (Nat → Int32) × (Nat → Int32) × (Nat → Int32) × (Nat → Int32) × (Nat → Int32) × (Nat → Int32)) (t : State) => match u with | (u0, u1, u2, u3, u4, u5, u6, u7, u8) => va_P (dC, dI) vwCl [(h0, .inr (10, [.ref rd, .ref wy, .ref tr, .ref im, .ref kp, .ref od, .ref ch, .ref cr, .ref le, .ref mk, .ref tl, .ref sh, .int tf, .int rf])), (tr, .inr (9, [.int (nI u0), .int (nI u1), .int (nI u2), .ref tc1, .ref tc2, .ref tc3, .ref tc4, .ref tc5, .ref tc6])), (tc1, .inl (G 0, 10, .inl u3)), (tc2, .inl (G 0, 10, .inl u4)), (tc3, .inl (G 0, 10, .inl u5)), (tc4, .inl (G 0, 6, .inl u6)), (tc5, .inl (G 0, 6, .inl u7)), (tc6, .inl (G 0, 6, .inl u8)), (wy, .inr (9, [.int (nI N), .int (nI B), .int (nI D), .ref a1, .ref a2, .ref a3, .ref a4, .ref a5, .ref a6])), (a1, .inl (G 0, 10, .inl f1)), (a2, .inl (G 0, 10, .inl f2)), (a3, .inl (G 0, 10, .inl f3)), (a4, .inl (G 0, 6, .inl f4)), (a5, .inl (G 0, 6, .inl f5)), (a6, .inl (G 0, 6, .inl f6)), (le, .inr (2, [.int (nI S), .ref l1, .ref l2, .ref l3, .ref l4])), (l1, .inl (G 0, 8, .inl zz1)), (l2, .inl (G 0, 8, .inl zz2)), (l3, .inl (G 0, 8, .inl zz3)), (l4, .inl (G 0, 8, .inl zz4))] t.heap ∧ va_D A [(h0, .inr (10, [.ref rd, .ref wy, .ref tr, .ref im, .ref kp, .ref od, .ref ch, .ref cr, .ref le, .ref mk, .ref tl, .ref sh, .int tf, .int rf])), (tr, .inr (9, [.int (nI u0), .int (nI u1), .int (nI u2), .ref tc1, .ref tc2, .ref tc3, .ref tc4, .ref tc5, .ref tc6])), (tc1, .inl (G 0, 10, .inl u3)), (tc2, .inl (G 0, 10, .inl u4)), (tc3, .inl (G 0, 10, .inl u5)), (tc4, .inl (G 0, 6, .inl u6)), (tc5, .inl (G 0, 6, .inl u7)), (tc6, .inl (G 0, 6, .inl u8)), (wy, .inr (9, [.int (nI N), .int (nI B), .int (nI D), .ref a1, .ref a2, .ref a3, .ref a4, .ref a5, .ref a6])), (a1, .inl (G 0, 10, .inl f1)), (a2, .inl (G 0, 10, .inl f2)), (a3, .inl (G 0, 10, .inl f3)), (a4, .inl (G 0, 6, .inl f4)), (a5, .inl (G 0, 6, .inl f5)), (a6, .inl (G 0, 6, .inl f6)), (le, .inr (2, [.int (nI S), .ref l1, .ref l2, .ref l3, .ref l4])), (l1, .inl (G 0, 8, .inl zz1)), (l2, .inl (G 0, 8, .inl zz2)), (l3, .inl (G 0, 8, .inl zz3)), (l4, .inl (G 0, 8, .inl zz4))]) A) ([.ref h0, .int b, .int what] : List Value).toArray s 0 0 A) (F0 m 18 ls []) := by
    intro  H locs hP hD hS ls hl
    refine lv_iconst (v := (-1)) hx hb dX10_steps_18 rfl ?_
    have hpost : True := by
      trivial
    obtain ⟨hP9, hD9⟩ := va_sub2 (ws' := [(h0, .inr (10, [.ref rd, .ref wy, .ref tr, .ref im, .ref kp, .ref od, .ref ch, .ref cr, .ref le, .ref mk, .ref tl, .ref sh, .int tf, .int rf])), (tr, .inr (9, [.int (nI X), .int (nI Y), .int (nI Z), .ref tc1, .ref tc2, .ref tc3, .ref tc4, .ref tc5, .ref tc6])), (tc1, .inl (G 0, 10, .inl z1)), (tc2, .inl (G 0, 10, .inl z2)), (tc3, .inl (G 0, 10, .inl z3)), (tc4, .inl (G 0, 6, .inl z4)), (tc5, .inl (G 0, 6, .inl z5)), (tc6, .inl (G 0, 6, .inl z6)), (wy, .inr (9, [.int (nI N), .int (nI B), .int (nI D), .ref a1, .ref a2, .ref a3, .ref a4, .ref a5, .ref a6])), (a1, .inl (G 0, 10, .inl f1)), (a2, .inl (G 0, 10, .inl f2)), (a3, .inl (G 0, 10, .inl f3)), (a4, .inl (G 0, 6, .inl f4)), (a5, .inl (G 0, 6, .inl f5)), (a6, .inl (G 0, 6, .inl f6)), (le, .inr (2, [.int (nI S), .ref l1, .ref l2, .ref l3, .ref l4])), (l1, .inl (G 0, 8, .inl zz1)), (l2, .inl (G 0, 8, .inl zz2)), (l3, .inl (G 0, 8, .inl zz3)), (l4, .inl (G 0, 8, .inl zz4))]) hP hD [0, 1, 2, 3, 4, 5, 6, 7, 8, 9, 10, 11, 12, 13, 14, 15, 16, 17, 18, 19] (by decide +kernel) rfl
    refine W.widen (k := 0) (n := 0) (Nat.le_of_ble_eq_true rfl) (Nat.le_of_ble_eq_true rfl) ?_
    exact W.iret (v := (-1)) hx hb hr (fun t ht hW => ⟨⟨(-1), (X, Y, Z, z1, z2, z3, z4, z5, z6), rfl, ⟨hpost, (by have tnb_ := nib7 tn301_ tn302_ tn303_ tn297_ tn298_ tn299_ tn300_; omega)⟩, ⟨by rw [ht]; exact hP9, hD9⟩⟩, hS.F ht⟩) hS.2.2 dX10_steps_19
  refine lv_if_eq (tgt := 18) hx hb dX10_steps_8 rfl (fun c4 => ?_) (fun c4 => ?_)
  · skip
    have b5 := if10_n c4
    exact cut18_3  _ _ hP hD hS ls (lv_sub hl [0, 1, 2] rfl)
  · skip
    have b6 := if10_p c4
    refine lv_iload_n hx hb dX10_steps_11 rfl (lv_at hl 2 rfl) ?_
    have hPc := hP.sub (ws' := []) [] rfl
    refine va_calli (va_runS (As := [.int what]) (rest := []) ⟨hx, hb, hml, hown, hg⟩ (c_X10_isAnswerPart l dC dI G _ what) (kwS hg mfX10_isAnswerPart wt_694 ⟨Nat.le_of_ble_eq_true rfl, Nat.le_of_ble_eq_true rfl⟩) (preSR hK hPc) rfl rfl hl.1 rfl (lv_room (Nat.le_of_ble_eq_true rfl)) dX10_steps_12 ⟨Nat.le_of_ble_eq_true rfl, Nat.le_of_ble_eq_true rfl⟩) hS (fun q h1 h2 => absurd h2 (Nat.not_le.mpr h1)) (fun q h => hA q (Nat.le_trans hS.1 h)) (fun r7 ur7 t H1 locs ht hvm w8 hB hz1 hk1 hS => ?_)
    have hP := keepR hP hk1
    obtain ⟨w8, w8x⟩ := w8
    try simp only [l_ii, show (0 : Int32).toInt = 0 from by decide, show (2 : Int32).toInt = 2 from by decide] at w8
    subst w8
    refine lv_if_ne (tgt := 20) hx hb dX10_steps_15 rfl (fun c9 => ?_) (fun c9 => ?_)
    · skip
      have b10 := if10_p c9
      obtain ⟨bb, hbb, rfl⟩ : ∃ j : Nat, j < 6 ∧ b = nI j := by
        have t_b6 := b6
        have t_b10 := b10
        have t_n0 : (nI X).toInt = (X : Int) := tn301_ ()
        have t_n1 : (nI Y).toInt = (Y : Int) := tn302_ ()
        have t_n2 : (nI Z).toInt = (Z : Int) := tn303_ ()
        have t_n3 : (nI N).toInt = (N : Int) := tn297_ ()
        have t_n4 : (nI B).toInt = (B : Int) := tn298_ ()
        have t_n5 : (nI D).toInt = (D : Int) := tn299_ ()
        have t_n6 : (nI S).toInt = (S : Int) := tn300_ ()
        exact i32_nat (by omega) (by omega)
      refine lv_aload_n hx hb dX10_steps_20 rfl (lv_at hl 0 rfl) ?_
      refine va_get (D := (dC, dI)) (ci := 10) (v := .ref tr) (C := RX10) (T := TX10) (N := 14) hx hb hg inG10 hown hK.1 hP 0 rfl rfl 2 (Nat.le_of_ble_eq_true rfl) (hg _ wt_304) (fun _ h9 => h9) rfl dX10_steps_21 ?_
      refine lv_aload_n hx hb dX10_steps_24 rfl (lv_at hl 0 rfl) ?_
      refine va_get (D := (dC, dI)) (ci := 10) (v := .ref wy) (C := RX10) (T := TX10) (N := 14) hx hb hg inG10 hown hK.1 hP 0 rfl rfl 1 (Nat.le_of_ble_eq_true rfl) (hg _ wt_303) (fun _ h9 => h9) rfl dX10_steps_25 ?_
      obtain ⟨hPc, hDc, hFc⟩ := va_sub3 (ws' := [(tr, .inr (9, [.int (nI X), .int (nI Y), .int (nI Z), .ref tc1, .ref tc2, .ref tc3, .ref tc4, .ref tc5, .ref tc6])), (tc1, .inl (G 0, 10, .inl z1)), (tc2, .inl (G 0, 10, .inl z2)), (tc3, .inl (G 0, 10, .inl z3)), (tc4, .inl (G 0, 6, .inl z4)), (tc5, .inl (G 0, 6, .inl z5)), (tc6, .inl (G 0, 6, .inl z6)), (wy, .inr (9, [.int (nI N), .int (nI B), .int (nI D), .ref a1, .ref a2, .ref a3, .ref a4, .ref a5, .ref a6])), (a1, .inl (G 0, 10, .inl f1)), (a2, .inl (G 0, 10, .inl f2)), (a3, .inl (G 0, 10, .inl f3)), (a4, .inl (G 0, 6, .inl f4)), (a5, .inl (G 0, 6, .inl f5)), (a6, .inl (G 0, 6, .inl f6))]) hP hD hS hA [1, 2, 3, 4, 5, 6, 7, 8, 9, 10, 11, 12, 13, 14] (by decide +kernel) rfl
      refine va_callv (va_runVN (As := [.ref wy]) (rest := []) ⟨hx, hb, hml, hown, hg⟩ (c_X9_copyOf l dC dI G _ tr wy tc1 tc2 tc3 tc4 tc5 tc6 a1 a2 a3 a4 a5 a6 (nI X) (nI Y) (nI Z) (nI N) (nI B) (nI D) z1 z2 z3 z4 z5 z6 f1 f2 f3 f4 f5 f6) (kwVN hg hK mfX9_copyOf wn_507 ⟨Nat.le_of_ble_eq_true rfl, Nat.le_of_ble_eq_true rfl⟩) (preVW hK hPc hDc (ci := 9) (r := (RX9, TX9, 9)) rfl rfl) rfl rfl hl.1 rfl (lv_room (Nat.le_of_ble_eq_true rfl)) dX10_steps_28 ⟨Nat.le_of_ble_eq_true rfl, Nat.le_of_ble_eq_true rfl⟩) hS (fun q _ h => hFc q h) hFc (fun ur11 t H1 locs ht hvm w12 hB hz1 hk1 hS => ?_)
      obtain ⟨u13, u14, u15, u16, u17, u18⟩ := ur11
      obtain ⟨hP1, hD1⟩ := hB
      rw [ht] at hP1
      obtain ⟨hP, hD⟩ := va_join (wr := [(h0, .inr (10, [.ref rd, .ref wy, .ref tr, .ref im, .ref kp, .ref od, .ref ch, .ref cr, .ref le, .ref mk, .ref tl, .ref sh, .int tf, .int rf])), (le, .inr (2, [.int (nI S), .ref l1, .ref l2, .ref l3, .ref l4])), (l1, .inl (G 0, 8, .inl zz1)), (l2, .inl (G 0, 8, .inl zz2)), (l3, .inl (G 0, 8, .inl zz3)), (l4, .inl (G 0, 8, .inl zz4))]) (w1 := [(tr, .inr (9, [.int (nI N), .int (nI B), .int (nI D), .ref tc1, .ref tc2, .ref tc3, .ref tc4, .ref tc5, .ref tc6])), (tc1, .inl (G 0, 10, .inl u13)), (tc2, .inl (G 0, 10, .inl u14)), (tc3, .inl (G 0, 10, .inl u15)), (tc4, .inl (G 0, 6, .inl u16)), (tc5, .inl (G 0, 6, .inl u17)), (tc6, .inl (G 0, 6, .inl u18)), (wy, .inr (9, [.int (nI N), .int (nI B), .int (nI D), .ref a1, .ref a2, .ref a3, .ref a4, .ref a5, .ref a6])), (a1, .inl (G 0, 10, .inl f1)), (a2, .inl (G 0, 10, .inl f2)), (a3, .inl (G 0, 10, .inl f3)), (a4, .inl (G 0, 6, .inl f4)), (a5, .inl (G 0, 6, .inl f5)), (a6, .inl (G 0, 6, .inl f6))]) hP hD [1, 2, 3, 4, 5, 6, 7, 8, 9, 10, 11, 12, 13, 14] [0, 15, 16, 17, 18, 19] rfl rfl (by decide +kernel) (by decide +kernel) hk1 hFc hP1 hD1
      generalize H1 = H at hP hS ⊢
      refine lv_iconst (v := 0) hx hb dX10_steps_31 rfl ?_
      refine lv_istore_n (lv' := [(3, .int 0), (0, .ref h0), (1, .int (nI bb)), (2, .int what)]) hx hb dX10_steps_32 rfl hl (by decide) rfl (fun ls hl => ?_)
      refine lv_bipush (v := (-4)) hx hb dX10_steps_33 rfl ?_
      refine lv_istore (lv' := [(4, .int (-4)), (3, .int 0), (0, .ref h0), (1, .int (nI bb)), (2, .int what)]) hx hb dX10_steps_35 hl (by decide) rfl (fun ls hl => ?_)
      refine lv_bipush (v := (-4)) hx hb dX10_steps_37 rfl ?_
      refine lv_istore (lv' := [(5, .int (-4)), (4, .int (-4)), (3, .int 0), (0, .ref h0), (1, .int (nI bb)), (2, .int what)]) hx hb dX10_steps_39 hl (by decide) rfl (fun ls hl => ?_)
      refine lv_iconst (v := 0) hx hb dX10_steps_41 rfl ?_
      refine lv_istore (lv' := [(6, .int 0), (5, .int (-4)), (4, .int (-4)), (3, .int 0), (0, .ref h0), (1, .int (nI bb)), (2, .int what)]) hx hb dX10_steps_42 hl (by decide) rfl (fun ls hl => ?_)
      have loop44_24 : ∀ (nf j19 : Nat), 10 + 1 ≤ j19 + nf → j19 ≤ 10 → ∀ (y20 : Int32) (y21 : Int32) (y22 : Int32) (g23 : Nat → Int32) (H : Heap) (locs : List Loc), va_P (dC, dI) vwCl [(h0, .inr (10, [.ref rd, .ref wy, .ref tr, .ref im, .ref kp, .ref od, .ref ch, .ref cr, .ref le, .ref mk, .ref tl, .ref sh, .int tf, .int rf])), (le, .inr (2, [.int (nI S), .ref l1, .ref l2, .ref l3, .ref l4])), (l1, .inl (G 0, 8, .inl zz1)), (l2, .inl (G 0, 8, .inl zz2)), (l3, .inl (G 0, 8, .inl zz3)), (l4, .inl (G 0, 8, .inl zz4)), (tr, .inr (9, [.int (nI N), .int (nI B), .int (nI D), .ref tc1, .ref tc2, .ref tc3, .ref tc4, .ref tc5, .ref tc6])), (tc1, .inl (G 0, 10, .inl u13)), (tc2, .inl (G 0, 10, .inl u14)), (tc3, .inl (G 0, 10, .inl u15)), (tc4, .inl (G 0, 6, .inl u16)), (tc5, .inl (G 0, 6, .inl g23)), (tc6, .inl (G 0, 6, .inl u18)), (wy, .inr (9, [.int (nI N), .int (nI B), .int (nI D), .ref a1, .ref a2, .ref a3, .ref a4, .ref a5, .ref a6])), (a1, .inl (G 0, 10, .inl f1)), (a2, .inl (G 0, 10, .inl f2)), (a3, .inl (G 0, 10, .inl f3)), (a4, .inl (G 0, 6, .inl f4)), (a5, .inl (G 0, 6, .inl f5)), (a6, .inl (G 0, 6, .inl f6))] H → va_D A [(h0, .inr (10, [.ref rd, .ref wy, .ref tr, .ref im, .ref kp, .ref od, .ref ch, .ref cr, .ref le, .ref mk, .ref tl, .ref sh, .int tf, .int rf])), (le, .inr (2, [.int (nI S), .ref l1, .ref l2, .ref l3, .ref l4])), (l1, .inl (G 0, 8, .inl zz1)), (l2, .inl (G 0, 8, .inl zz2)), (l3, .inl (G 0, 8, .inl zz3)), (l4, .inl (G 0, 8, .inl zz4)), (tr, .inr (9, [.int (nI N), .int (nI B), .int (nI D), .ref tc1, .ref tc2, .ref tc3, .ref tc4, .ref tc5, .ref tc6])), (tc1, .inl (G 0, 10, .inl u13)), (tc2, .inl (G 0, 10, .inl u14)), (tc3, .inl (G 0, 10, .inl u15)), (tc4, .inl (G 0, 6, .inl u16)), (tc5, .inl (G 0, 6, .inl g23)), (tc6, .inl (G 0, 6, .inl u18)), (wy, .inr (9, [.int (nI N), .int (nI B), .int (nI D), .ref a1, .ref a2, .ref a3, .ref a4, .ref a5, .ref a6])), (a1, .inl (G 0, 10, .inl f1)), (a2, .inl (G 0, 10, .inl f2)), (a3, .inl (G 0, 10, .inl f3)), (a4, .inl (G 0, 6, .inl f4)), (a5, .inl (G 0, 6, .inl f5)), (a6, .inl (G 0, 6, .inl f6))] → va_S A s.heap H locs → ∀ (ls : Array Slot), lv_has ls 7 [(6, .int (nI j19)), (5, .int y20), (4, .int y21), (3, .int y22), (0, .ref h0), (1, .int (nI bb)), (2, .int what)] → W p l e (headSpec (Cond.code yX10_steps cX10_steps 7 (some .int) :: GT) ({ frames := 4, cells := 0, slots := 0, locals := 121 } : Room)).room s m ([.ref h0, .int (nI bb), .int what] : List Value).toArray below meth c H locs 0 0 (MQ below (va_Qi (fun (r : Int32) (u : Nat × Nat × Nat × (Nat → Int32) × (Nat → Int32) × (Nat → Int32) × (Nat → Int32) × (Nat → Int32) × (Nat → Int32)) => match u with | (u0, u1, u2, u3, u4, u5, u6, u7, u8) => (True) ∧ u0 ≤ 10 ∧ u1 ≤ 6 ∧ (1 ≤ u2 ∧ u2 ≤ 9)) (fun (u : Nat × Nat × Nat × (Nat → Int32) × (Nat → Int32) × (Nat → Int32) × (Nat → Int32) × (Nat → Int32) × (Nat → Int32)) (t : State) => match u with | (u0, u1, u2, u3, u4, u5, u6, u7, u8) => va_P (dC, dI) vwCl [(h0, .inr (10, [.ref rd, .ref wy, .ref tr, .ref im, .ref kp, .ref od, .ref ch, .ref cr, .ref le, .ref mk, .ref tl, .ref sh, .int tf, .int rf])), (tr, .inr (9, [.int (nI u0), .int (nI u1), .int (nI u2), .ref tc1, .ref tc2, .ref tc3, .ref tc4, .ref tc5, .ref tc6])), (tc1, .inl (G 0, 10, .inl u3)), (tc2, .inl (G 0, 10, .inl u4)), (tc3, .inl (G 0, 10, .inl u5)), (tc4, .inl (G 0, 6, .inl u6)), (tc5, .inl (G 0, 6, .inl u7)), (tc6, .inl (G 0, 6, .inl u8)), (wy, .inr (9, [.int (nI N), .int (nI B), .int (nI D), .ref a1, .ref a2, .ref a3, .ref a4, .ref a5, .ref a6])), (a1, .inl (G 0, 10, .inl f1)), (a2, .inl (G 0, 10, .inl f2)), (a3, .inl (G 0, 10, .inl f3)), (a4, .inl (G 0, 6, .inl f4)), (a5, .inl (G 0, 6, .inl f5)), (a6, .inl (G 0, 6, .inl f6)), (le, .inr (2, [.int (nI S), .ref l1, .ref l2, .ref l3, .ref l4])), (l1, .inl (G 0, 8, .inl zz1)), (l2, .inl (G 0, 8, .inl zz2)), (l3, .inl (G 0, 8, .inl zz3)), (l4, .inl (G 0, 8, .inl zz4))] t.heap ∧ va_D A [(h0, .inr (10, [.ref rd, .ref wy, .ref tr, .ref im, .ref kp, .ref od, .ref ch, .ref cr, .ref le, .ref mk, .ref tl, .ref sh, .int tf, .int rf])), (tr, .inr (9, [.int (nI u0), .int (nI u1), .int (nI u2), .ref tc1, .ref tc2, .ref tc3, .ref tc4, .ref tc5, .ref tc6])), (tc1, .inl (G 0, 10, .inl u3)), (tc2, .inl (G 0, 10, .inl u4)), (tc3, .inl (G 0, 10, .inl u5)), (tc4, .inl (G 0, 6, .inl u6)), (tc5, .inl (G 0, 6, .inl u7)), (tc6, .inl (G 0, 6, .inl u8)), (wy, .inr (9, [.int (nI N), .int (nI B), .int (nI D), .ref a1, .ref a2, .ref a3, .ref a4, .ref a5, .ref a6])), (a1, .inl (G 0, 10, .inl f1)), (a2, .inl (G 0, 10, .inl f2)), (a3, .inl (G 0, 10, .inl f3)), (a4, .inl (G 0, 6, .inl f4)), (a5, .inl (G 0, 6, .inl f5)), (a6, .inl (G 0, 6, .inl f6)), (le, .inr (2, [.int (nI S), .ref l1, .ref l2, .ref l3, .ref l4])), (l1, .inl (G 0, 8, .inl zz1)), (l2, .inl (G 0, 8, .inl zz2)), (l3, .inl (G 0, 8, .inl zz3)), (l4, .inl (G 0, 8, .inl zz4))]) A) ([.ref h0, .int (nI bb), .int what] : List Value).toArray s 0 0 A) (F0 m 44 ls []) := by
        intro nf
        induction nf with
        | zero => intro j19 h1 h2; exact absurd h1 (by omega)
        | succ nf ih44_24 =>
          intro j19 hn25 hj26 y20 y21 y22 g23 H locs hP hD hS ls hl
          refine lv_iload hx hb dX10_steps_44 (lv_at hl 0 rfl) ?_
          refine lv_bipush (v := 9) hx hb dX10_steps_46 rfl ?_
          refine lv_icmp_gt (tgt := 105) hx hb dX10_steps_48 rfl (fun c27 => ?_) (fun c27 => ?_)
          · skip
            have tn304_ : nIT j19 := fun _ => nI_toInt (by first | omega | (have t := ltI c27; omega))
            have n28 : 9 < j19 := by have t := ltI c27; rw [show (nI (j19)).toInt = ((j19 : Nat) : Int) from tn304_ ()] at t; have : (9 : Int32).toInt = 9 := qI_9; omega
            refine lv_iload_n hx hb dX10_steps_105 rfl (lv_at hl 6 rfl) ?_
            refine lv_if_ne (tgt := 111) hx hb dX10_steps_106 rfl (fun c29 => ?_) (fun c29 => ?_)
            · skip
              refine lv_iload_n hx hb dX10_steps_111 rfl (lv_at hl 6 rfl) ?_
              refine lv_iconst (v := 1) hx hb dX10_steps_112 rfl ?_
              have cut123_31 : ∀ (y30 : Int32) (H : Heap) (locs : List Loc), va_P (dC, dI) vwCl [(h0, .inr (10, [.ref rd, .ref wy, .ref tr, .ref im, .ref kp, .ref od, .ref ch, .ref cr, .ref le, .ref mk, .ref tl, .ref sh, .int tf, .int rf])), (le, .inr (2, [.int (nI S), .ref l1, .ref l2, .ref l3, .ref l4])), (l1, .inl (G 0, 8, .inl zz1)), (l2, .inl (G 0, 8, .inl zz2)), (l3, .inl (G 0, 8, .inl zz3)), (l4, .inl (G 0, 8, .inl zz4)), (tr, .inr (9, [.int (nI N), .int (nI B), .int (nI D), .ref tc1, .ref tc2, .ref tc3, .ref tc4, .ref tc5, .ref tc6])), (tc1, .inl (G 0, 10, .inl u13)), (tc2, .inl (G 0, 10, .inl u14)), (tc3, .inl (G 0, 10, .inl u15)), (tc4, .inl (G 0, 6, .inl u16)), (tc5, .inl (G 0, 6, .inl g23)), (tc6, .inl (G 0, 6, .inl u18)), (wy, .inr (9, [.int (nI N), .int (nI B), .int (nI D), .ref a1, .ref a2, .ref a3, .ref a4, .ref a5, .ref a6])), (a1, .inl (G 0, 10, .inl f1)), (a2, .inl (G 0, 10, .inl f2)), (a3, .inl (G 0, 10, .inl f3)), (a4, .inl (G 0, 6, .inl f4)), (a5, .inl (G 0, 6, .inl f5)), (a6, .inl (G 0, 6, .inl f6))] H → va_D A [(h0, .inr (10, [.ref rd, .ref wy, .ref tr, .ref im, .ref kp, .ref od, .ref ch, .ref cr, .ref le, .ref mk, .ref tl, .ref sh, .int tf, .int rf])), (le, .inr (2, [.int (nI S), .ref l1, .ref l2, .ref l3, .ref l4])), (l1, .inl (G 0, 8, .inl zz1)), (l2, .inl (G 0, 8, .inl zz2)), (l3, .inl (G 0, 8, .inl zz3)), (l4, .inl (G 0, 8, .inl zz4)), (tr, .inr (9, [.int (nI N), .int (nI B), .int (nI D), .ref tc1, .ref tc2, .ref tc3, .ref tc4, .ref tc5, .ref tc6])), (tc1, .inl (G 0, 10, .inl u13)), (tc2, .inl (G 0, 10, .inl u14)), (tc3, .inl (G 0, 10, .inl u15)), (tc4, .inl (G 0, 6, .inl u16)), (tc5, .inl (G 0, 6, .inl g23)), (tc6, .inl (G 0, 6, .inl u18)), (wy, .inr (9, [.int (nI N), .int (nI B), .int (nI D), .ref a1, .ref a2, .ref a3, .ref a4, .ref a5, .ref a6])), (a1, .inl (G 0, 10, .inl f1)), (a2, .inl (G 0, 10, .inl f2)), (a3, .inl (G 0, 10, .inl f3)), (a4, .inl (G 0, 6, .inl f4)), (a5, .inl (G 0, 6, .inl f5)), (a6, .inl (G 0, 6, .inl f6))] → va_S A s.heap H locs → ∀ (ls : Array Slot), lv_has ls 7 [(6, .int (nI j19)), (5, .int y20), (4, .int y21), (3, .int y22), (0, .ref h0), (1, .int (nI bb)), (2, .int what)] → W p l e (headSpec (Cond.code yX10_steps cX10_steps 7 (some .int) :: GT) ({ frames := 4, cells := 0, slots := 0, locals := 121 } : Room)).room s m ([.ref h0, .int (nI bb), .int what] : List Value).toArray below meth c H locs 0 0 (MQ below (va_Qi (fun (r : Int32) (u : Nat × Nat × Nat × (Nat → Int32) × (Nat → Int32) × (Nat → Int32) × (Nat → Int32) × (Nat → Int32) × (Nat → Int32)) => match u with | (u0, u1, u2, u3, u4, u5, u6, u7, u8) => (True) ∧ u0 ≤ 10 ∧ u1 ≤ 6 ∧ (1 ≤ u2 ∧ u2 ≤ 9)) (fun (u : Nat × Nat × Nat × (Nat → Int32) × (Nat → Int32) × (Nat → Int32) × (Nat → Int32) × (Nat → Int32) × (Nat → Int32)) (t : State) => match u with | (u0, u1, u2, u3, u4, u5, u6, u7, u8) => va_P (dC, dI) vwCl [(h0, .inr (10, [.ref rd, .ref wy, .ref tr, .ref im, .ref kp, .ref od, .ref ch, .ref cr, .ref le, .ref mk, .ref tl, .ref sh, .int tf, .int rf])), (tr, .inr (9, [.int (nI u0), .int (nI u1), .int (nI u2), .ref tc1, .ref tc2, .ref tc3, .ref tc4, .ref tc5, .ref tc6])), (tc1, .inl (G 0, 10, .inl u3)), (tc2, .inl (G 0, 10, .inl u4)), (tc3, .inl (G 0, 10, .inl u5)), (tc4, .inl (G 0, 6, .inl u6)), (tc5, .inl (G 0, 6, .inl u7)), (tc6, .inl (G 0, 6, .inl u8)), (wy, .inr (9, [.int (nI N), .int (nI B), .int (nI D), .ref a1, .ref a2, .ref a3, .ref a4, .ref a5, .ref a6])), (a1, .inl (G 0, 10, .inl f1)), (a2, .inl (G 0, 10, .inl f2)), (a3, .inl (G 0, 10, .inl f3)), (a4, .inl (G 0, 6, .inl f4)), (a5, .inl (G 0, 6, .inl f5)), (a6, .inl (G 0, 6, .inl f6)), (le, .inr (2, [.int (nI S), .ref l1, .ref l2, .ref l3, .ref l4])), (l1, .inl (G 0, 8, .inl zz1)), (l2, .inl (G 0, 8, .inl zz2)), (l3, .inl (G 0, 8, .inl zz3)), (l4, .inl (G 0, 8, .inl zz4))] t.heap ∧ va_D A [(h0, .inr (10, [.ref rd, .ref wy, .ref tr, .ref im, .ref kp, .ref od, .ref ch, .ref cr, .ref le, .ref mk, .ref tl, .ref sh, .int tf, .int rf])), (tr, .inr (9, [.int (nI u0), .int (nI u1), .int (nI u2), .ref tc1, .ref tc2, .ref tc3, .ref tc4, .ref tc5, .ref tc6])), (tc1, .inl (G 0, 10, .inl u3)), (tc2, .inl (G 0, 10, .inl u4)), (tc3, .inl (G 0, 10, .inl u5)), (tc4, .inl (G 0, 6, .inl u6)), (tc5, .inl (G 0, 6, .inl u7)), (tc6, .inl (G 0, 6, .inl u8)), (wy, .inr (9, [.int (nI N), .int (nI B), .int (nI D), .ref a1, .ref a2, .ref a3, .ref a4, .ref a5, .ref a6])), (a1, .inl (G 0, 10, .inl f1)), (a2, .inl (G 0, 10, .inl f2)), (a3, .inl (G 0, 10, .inl f3)), (a4, .inl (G 0, 6, .inl f4)), (a5, .inl (G 0, 6, .inl f5)), (a6, .inl (G 0, 6, .inl f6)), (le, .inr (2, [.int (nI S), .ref l1, .ref l2, .ref l3, .ref l4])), (l1, .inl (G 0, 8, .inl zz1)), (l2, .inl (G 0, 8, .inl zz2)), (l3, .inl (G 0, 8, .inl zz3)), (l4, .inl (G 0, 8, .inl zz4))]) A) ([.ref h0, .int (nI bb), .int what] : List Value).toArray s 0 0 A) (F0 m 123 ls [.int y30]) := by
                intro y30 H locs hP hD hS ls hl
                have hpost : True := by
                  trivial
                obtain ⟨hP9, hD9⟩ := va_sub2 (ws' := [(h0, .inr (10, [.ref rd, .ref wy, .ref tr, .ref im, .ref kp, .ref od, .ref ch, .ref cr, .ref le, .ref mk, .ref tl, .ref sh, .int tf, .int rf])), (tr, .inr (9, [.int (nI N), .int (nI B), .int (nI D), .ref tc1, .ref tc2, .ref tc3, .ref tc4, .ref tc5, .ref tc6])), (tc1, .inl (G 0, 10, .inl u13)), (tc2, .inl (G 0, 10, .inl u14)), (tc3, .inl (G 0, 10, .inl u15)), (tc4, .inl (G 0, 6, .inl u16)), (tc5, .inl (G 0, 6, .inl g23)), (tc6, .inl (G 0, 6, .inl u18)), (wy, .inr (9, [.int (nI N), .int (nI B), .int (nI D), .ref a1, .ref a2, .ref a3, .ref a4, .ref a5, .ref a6])), (a1, .inl (G 0, 10, .inl f1)), (a2, .inl (G 0, 10, .inl f2)), (a3, .inl (G 0, 10, .inl f3)), (a4, .inl (G 0, 6, .inl f4)), (a5, .inl (G 0, 6, .inl f5)), (a6, .inl (G 0, 6, .inl f6)), (le, .inr (2, [.int (nI S), .ref l1, .ref l2, .ref l3, .ref l4])), (l1, .inl (G 0, 8, .inl zz1)), (l2, .inl (G 0, 8, .inl zz2)), (l3, .inl (G 0, 8, .inl zz3)), (l4, .inl (G 0, 8, .inl zz4))]) hP hD [0, 6, 7, 8, 9, 10, 11, 12, 13, 14, 15, 16, 17, 18, 19, 1, 2, 3, 4, 5] (by decide +kernel) rfl
                refine W.widen (k := 0) (n := 0) (Nat.le_of_ble_eq_true rfl) (Nat.le_of_ble_eq_true rfl) ?_
                have tn305_ : nIT bb := fun _ => nI_toInt (by first | omega | (have t_b6 := b6; have t_b10 := b10; have t_hbb := hbb; have t_hj26 := hj26; have t_n28 := n28; have t_c29 := neI c29; have : (0 : Int32).toInt = 0 := qI_0; omega))
                exact W.iret (v := y30) hx hb hr (fun t ht hW => ⟨⟨y30, (N, B, D, u13, u14, u15, u16, g23, u18), rfl, ⟨hpost, (by have t_b6 := b6; have t_b10 := b10; have t_hbb := hbb; have t_hj26 := hj26; have t_n28 := n28; have t_c29 := neI c29; have : (0 : Int32).toInt = 0 := qI_0; have tnb_ := nib9 tn301_ tn302_ tn303_ tn297_ tn298_ tn299_ tn300_ tn305_ tn304_; omega)⟩, ⟨by rw [ht]; exact hP9, hD9⟩⟩, hS.F ht⟩) hS.2.2 dX10_steps_123
              refine lv_icmp_ne (tgt := 121) hx hb dX10_steps_113 rfl (fun c32 => ?_) (fun c32 => ?_)
              · skip
                refine lv_iload hx hb dX10_steps_121 (lv_at hl 1 rfl) ?_
                exact cut123_31 y20 _ _ hP hD hS ls (lv_sub hl [0, 1, 2, 3, 4, 5, 6] rfl)
              · skip
                refine lv_iload hx hb dX10_steps_116 (lv_at hl 2 rfl) ?_
                refine lv_goto (tgt := 123) hx hb dX10_steps_118 rfl ?_
                exact cut123_31 y21 _ _ hP hD hS ls (lv_sub hl [0, 1, 2, 3, 4, 5, 6] rfl)
            · skip
              refine lv_iload_n hx hb dX10_steps_109 rfl (lv_at hl 3 rfl) ?_
              have hpost : True := by
                trivial
              obtain ⟨hP9, hD9⟩ := va_sub2 (ws' := [(h0, .inr (10, [.ref rd, .ref wy, .ref tr, .ref im, .ref kp, .ref od, .ref ch, .ref cr, .ref le, .ref mk, .ref tl, .ref sh, .int tf, .int rf])), (tr, .inr (9, [.int (nI N), .int (nI B), .int (nI D), .ref tc1, .ref tc2, .ref tc3, .ref tc4, .ref tc5, .ref tc6])), (tc1, .inl (G 0, 10, .inl u13)), (tc2, .inl (G 0, 10, .inl u14)), (tc3, .inl (G 0, 10, .inl u15)), (tc4, .inl (G 0, 6, .inl u16)), (tc5, .inl (G 0, 6, .inl g23)), (tc6, .inl (G 0, 6, .inl u18)), (wy, .inr (9, [.int (nI N), .int (nI B), .int (nI D), .ref a1, .ref a2, .ref a3, .ref a4, .ref a5, .ref a6])), (a1, .inl (G 0, 10, .inl f1)), (a2, .inl (G 0, 10, .inl f2)), (a3, .inl (G 0, 10, .inl f3)), (a4, .inl (G 0, 6, .inl f4)), (a5, .inl (G 0, 6, .inl f5)), (a6, .inl (G 0, 6, .inl f6)), (le, .inr (2, [.int (nI S), .ref l1, .ref l2, .ref l3, .ref l4])), (l1, .inl (G 0, 8, .inl zz1)), (l2, .inl (G 0, 8, .inl zz2)), (l3, .inl (G 0, 8, .inl zz3)), (l4, .inl (G 0, 8, .inl zz4))]) hP hD [0, 6, 7, 8, 9, 10, 11, 12, 13, 14, 15, 16, 17, 18, 19, 1, 2, 3, 4, 5] (by decide +kernel) rfl
              refine W.widen (k := 0) (n := 0) (Nat.le_of_ble_eq_true rfl) (Nat.le_of_ble_eq_true rfl) ?_
              have tn306_ : nIT bb := fun _ => nI_toInt (by first | omega | (have t_b6 := b6; have t_b10 := b10; have t_hbb := hbb; have t_hj26 := hj26; have t_n28 := n28; have t_c29 := eqI c29; have : (0 : Int32).toInt = 0 := qI_0; omega))
              exact W.iret (v := y22) hx hb hr (fun t ht hW => ⟨⟨y22, (N, B, D, u13, u14, u15, u16, g23, u18), rfl, ⟨hpost, (by have t_b6 := b6; have t_b10 := b10; have t_hbb := hbb; have t_hj26 := hj26; have t_n28 := n28; have t_c29 := eqI c29; have : (0 : Int32).toInt = 0 := qI_0; have tnb_ := nib9 tn301_ tn302_ tn303_ tn297_ tn298_ tn299_ tn300_ tn306_ tn304_; omega)⟩, ⟨by rw [ht]; exact hP9, hD9⟩⟩, hS.F ht⟩) hS.2.2 dX10_steps_110
          · skip
            have tn307_ : nIT j19 := fun _ => nI_toInt (by first | omega | (have t := nltI c27; omega))
            have n33 : j19 ≤ 9 := by have t := nltI c27; rw [show (nI (j19)).toInt = ((j19 : Nat) : Int) from tn307_ ()] at t; have : (9 : Int32).toInt = 9 := qI_9; omega
            refine lv_aload_n hx hb dX10_steps_51 rfl (lv_at hl 4 rfl) ?_
            refine va_get (D := (dC, dI)) (ci := 10) (v := .ref tr) (C := RX10) (T := TX10) (N := 14) hx hb hg inG10 hown hK.1 hP 0 rfl rfl 2 (Nat.le_of_ble_eq_true rfl) (hg _ wt_304) (fun _ h9 => h9) rfl dX10_steps_52 ?_
            refine va_getN (D := (dC, dI)) (ci := 9) (v := .ref tc5) (C := RX9) (T := TX9) (N := 9) hx hb hg inG9 hown hK.1 hP 6 rfl rfl 7 (Nat.le_of_ble_eq_true rfl) (hK.nest wn_83) (fun _ h9 => h9) rfl dX10_steps_55 ?_
            refine lv_iload_n hx hb dX10_steps_58 rfl (lv_at hl 5 rfl) ?_
            refine lv_iload hx hb dX10_steps_59 (lv_at hl 0 rfl) ?_
            have tn308_ : nIT bb := fun _ => nI_toInt (by first | omega | (have t_b6 := b6; have t_b10 := b10; have t_hbb := hbb; have t_hj26 := hj26; have t_n33 := n33; omega))
            refine va_iast hx hb hK.1 hP hD hS 11 0 rfl rfl (vp_in_nI (by first | omega | (have t_b6 := b6; have t_b10 := b10; have t_hbb := hbb; have t_hj26 := hj26; have t_n33 := n33; have tnb_ := nib9 tn301_ tn302_ tn303_ tn297_ tn298_ tn299_ tn300_ tn308_ tn307_; omega)) (by decide)) dX10_steps_61 (fun H locs hP hD hS => ?_)
            rw [nI_clamp (by omega)] at hP hD
            refine lv_aload_n hx hb dX10_steps_62 rfl (lv_at hl 4 rfl) ?_
            refine va_get (D := (dC, dI)) (ci := 10) (v := .ref le) (C := RX10) (T := TX10) (N := 14) hx hb hg inG10 hown hK.1 hP 0 rfl rfl 8 (Nat.le_of_ble_eq_true rfl) (hg _ wt_310) (fun _ h9 => h9) rfl dX10_steps_63 ?_
            refine lv_aload_n hx hb dX10_steps_66 rfl (lv_at hl 4 rfl) ?_
            refine va_get (D := (dC, dI)) (ci := 10) (v := .ref tr) (C := RX10) (T := TX10) (N := 14) hx hb hg inG10 hown hK.1 hP 0 rfl rfl 2 (Nat.le_of_ble_eq_true rfl) (hg _ wt_304) (fun _ h9 => h9) rfl dX10_steps_67 ?_
            have hPc := hP.sub (ws' := [(le, .inr (2, [.int (nI S), .ref l1, .ref l2, .ref l3, .ref l4])), (l1, .inl (G 0, 8, .inl zz1)), (l2, .inl (G 0, 8, .inl zz2)), (l3, .inl (G 0, 8, .inl zz3)), (l4, .inl (G 0, 8, .inl zz4)), (tr, .inr (9, [.int (nI N), .int (nI B), .int (nI D), .ref tc1, .ref tc2, .ref tc3, .ref tc4, .ref tc5, .ref tc6])), (tc1, .inl (G 0, 10, .inl u13)), (tc2, .inl (G 0, 10, .inl u14)), (tc4, .inl (G 0, 6, .inl u16)), (tc5, .inl (G 0, 6, .inl (upd g23 bb (nI j19)))), (tc6, .inl (G 0, 6, .inl u18))]) [1, 2, 3, 4, 5, 6, 7, 8, 10, 11, 12] rfl
            refine va_calli (va_runVN (As := [.ref tr]) (rest := []) ⟨hx, hb, hml, hown, hg⟩ (c_X2_isSo l dC dI G _ le l1 l2 l3 l4 S tr tc1 tc2 tc3 tc4 tc5 tc6 N B D zz1 zz2 zz3 zz4 u13 u14 u16 (upd g23 bb (nI j19)) u18 hS0 hN_N hB_B hD_D) (kwVN hg hK mfX2_isSo wn_746 ⟨Nat.le_of_ble_eq_true rfl, Nat.le_of_ble_eq_true rfl⟩) (preVR hK hPc (ci := 2) (r := (RX2, TX2, 5)) rfl rfl) rfl rfl hl.1 rfl (lv_room (Nat.le_of_ble_eq_true rfl)) dX10_steps_70 ⟨Nat.le_of_ble_eq_true rfl, Nat.le_of_ble_eq_true rfl⟩) hS (fun q h1 h2 => absurd h2 (Nat.not_le.mpr h1)) (fun q h => hA q (Nat.le_trans hS.1 h)) (fun r34 ur34 t H1 locs ht hvm w35 hB hz1 hk1 hS => ?_)
            have hP := keepR hP hk1
            obtain ⟨w35, w35x⟩ := w35
            have cut99_39 : ∀ (y36 : Int32) (y37 : Int32) (y38 : Int32) (H : Heap) (locs : List Loc), va_P (dC, dI) vwCl [(h0, .inr (10, [.ref rd, .ref wy, .ref tr, .ref im, .ref kp, .ref od, .ref ch, .ref cr, .ref le, .ref mk, .ref tl, .ref sh, .int tf, .int rf])), (le, .inr (2, [.int (nI S), .ref l1, .ref l2, .ref l3, .ref l4])), (l1, .inl (G 0, 8, .inl zz1)), (l2, .inl (G 0, 8, .inl zz2)), (l3, .inl (G 0, 8, .inl zz3)), (l4, .inl (G 0, 8, .inl zz4)), (tr, .inr (9, [.int (nI N), .int (nI B), .int (nI D), .ref tc1, .ref tc2, .ref tc3, .ref tc4, .ref tc5, .ref tc6])), (tc1, .inl (G 0, 10, .inl u13)), (tc2, .inl (G 0, 10, .inl u14)), (tc3, .inl (G 0, 10, .inl u15)), (tc4, .inl (G 0, 6, .inl u16)), (tc5, .inl (G 0, 6, .inl (upd g23 bb (nI j19)))), (tc6, .inl (G 0, 6, .inl u18)), (wy, .inr (9, [.int (nI N), .int (nI B), .int (nI D), .ref a1, .ref a2, .ref a3, .ref a4, .ref a5, .ref a6])), (a1, .inl (G 0, 10, .inl f1)), (a2, .inl (G 0, 10, .inl f2)), (a3, .inl (G 0, 10, .inl f3)), (a4, .inl (G 0, 6, .inl f4)), (a5, .inl (G 0, 6, .inl f5)), (a6, .inl (G 0, 6, .inl f6))] H → va_D A [(h0, .inr (10, [.ref rd, .ref wy, .ref tr, .ref im, .ref kp, .ref od, .ref ch, .ref cr, .ref le, .ref mk, .ref tl, .ref sh, .int tf, .int rf])), (le, .inr (2, [.int (nI S), .ref l1, .ref l2, .ref l3, .ref l4])), (l1, .inl (G 0, 8, .inl zz1)), (l2, .inl (G 0, 8, .inl zz2)), (l3, .inl (G 0, 8, .inl zz3)), (l4, .inl (G 0, 8, .inl zz4)), (tr, .inr (9, [.int (nI N), .int (nI B), .int (nI D), .ref tc1, .ref tc2, .ref tc3, .ref tc4, .ref tc5, .ref tc6])), (tc1, .inl (G 0, 10, .inl u13)), (tc2, .inl (G 0, 10, .inl u14)), (tc3, .inl (G 0, 10, .inl u15)), (tc4, .inl (G 0, 6, .inl u16)), (tc5, .inl (G 0, 6, .inl (upd g23 bb (nI j19)))), (tc6, .inl (G 0, 6, .inl u18)), (wy, .inr (9, [.int (nI N), .int (nI B), .int (nI D), .ref a1, .ref a2, .ref a3, .ref a4, .ref a5, .ref a6])), (a1, .inl (G 0, 10, .inl f1)), (a2, .inl (G 0, 10, .inl f2)), (a3, .inl (G 0, 10, .inl f3)), (a4, .inl (G 0, 6, .inl f4)), (a5, .inl (G 0, 6, .inl f5)), (a6, .inl (G 0, 6, .inl f6))] → va_S A s.heap H locs → ∀ (ls : Array Slot), lv_has ls 7 [(6, .int (nI j19)), (5, .int y36), (4, .int y37), (3, .int y38), (0, .ref h0), (1, .int (nI bb)), (2, .int what)] → W p l e (headSpec (Cond.code yX10_steps cX10_steps 7 (some .int) :: GT) ({ frames := 4, cells := 0, slots := 0, locals := 121 } : Room)).room s m ([.ref h0, .int (nI bb), .int what] : List Value).toArray below meth c H locs 0 0 (MQ below (va_Qi (fun (r : Int32) (u : Nat × Nat × Nat × (Nat → Int32) × (Nat → Int32) × (Nat → Int32) × (Nat → Int32) × (Nat → Int32) × (Nat → Int32)) => match u with | (u0, u1, u2, u3, u4, u5, u6, u7, u8) => (True) ∧ u0 ≤ 10 ∧ u1 ≤ 6 ∧ (1 ≤ u2 ∧ u2 ≤ 9)) (fun (u : Nat × Nat × Nat × (Nat → Int32) × (Nat → Int32) × (Nat → Int32) × (Nat → Int32) × (Nat → Int32) × (Nat → Int32)) (t : State) => match u with | (u0, u1, u2, u3, u4, u5, u6, u7, u8) => va_P (dC, dI) vwCl [(h0, .inr (10, [.ref rd, .ref wy, .ref tr, .ref im, .ref kp, .ref od, .ref ch, .ref cr, .ref le, .ref mk, .ref tl, .ref sh, .int tf, .int rf])), (tr, .inr (9, [.int (nI u0), .int (nI u1), .int (nI u2), .ref tc1, .ref tc2, .ref tc3, .ref tc4, .ref tc5, .ref tc6])), (tc1, .inl (G 0, 10, .inl u3)), (tc2, .inl (G 0, 10, .inl u4)), (tc3, .inl (G 0, 10, .inl u5)), (tc4, .inl (G 0, 6, .inl u6)), (tc5, .inl (G 0, 6, .inl u7)), (tc6, .inl (G 0, 6, .inl u8)), (wy, .inr (9, [.int (nI N), .int (nI B), .int (nI D), .ref a1, .ref a2, .ref a3, .ref a4, .ref a5, .ref a6])), (a1, .inl (G 0, 10, .inl f1)), (a2, .inl (G 0, 10, .inl f2)), (a3, .inl (G 0, 10, .inl f3)), (a4, .inl (G 0, 6, .inl f4)), (a5, .inl (G 0, 6, .inl f5)), (a6, .inl (G 0, 6, .inl f6)), (le, .inr (2, [.int (nI S), .ref l1, .ref l2, .ref l3, .ref l4])), (l1, .inl (G 0, 8, .inl zz1)), (l2, .inl (G 0, 8, .inl zz2)), (l3, .inl (G 0, 8, .inl zz3)), (l4, .inl (G 0, 8, .inl zz4))] t.heap ∧ va_D A [(h0, .inr (10, [.ref rd, .ref wy, .ref tr, .ref im, .ref kp, .ref od, .ref ch, .ref cr, .ref le, .ref mk, .ref tl, .ref sh, .int tf, .int rf])), (tr, .inr (9, [.int (nI u0), .int (nI u1), .int (nI u2), .ref tc1, .ref tc2, .ref tc3, .ref tc4, .ref tc5, .ref tc6])), (tc1, .inl (G 0, 10, .inl u3)), (tc2, .inl (G 0, 10, .inl u4)), (tc3, .inl (G 0, 10, .inl u5)), (tc4, .inl (G 0, 6, .inl u6)), (tc5, .inl (G 0, 6, .inl u7)), (tc6, .inl (G 0, 6, .inl u8)), (wy, .inr (9, [.int (nI N), .int (nI B), .int (nI D), .ref a1, .ref a2, .ref a3, .ref a4, .ref a5, .ref a6])), (a1, .inl (G 0, 10, .inl f1)), (a2, .inl (G 0, 10, .inl f2)), (a3, .inl (G 0, 10, .inl f3)), (a4, .inl (G 0, 6, .inl f4)), (a5, .inl (G 0, 6, .inl f5)), (a6, .inl (G 0, 6, .inl f6)), (le, .inr (2, [.int (nI S), .ref l1, .ref l2, .ref l3, .ref l4])), (l1, .inl (G 0, 8, .inl zz1)), (l2, .inl (G 0, 8, .inl zz2)), (l3, .inl (G 0, 8, .inl zz3)), (l4, .inl (G 0, 8, .inl zz4))]) A) ([.ref h0, .int (nI bb), .int what] : List Value).toArray s 0 0 A) (F0 m 99 ls []) := by
              intro y36 y37 y38 H locs hP hD hS ls hl
              refine lv_iinc (v := nI (j19 + 1)) (lv' := [(6, .int (nI (j19 + 1))), (5, .int y36), (4, .int y37), (3, .int y38), (0, .ref h0), (1, .int (nI bb)), (2, .int what)]) hx hb dX10_steps_99 hl (k := 0) rfl (by rw [show Int32.ofInt 1 = nI 1 from by decide]; exact nI_add _ _) (by decide) rfl (fun ls hl => ?_)
              refine lv_goto (tgt := 44) hx hb dX10_steps_102 rfl ?_
              exact ih44_24 (j19 + 1) (by omega) (by omega) y36 y37 y38 (upd g23 bb (nI j19)) _ _ hP hD hS ls (lv_sub hl [0, 1, 2, 3, 4, 5, 6] rfl)
            refine lv_if_eq (tgt := 99) hx hb dX10_steps_73 rfl (fun c40 => ?_) (fun c40 => ?_)
            · skip
              exact cut99_39 y20 y21 y22 _ _ hP hD hS ls (lv_sub hl [0, 1, 2, 3, 4, 5, 6] rfl)
            · skip
              refine lv_iinc (v := y22 + 1) (lv' := [(3, .int (y22 + 1)), (6, .int (nI j19)), (5, .int y20), (4, .int y21), (0, .ref h0), (1, .int (nI bb)), (2, .int what)]) hx hb dX10_steps_76 hl (k := 3) rfl (rfl) (by decide) rfl (fun ls hl => ?_)
              refine lv_iload hx hb dX10_steps_79 (lv_at hl 3 rfl) ?_
              refine lv_bipush (v := (-4)) hx hb dX10_steps_81 rfl ?_
              have cut93_42 : ∀ (y41 : Int32) (H : Heap) (locs : List Loc), va_P (dC, dI) vwCl [(h0, .inr (10, [.ref rd, .ref wy, .ref tr, .ref im, .ref kp, .ref od, .ref ch, .ref cr, .ref le, .ref mk, .ref tl, .ref sh, .int tf, .int rf])), (le, .inr (2, [.int (nI S), .ref l1, .ref l2, .ref l3, .ref l4])), (l1, .inl (G 0, 8, .inl zz1)), (l2, .inl (G 0, 8, .inl zz2)), (l3, .inl (G 0, 8, .inl zz3)), (l4, .inl (G 0, 8, .inl zz4)), (tr, .inr (9, [.int (nI N), .int (nI B), .int (nI D), .ref tc1, .ref tc2, .ref tc3, .ref tc4, .ref tc5, .ref tc6])), (tc1, .inl (G 0, 10, .inl u13)), (tc2, .inl (G 0, 10, .inl u14)), (tc3, .inl (G 0, 10, .inl u15)), (tc4, .inl (G 0, 6, .inl u16)), (tc5, .inl (G 0, 6, .inl (upd g23 bb (nI j19)))), (tc6, .inl (G 0, 6, .inl u18)), (wy, .inr (9, [.int (nI N), .int (nI B), .int (nI D), .ref a1, .ref a2, .ref a3, .ref a4, .ref a5, .ref a6])), (a1, .inl (G 0, 10, .inl f1)), (a2, .inl (G 0, 10, .inl f2)), (a3, .inl (G 0, 10, .inl f3)), (a4, .inl (G 0, 6, .inl f4)), (a5, .inl (G 0, 6, .inl f5)), (a6, .inl (G 0, 6, .inl f6))] H → va_D A [(h0, .inr (10, [.ref rd, .ref wy, .ref tr, .ref im, .ref kp, .ref od, .ref ch, .ref cr, .ref le, .ref mk, .ref tl, .ref sh, .int tf, .int rf])), (le, .inr (2, [.int (nI S), .ref l1, .ref l2, .ref l3, .ref l4])), (l1, .inl (G 0, 8, .inl zz1)), (l2, .inl (G 0, 8, .inl zz2)), (l3, .inl (G 0, 8, .inl zz3)), (l4, .inl (G 0, 8, .inl zz4)), (tr, .inr (9, [.int (nI N), .int (nI B), .int (nI D), .ref tc1, .ref tc2, .ref tc3, .ref tc4, .ref tc5, .ref tc6])), (tc1, .inl (G 0, 10, .inl u13)), (tc2, .inl (G 0, 10, .inl u14)), (tc3, .inl (G 0, 10, .inl u15)), (tc4, .inl (G 0, 6, .inl u16)), (tc5, .inl (G 0, 6, .inl (upd g23 bb (nI j19)))), (tc6, .inl (G 0, 6, .inl u18)), (wy, .inr (9, [.int (nI N), .int (nI B), .int (nI D), .ref a1, .ref a2, .ref a3, .ref a4, .ref a5, .ref a6])), (a1, .inl (G 0, 10, .inl f1)), (a2, .inl (G 0, 10, .inl f2)), (a3, .inl (G 0, 10, .inl f3)), (a4, .inl (G 0, 6, .inl f4)), (a5, .inl (G 0, 6, .inl f5)), (a6, .inl (G 0, 6, .inl f6))] → va_S A s.heap H locs → ∀ (ls : Array Slot), lv_has ls 7 [(3, .int (y22 + 1)), (6, .int (nI j19)), (5, .int y20), (4, .int y21), (0, .ref h0), (1, .int (nI bb)), (2, .int what)] → W p l e (headSpec (Cond.code yX10_steps cX10_steps 7 (some .int) :: GT) ({ frames := 4, cells := 0, slots := 0, locals := 121 } : Room)).room s m ([.ref h0, .int (nI bb), .int what] : List Value).toArray below meth c H locs 0 0 (MQ below (va_Qi (fun (r : Int32) (u : Nat × Nat × Nat × (Nat → Int32) × (Nat → Int32) × (Nat → Int32) × (Nat → Int32) × (Nat → Int32) × (Nat → Int32)) => match u with | (u0, u1, u2, u3, u4, u5, u6, u7, u8) => (True) ∧ u0 ≤ 10 ∧ u1 ≤ 6 ∧ (1 ≤ u2 ∧ u2 ≤ 9)) (fun (u : Nat × Nat × Nat × (Nat → Int32) × (Nat → Int32) × (Nat → Int32) × (Nat → Int32) × (Nat → Int32) × (Nat → Int32)) (t : State) => match u with | (u0, u1, u2, u3, u4, u5, u6, u7, u8) => va_P (dC, dI) vwCl [(h0, .inr (10, [.ref rd, .ref wy, .ref tr, .ref im, .ref kp, .ref od, .ref ch, .ref cr, .ref le, .ref mk, .ref tl, .ref sh, .int tf, .int rf])), (tr, .inr (9, [.int (nI u0), .int (nI u1), .int (nI u2), .ref tc1, .ref tc2, .ref tc3, .ref tc4, .ref tc5, .ref tc6])), (tc1, .inl (G 0, 10, .inl u3)), (tc2, .inl (G 0, 10, .inl u4)), (tc3, .inl (G 0, 10, .inl u5)), (tc4, .inl (G 0, 6, .inl u6)), (tc5, .inl (G 0, 6, .inl u7)), (tc6, .inl (G 0, 6, .inl u8)), (wy, .inr (9, [.int (nI N), .int (nI B), .int (nI D), .ref a1, .ref a2, .ref a3, .ref a4, .ref a5, .ref a6])), (a1, .inl (G 0, 10, .inl f1)), (a2, .inl (G 0, 10, .inl f2)), (a3, .inl (G 0, 10, .inl f3)), (a4, .inl (G 0, 6, .inl f4)), (a5, .inl (G 0, 6, .inl f5)), (a6, .inl (G 0, 6, .inl f6)), (le, .inr (2, [.int (nI S), .ref l1, .ref l2, .ref l3, .ref l4])), (l1, .inl (G 0, 8, .inl zz1)), (l2, .inl (G 0, 8, .inl zz2)), (l3, .inl (G 0, 8, .inl zz3)), (l4, .inl (G 0, 8, .inl zz4))] t.heap ∧ va_D A [(h0, .inr (10, [.ref rd, .ref wy, .ref tr, .ref im, .ref kp, .ref od, .ref ch, .ref cr, .ref le, .ref mk, .ref tl, .ref sh, .int tf, .int rf])), (tr, .inr (9, [.int (nI u0), .int (nI u1), .int (nI u2), .ref tc1, .ref tc2, .ref tc3, .ref tc4, .ref tc5, .ref tc6])), (tc1, .inl (G 0, 10, .inl u3)), (tc2, .inl (G 0, 10, .inl u4)), (tc3, .inl (G 0, 10, .inl u5)), (tc4, .inl (G 0, 6, .inl u6)), (tc5, .inl (G 0, 6, .inl u7)), (tc6, .inl (G 0, 6, .inl u8)), (wy, .inr (9, [.int (nI N), .int (nI B), .int (nI D), .ref a1, .ref a2, .ref a3, .ref a4, .ref a5, .ref a6])), (a1, .inl (G 0, 10, .inl f1)), (a2, .inl (G 0, 10, .inl f2)), (a3, .inl (G 0, 10, .inl f3)), (a4, .inl (G 0, 6, .inl f4)), (a5, .inl (G 0, 6, .inl f5)), (a6, .inl (G 0, 6, .inl f6)), (le, .inr (2, [.int (nI S), .ref l1, .ref l2, .ref l3, .ref l4])), (l1, .inl (G 0, 8, .inl zz1)), (l2, .inl (G 0, 8, .inl zz2)), (l3, .inl (G 0, 8, .inl zz3)), (l4, .inl (G 0, 8, .inl zz4))]) A) ([.ref h0, .int (nI bb), .int what] : List Value).toArray s 0 0 A) (F0 m 93 ls [.int y41]) := by
                intro y41 H locs hP hD hS ls hl
                refine lv_istore (lv' := [(4, .int y41), (3, .int (y22 + 1)), (6, .int (nI j19)), (5, .int y20), (0, .ref h0), (1, .int (nI bb)), (2, .int what)]) hx hb dX10_steps_93 hl (by decide) rfl (fun ls hl => ?_)
                refine lv_iload hx hb dX10_steps_95 (lv_at hl 2 rfl) ?_
                refine lv_istore (lv' := [(5, .int (nI j19)), (4, .int y41), (3, .int (y22 + 1)), (6, .int (nI j19)), (0, .ref h0), (1, .int (nI bb)), (2, .int what)]) hx hb dX10_steps_97 hl (by decide) rfl (fun ls hl => ?_)
                exact cut99_39 (nI j19) y41 (y22 + 1) _ _ hP hD hS ls (lv_sub hl [3, 0, 1, 2, 4, 5, 6] rfl)
              refine lv_icmp_ne (tgt := 91) hx hb dX10_steps_83 rfl (fun c43 => ?_) (fun c43 => ?_)
              · skip
                refine lv_iload hx hb dX10_steps_91 (lv_at hl 3 rfl) ?_
                exact cut93_42 y21 _ _ hP hD hS ls (lv_sub hl [0, 1, 2, 3, 4, 5, 6] rfl)
              · skip
                refine lv_iload hx hb dX10_steps_86 (lv_at hl 1 rfl) ?_
                refine lv_goto (tgt := 93) hx hb dX10_steps_88 rfl ?_
                exact cut93_42 (nI j19) _ _ hP hD hS ls (lv_sub hl [0, 1, 2, 3, 4, 5, 6] rfl)
      exact loop44_24 (10 + 1) 0 (by omega) (by omega) (-4) (-4) 0 u17 _ _ hP hD hS ls (lv_sub hl [0, 1, 2, 3, 4, 5, 6] rfl)
    · skip
      have b44 := if10_n c9
      exact cut18_3  _ _ hP hD hS ls (lv_sub hl [0, 1, 2] rfl)

set_option maxHeartbeats 1000000 in
set_option maxRecDepth 100000 in
theorem c_X10_sheet (l : Launch) (dC : Nat → ClassId) (dI : Nat → Nat → Nat) (G : Nat → ClassId) (sz : Nat) (h0 rd wy tr im kp od ch cr le mk tl sh la si ce fi se : Nat) (tf rf k lane n x8 x9 : Int32) (fl fz : Nat → Int32) (rc : Nat → Nat) (F : Nat → Nat → Int32) (hz : ∀ q : Nat, q < 4 → 0 ≤ (fz q).toInt ∧ (fz q).toInt ≤ 40) : Met l yX10_sheet (Cond.code yX10_sheet cX10_sheet 4 (some .int) :: GT) ({ frames := 2, cells := 0, slots := 0, locals := 44 } : Room) (PcW [.ref h0, .int k, .int lane, .int n] dC dI G (([(h0, .inr (10, [.ref rd, .ref wy, .ref tr, .ref im, .ref kp, .ref od, .ref ch, .ref cr, .ref le, .ref mk, .ref tl, .ref sh, .int tf, .int rf])), (sh, .inr (6, [.ref la, .ref si, .ref ce, .int x8, .int x9, .ref fi, .ref se])), (la, .inl (G 0, 4, .inl fl)), (si, .inl (G 0, 4, .inl fz)), (ce, .inl (G 4, 4, .inr (.inr (.inr (.inr (fun ir => if ir < 4 then some (rc ir) else none))))))] : va_W) ++ ((((List.range 4).map (fun iq => (rc iq, .inl (G 0, 40, .inl (F iq))))) : va_W) ++ [])) sz) (va_Qi (fun (r : Int32) (u : (Nat → Int32) × (Nat → Int32) × (Nat → Nat → Int32)) => match u with | (u0, u1, u2) => (r = if (0 ≤ k.toInt ∧ k.toInt < 4) ∧ (0 ≤ lane.toInt ∧ lane.toInt ≤ 2) ∧ n.toInt ≤ 40 then (if n.toInt < 0 then -14 else 1) else -1) ∧ (u0 = (if ((0 ≤ k.toInt ∧ k.toInt < 4) ∧ (0 ≤ lane.toInt ∧ lane.toInt ≤ 2) ∧ n.toInt ≤ 40 ∧ 0 ≤ n.toInt) then upd fl k.toNatClampNeg lane else fl) ∧ u1 = (if ((0 ≤ k.toInt ∧ k.toInt < 4) ∧ (0 ≤ lane.toInt ∧ lane.toInt ≤ 2) ∧ n.toInt ≤ 40 ∧ 0 ≤ n.toInt) then upd fz k.toNatClampNeg n else fz)) ∧ ∀ q : Nat, q < 4 → 0 ≤ (u1 q).toInt ∧ (u1 q).toInt ≤ 40) (fun (u : (Nat → Int32) × (Nat → Int32) × (Nat → Nat → Int32)) (t : State) => match u with | (u0, u1, u2) => va_P (dC, dI) vwCl (([(h0, .inr (10, [.ref rd, .ref wy, .ref tr, .ref im, .ref kp, .ref od, .ref ch, .ref cr, .ref le, .ref mk, .ref tl, .ref sh, .int tf, .int rf])), (sh, .inr (6, [.ref la, .ref si, .ref ce, .int x8, .int x9, .ref fi, .ref se])), (la, .inl (G 0, 4, .inl u0)), (si, .inl (G 0, 4, .inl u1)), (ce, .inl (G 4, 4, .inr (.inr (.inr (.inr (fun ir => if ir < 4 then some (rc ir) else none))))))] : va_W) ++ ((((List.range 4).map (fun iq => (rc iq, .inl (G 0, 40, .inl (u2 iq))))) : va_W) ++ [])) t.heap ∧ va_D (va_A (([(h0, .inr (10, [.ref rd, .ref wy, .ref tr, .ref im, .ref kp, .ref od, .ref ch, .ref cr, .ref le, .ref mk, .ref tl, .ref sh, .int tf, .int rf])), (sh, .inr (6, [.ref la, .ref si, .ref ce, .int x8, .int x9, .ref fi, .ref se])), (la, .inl (G 0, 4, .inl fl)), (si, .inl (G 0, 4, .inl fz)), (ce, .inl (G 4, 4, .inr (.inr (.inr (.inr (fun ir => if ir < 4 then some (rc ir) else none))))))] : va_W) ++ ((((List.range 4).map (fun iq => (rc iq, .inl (G 0, 40, .inl (F iq))))) : va_W) ++ [])) sz) (([(h0, .inr (10, [.ref rd, .ref wy, .ref tr, .ref im, .ref kp, .ref od, .ref ch, .ref cr, .ref le, .ref mk, .ref tl, .ref sh, .int tf, .int rf])), (sh, .inr (6, [.ref la, .ref si, .ref ce, .int x8, .int x9, .ref fi, .ref se])), (la, .inl (G 0, 4, .inl u0)), (si, .inl (G 0, 4, .inl u1)), (ce, .inl (G 4, 4, .inr (.inr (.inr (.inr (fun ir => if ir < 4 then some (rc ir) else none))))))] : va_W) ++ ((((List.range 4).map (fun iq => (rc iq, .inl (G 0, 40, .inl (u2 iq))))) : va_W) ++ []))) (va_A (([(h0, .inr (10, [.ref rd, .ref wy, .ref tr, .ref im, .ref kp, .ref od, .ref ch, .ref cr, .ref le, .ref mk, .ref tl, .ref sh, .int tf, .int rf])), (sh, .inr (6, [.ref la, .ref si, .ref ce, .int x8, .int x9, .ref fi, .ref se])), (la, .inl (G 0, 4, .inl fl)), (si, .inl (G 0, 4, .inl fz)), (ce, .inl (G 4, 4, .inr (.inr (.inr (.inr (fun ir => if ir < 4 then some (rc ir) else none))))))] : va_W) ++ ((((List.range 4).map (fun iq => (rc iq, .inl (G 0, 40, .inl (F iq))))) : va_W) ++ [])) sz)) 0 0 (va_A (([(h0, .inr (10, [.ref rd, .ref wy, .ref tr, .ref im, .ref kp, .ref od, .ref ch, .ref cr, .ref le, .ref mk, .ref tl, .ref sh, .int tf, .int rf])), (sh, .inr (6, [.ref la, .ref si, .ref ce, .int x8, .int x9, .ref fi, .ref se])), (la, .inl (G 0, 4, .inl fl)), (si, .inl (G 0, 4, .inl fz)), (ce, .inl (G 4, 4, .inr (.inr (.inr (.inr (fun ir => if ir < 4 then some (rc ir) else none))))))] : va_W) ++ ((((List.range 4).map (fun iq => (rc iq, .inl (G 0, 40, .inl (F iq))))) : va_W) ++ [])) sz) := by
  refine Met.ofW (cc := cX10_sheet) (maxL := 4) (ret := (some .int)) (by decide) rfl ?_
  intro p e s m args below meth c s₁ Bd hml hv
  obtain ⟨rfl, hsz, hP, hK, hD0⟩ := hv
  have hx := Bd.exec
  have hb := Bd.bytes
  have hr := Bd.returns
  have hg : ∀ w ∈ GT, w.before ([.ref h0, .int k, .int lane, .int n] : List Value).toArray s = true := fun w h => atoms_spec (ws := Cond.code yX10_sheet cX10_sheet 4 (some .int) :: GT) Bd.pre w (List.mem_cons_of_mem _ h)
  have hown : s.vm.findClass RX10 = some m.cls := findClass_of_methodNamed Bd.named
  have hlocks := Bd.notSynchronized
  subst hsz
  have hD := hD0.self (sz := s.heap.size)
  generalize hAe : va_A (([(h0, .inr (10, [.ref rd, .ref wy, .ref tr, .ref im, .ref kp, .ref od, .ref ch, .ref cr, .ref le, .ref mk, .ref tl, .ref sh, .int tf, .int rf])), (sh, .inr (6, [.ref la, .ref si, .ref ce, .int x8, .int x9, .ref fi, .ref se])), (la, .inl (G 0, 4, .inl fl)), (si, .inl (G 0, 4, .inl fz)), (ce, .inl (G 4, 4, .inr (.inr (.inr (.inr (fun ir => if ir < 4 then some (rc ir) else none))))))] : va_W) ++ ((((List.range 4).map (fun iq => (rc iq, .inl (G 0, 40, .inl (F iq))))) : va_W) ++ [])) s.heap.size = A at hD ⊢
  have hA : ∀ q : Nat, s.heap.size ≤ q → A q := fun q h => by rw [← hAe]; exact Or.inr h
  have hS : va_S A s.heap s.heap [] := va_S.rf
  have hl := lv_entry ([.ref h0, .int k, .int lane, .int n]) (n := 4) (Nat.le_of_ble_eq_true rfl)
  rw [lg_entry_eq]
  generalize (lg_sl ([.ref h0, .int k, .int lane, .int n]) ++ List.replicate (4 - (lg_sl ([.ref h0, .int k, .int lane, .int n])).length) Slot.unset).toArray = ls at hl ⊢
  have hl : lv_has ls 4 [(0, .ref h0), (1, .int k), (2, .int lane), (3, .int n)] := hl
  refine lv_iload_n hx hb dX10_sheet_0 rfl (lv_at hl 1 rfl) ?_
  have hPc := hP.sub (ws' := []) [] rfl
  refine va_calli (va_runSN (As := [.int k]) (rest := []) ⟨hx, hb, hml, hown, hg⟩ (c_X6_isSheet l dC dI G _ k) (kwSN hg hK mfX6_isSheet wn_823 ⟨Nat.le_of_ble_eq_true rfl, Nat.le_of_ble_eq_true rfl⟩) (preSR hK hPc) rfl rfl hl.1 rfl (lv_room (Nat.le_of_ble_eq_true rfl)) dX10_sheet_1 ⟨Nat.le_of_ble_eq_true rfl, Nat.le_of_ble_eq_true rfl⟩) hS (fun q h1 h2 => absurd h2 (Nat.not_le.mpr h1)) (fun q h => hA q (Nat.le_trans hS.1 h)) (fun r1 ur1 t H1 locs ht hvm w2 hB hz1 hk1 hS => ?_)
  have hP := keepR hP hk1
  obtain ⟨w2, w2x⟩ := w2
  try simp only [l_ii, show (0 : Int32).toInt = 0 from by decide, show (4 : Int32).toInt = 4 from by decide] at w2
  subst w2
  refine lv_if_eq (tgt := 20) hx hb dX10_sheet_4 rfl (fun c3 => ?_) (fun c3 => ?_)
  · skip
    have b4 := if10_n c3
    refine lv_iconst (v := (-1)) hx hb dX10_sheet_20 rfl ?_
    have hpost : ((-1) : Int32) = if (0 ≤ k.toInt ∧ k.toInt < 4) ∧ (0 ≤ lane.toInt ∧ lane.toInt ≤ 2) ∧ n.toInt ≤ 40 then (if n.toInt < 0 then -14 else 1) else -1 := by
      have t_b4 := b4
      first | rfl | ((repeat' split) <;> first | rfl | omega)
    obtain ⟨hP9, hD9⟩ := va_sub2 (ws' := (([(h0, .inr (10, [.ref rd, .ref wy, .ref tr, .ref im, .ref kp, .ref od, .ref ch, .ref cr, .ref le, .ref mk, .ref tl, .ref sh, .int tf, .int rf])), (sh, .inr (6, [.ref la, .ref si, .ref ce, .int x8, .int x9, .ref fi, .ref se])), (la, .inl (G 0, 4, .inl fl)), (si, .inl (G 0, 4, .inl fz)), (ce, .inl (G 4, 4, .inr (.inr (.inr (.inr (fun ir => if ir < 4 then some (rc ir) else none))))))] : va_W) ++ ((((List.range 4).map (fun iq => (rc iq, .inl (G 0, 40, .inl (F iq))))) : va_W) ++ []))) hP hD [0, 1, 2, 3, 4, 5, 6, 7, 8] (by decide +kernel) rfl
    refine W.widen (k := 0) (n := 0) (Nat.le_of_ble_eq_true rfl) (Nat.le_of_ble_eq_true rfl) ?_
    exact W.iret (v := (-1)) hx hb hr (fun t ht hW => ⟨⟨(-1), (fl, fz, F), rfl, ⟨hpost, (by have t_b4 := b4; refine ⟨⟨?_, ?_⟩, hz⟩ <;> rw [if_neg (by omega)])⟩, ⟨by rw [ht]; exact hP9, hD9⟩⟩, hS.F ht⟩) hS.2.2 dX10_sheet_21
  · skip
    have b5 := if10_p c3
    refine lv_iload_n hx hb dX10_sheet_7 rfl (lv_at hl 2 rfl) ?_
    have hPc := hP.sub (ws' := []) [] rfl
    refine va_calli (va_runSN (As := [.int lane]) (rest := []) ⟨hx, hb, hml, hown, hg⟩ (c_X6_isLane l dC dI G _ lane) (kwSN hg hK mfX6_isLane wn_826 ⟨Nat.le_of_ble_eq_true rfl, Nat.le_of_ble_eq_true rfl⟩) (preSR hK hPc) rfl rfl hl.1 rfl (lv_room (Nat.le_of_ble_eq_true rfl)) dX10_sheet_8 ⟨Nat.le_of_ble_eq_true rfl, Nat.le_of_ble_eq_true rfl⟩) hS (fun q h1 h2 => absurd h2 (Nat.not_le.mpr h1)) (fun q h => hA q (Nat.le_trans hS.1 h)) (fun r6 ur6 t H1 locs ht hvm w7 hB hz1 hk1 hS => ?_)
    have hP := keepR hP hk1
    obtain ⟨w7, w7x⟩ := w7
    try simp only [l_ii, show (0 : Int32).toInt = 0 from by decide, show (2 : Int32).toInt = 2 from by decide] at w7
    subst w7
    refine lv_if_eq (tgt := 20) hx hb dX10_sheet_11 rfl (fun c8 => ?_) (fun c8 => ?_)
    · skip
      have b9 := if10_n c8
      refine lv_iconst (v := (-1)) hx hb dX10_sheet_20 rfl ?_
      have hpost : ((-1) : Int32) = if (0 ≤ k.toInt ∧ k.toInt < 4) ∧ (0 ≤ lane.toInt ∧ lane.toInt ≤ 2) ∧ n.toInt ≤ 40 then (if n.toInt < 0 then -14 else 1) else -1 := by
        have t_b5 := b5
        have t_b9 := b9
        first | rfl | ((repeat' split) <;> first | rfl | omega)
      obtain ⟨hP9, hD9⟩ := va_sub2 (ws' := (([(h0, .inr (10, [.ref rd, .ref wy, .ref tr, .ref im, .ref kp, .ref od, .ref ch, .ref cr, .ref le, .ref mk, .ref tl, .ref sh, .int tf, .int rf])), (sh, .inr (6, [.ref la, .ref si, .ref ce, .int x8, .int x9, .ref fi, .ref se])), (la, .inl (G 0, 4, .inl fl)), (si, .inl (G 0, 4, .inl fz)), (ce, .inl (G 4, 4, .inr (.inr (.inr (.inr (fun ir => if ir < 4 then some (rc ir) else none))))))] : va_W) ++ ((((List.range 4).map (fun iq => (rc iq, .inl (G 0, 40, .inl (F iq))))) : va_W) ++ []))) hP hD [0, 1, 2, 3, 4, 5, 6, 7, 8] (by decide +kernel) rfl
      refine W.widen (k := 0) (n := 0) (Nat.le_of_ble_eq_true rfl) (Nat.le_of_ble_eq_true rfl) ?_
      exact W.iret (v := (-1)) hx hb hr (fun t ht hW => ⟨⟨(-1), (fl, fz, F), rfl, ⟨hpost, (by have t_b5 := b5; have t_b9 := b9; refine ⟨⟨?_, ?_⟩, hz⟩ <;> rw [if_neg (by omega)])⟩, ⟨by rw [ht]; exact hP9, hD9⟩⟩, hS.F ht⟩) hS.2.2 dX10_sheet_21
    · skip
      have b10 := if10_p c8
      refine lv_iload_n hx hb dX10_sheet_14 rfl (lv_at hl 3 rfl) ?_
      refine lv_bipush (v := 40) hx hb dX10_sheet_15 rfl ?_
      refine lv_icmp_le (tgt := 22) hx hb dX10_sheet_17 rfl (fun c11 => ?_) (fun c11 => ?_)
      · skip
        refine lv_iload_n hx hb dX10_sheet_22 rfl (lv_at hl 3 rfl) ?_
        refine lv_if_ge (tgt := 29) hx hb dX10_sheet_23 rfl (fun c12 => ?_) (fun c12 => ?_)
        · skip
          obtain ⟨kk, hkk, rfl⟩ : ∃ j : Nat, j < 4 ∧ k = nI j := by
            have t_b5 := b5
            have t_b10 := b10
            have t_c11 := leI c11
            have t_c12 := leI c12
            have : (0 : Int32).toInt = 0 := qI_0
            have : (40 : Int32).toInt = 40 := qI_40
            exact i32_nat (by omega) (by omega)
          obtain ⟨nn, hnn, rfl⟩ : ∃ j : Nat, j < 41 ∧ n = nI j := by
            have t_b5 := b5
            have t_b10 := b10
            have t_c11 := leI c11
            have t_c12 := leI c12
            have t_hkk := hkk
            have : (0 : Int32).toInt = 0 := qI_0
            have : (40 : Int32).toInt = 40 := qI_40
            have tn387_ : nIT kk := fun _ => nI_toInt (by omega)
            have t_n0 : (nI kk).toInt = (kk : Int) := tn387_ ()
            exact i32_nat (by omega) (by omega)
          refine lv_aload_n hx hb dX10_sheet_29 rfl (lv_at hl 0 rfl) ?_
          refine va_get (D := (dC, dI)) (ci := 10) (v := .ref sh) (C := RX10) (T := TX10) (N := 14) hx hb hg inG10 hown hK.1 hP 0 rfl rfl 11 (Nat.le_of_ble_eq_true rfl) (hg _ wt_313) (fun _ h9 => h9) rfl dX10_sheet_30 ?_
          refine lv_iload_n hx hb dX10_sheet_33 rfl (lv_at hl 1 rfl) ?_
          refine lv_iload_n hx hb dX10_sheet_34 rfl (lv_at hl 2 rfl) ?_
          refine lv_iload_n hx hb dX10_sheet_35 rfl (lv_at hl 3 rfl) ?_
          obtain ⟨hPc, hDc, hFc⟩ := va_sub3 (ws' := (([(sh, .inr (6, [.ref la, .ref si, .ref ce, .int x8, .int x9, .ref fi, .ref se])), (la, .inl (G 0, 4, .inl fl)), (si, .inl (G 0, 4, .inl fz)), (ce, .inl (G 4, 4, .inr (.inr (.inr (.inr (fun ir => if ir < 4 then some (rc ir) else none))))))] : va_W) ++ ((((List.range 4).map (fun iq => (rc iq, .inl (G 0, 40, .inl (F iq))))) : va_W) ++ []))) hP hD hS hA [1, 2, 3, 4, 5, 6, 7, 8] (by decide +kernel) rfl
          have tn388_ : nIT kk := fun _ => nI_toInt (by first | omega | (have t_b5 := b5; have t_b10 := b10; have t_c11 := leI c11; have t_c12 := leI c12; have t_hkk := hkk; have t_hnn := hnn; have tqz_ := qz11_; omega))
          have tn389_ : nIT nn := fun _ => nI_toInt (by first | omega | (have t_b5 := b5; have t_b10 := b10; have t_c11 := leI c11; have t_c12 := leI c12; have t_hkk := hkk; have t_hnn := hnn; have tqz_ := qz11_; omega))
          refine va_callv (va_runVN (As := [.int (nI kk), .int lane, .int (nI nn)]) (rest := []) ⟨hx, hb, hml, hown, hg⟩ (c_X6_renew l dC dI G _ sh la si ce fi se kk nn x8 x9 lane fl fz rc F (by first | omega | (have t_b5 := b5; have t_b10 := b10; have t_c11 := leI c11; have t_c12 := leI c12; have t_hkk := hkk; have t_hnn := hnn; have tqz_ := qz11_; have tnb_ := nib2 tn388_ tn389_; omega)) (by first | omega | (have t_b5 := b5; have t_b10 := b10; have t_c11 := leI c11; have t_c12 := leI c12; have t_hkk := hkk; have t_hnn := hnn; have tqz_ := qz11_; have tnb_ := nib2 tn388_ tn389_; omega))) (kwVN hg hK mfX6_renew wn_829 ⟨Nat.le_of_ble_eq_true rfl, Nat.le_of_ble_eq_true rfl⟩) (preVW hK hPc hDc (ci := 6) (r := (RX6, TX6, 7)) rfl rfl) rfl rfl hl.1 rfl (lv_room (Nat.le_of_ble_eq_true rfl)) dX10_sheet_36 ⟨Nat.le_of_ble_eq_true rfl, Nat.le_of_ble_eq_true rfl⟩) hS (fun q _ h => hFc q h) hFc (fun ur13 t H1 locs ht hvm w14 hB hz1 hk1 hS => ?_)
          obtain ⟨u15, u16, u17⟩ := ur13
          obtain ⟨hP1, hD1⟩ := hB
          rw [ht] at hP1
          obtain ⟨hP, hD⟩ := va_join (wr := [(h0, .inr (10, [.ref rd, .ref wy, .ref tr, .ref im, .ref kp, .ref od, .ref ch, .ref cr, .ref le, .ref mk, .ref tl, .ref sh, .int tf, .int rf]))]) (w1 := (([(sh, .inr (6, [.ref la, .ref si, .ref ce, .int x8, .int x9, .ref fi, .ref se])), (la, .inl (G 0, 4, .inl u16)), (si, .inl (G 0, 4, .inl u17)), (ce, .inl (G 4, 4, .inr (.inr (.inr (.inr (fun ir => if ir < 4 then some (rc ir) else none))))))] : va_W) ++ ((((List.range 4).map (fun iq => (rc iq, .inl (G 0, 40, .inl (u15 iq))))) : va_W) ++ []))) hP hD [1, 2, 3, 4, 5, 6, 7, 8] [0] rfl rfl (by decide +kernel) (by decide +kernel) hk1 hFc hP1 hD1
          have w14 : u16 = upd fl kk lane ∧ u17 = upd fz kk (nI nn) := w14
          generalize H1 = H at hP hS ⊢
          refine lv_iconst (v := 1) hx hb dX10_sheet_39 rfl ?_
          have hpost : (1 : Int32) = if (0 ≤ (nI kk).toInt ∧ (nI kk).toInt < 4) ∧ (0 ≤ lane.toInt ∧ lane.toInt ≤ 2) ∧ (nI nn).toInt ≤ 40 then (if (nI nn).toInt < 0 then -14 else 1) else -1 := by
            have t_b5 := b5
            have t_b10 := b10
            have t_c11 := leI c11
            have t_c12 := leI c12
            have t_hkk := hkk
            have t_hnn := hnn
            have : (0 : Int32).toInt = 0 := qI_0
            have : (40 : Int32).toInt = 40 := qI_40
            have t_n0 : (nI kk).toInt = (kk : Int) := tn388_ ()
            have t_n1 : (nI nn).toInt = (nn : Int) := tn389_ ()
            first | rfl | ((repeat' split) <;> first | rfl | omega)
          obtain ⟨hP9, hD9⟩ := va_sub2 (ws' := (([(h0, .inr (10, [.ref rd, .ref wy, .ref tr, .ref im, .ref kp, .ref od, .ref ch, .ref cr, .ref le, .ref mk, .ref tl, .ref sh, .int tf, .int rf])), (sh, .inr (6, [.ref la, .ref si, .ref ce, .int x8, .int x9, .ref fi, .ref se])), (la, .inl (G 0, 4, .inl u16)), (si, .inl (G 0, 4, .inl u17)), (ce, .inl (G 4, 4, .inr (.inr (.inr (.inr (fun ir => if ir < 4 then some (rc ir) else none))))))] : va_W) ++ ((((List.range 4).map (fun iq => (rc iq, .inl (G 0, 40, .inl (u15 iq))))) : va_W) ++ []))) hP hD [0, 1, 2, 3, 4, 5, 6, 7, 8] (by decide +kernel) rfl
          refine W.widen (k := 0) (n := 0) (Nat.le_of_ble_eq_true rfl) (Nat.le_of_ble_eq_true rfl) ?_
          exact W.iret (v := 1) hx hb hr (fun t ht hW => ⟨⟨1, (u16, u17, u15), rfl, ⟨hpost, (by have t_b5 := b5; have t_b10 := b10; have t_c11 := leI c11; have t_c12 := leI c12; have t_hkk := hkk; have t_hnn := hnn; have tqz_ := qz11_; have tnb_ := nib2 tn388_ tn389_; have q9 := w14; refine ⟨⟨?_, ?_⟩, q9.2 ▸ hz_upd hz (by omega)⟩; (rw [if_pos (by omega), nI_clamp (by omega)]; exact q9.1); (rw [if_pos (by omega), nI_clamp (by omega)]; exact q9.2))⟩, ⟨by rw [ht]; exact hP9, hD9⟩⟩, hS.F ht⟩) hS.2.2 dX10_sheet_40
        · skip
          refine lv_bipush (v := (-14)) hx hb dX10_sheet_26 rfl ?_
          have hpost : ((-14) : Int32) = if (0 ≤ k.toInt ∧ k.toInt < 4) ∧ (0 ≤ lane.toInt ∧ lane.toInt ≤ 2) ∧ n.toInt ≤ 40 then (if n.toInt < 0 then -14 else 1) else -1 := by
            have t_b5 := b5
            have t_b10 := b10
            have t_c11 := leI c11
            have t_c12 := nleI c12
            have : (0 : Int32).toInt = 0 := qI_0
            have : (40 : Int32).toInt = 40 := qI_40
            first | rfl | ((repeat' split) <;> first | rfl | omega)
          obtain ⟨hP9, hD9⟩ := va_sub2 (ws' := (([(h0, .inr (10, [.ref rd, .ref wy, .ref tr, .ref im, .ref kp, .ref od, .ref ch, .ref cr, .ref le, .ref mk, .ref tl, .ref sh, .int tf, .int rf])), (sh, .inr (6, [.ref la, .ref si, .ref ce, .int x8, .int x9, .ref fi, .ref se])), (la, .inl (G 0, 4, .inl fl)), (si, .inl (G 0, 4, .inl fz)), (ce, .inl (G 4, 4, .inr (.inr (.inr (.inr (fun ir => if ir < 4 then some (rc ir) else none))))))] : va_W) ++ ((((List.range 4).map (fun iq => (rc iq, .inl (G 0, 40, .inl (F iq))))) : va_W) ++ []))) hP hD [0, 1, 2, 3, 4, 5, 6, 7, 8] (by decide +kernel) rfl
          refine W.widen (k := 0) (n := 0) (Nat.le_of_ble_eq_true rfl) (Nat.le_of_ble_eq_true rfl) ?_
          exact W.iret (v := (-14)) hx hb hr (fun t ht hW => ⟨⟨(-14), (fl, fz, F), rfl, ⟨hpost, (by have t_b5 := b5; have t_b10 := b10; have t_c11 := leI c11; have t_c12 := nleI c12; have tqz_ := qz11_; refine ⟨⟨?_, ?_⟩, hz⟩ <;> rw [if_neg (by omega)])⟩, ⟨by rw [ht]; exact hP9, hD9⟩⟩, hS.F ht⟩) hS.2.2 dX10_sheet_28
      · skip
        refine lv_iconst (v := (-1)) hx hb dX10_sheet_20 rfl ?_
        have hpost : ((-1) : Int32) = if (0 ≤ k.toInt ∧ k.toInt < 4) ∧ (0 ≤ lane.toInt ∧ lane.toInt ≤ 2) ∧ n.toInt ≤ 40 then (if n.toInt < 0 then -14 else 1) else -1 := by
          have t_b5 := b5
          have t_b10 := b10
          have t_c11 := nleI c11
          have : (40 : Int32).toInt = 40 := qI_40
          first | rfl | ((repeat' split) <;> first | rfl | omega)
        obtain ⟨hP9, hD9⟩ := va_sub2 (ws' := (([(h0, .inr (10, [.ref rd, .ref wy, .ref tr, .ref im, .ref kp, .ref od, .ref ch, .ref cr, .ref le, .ref mk, .ref tl, .ref sh, .int tf, .int rf])), (sh, .inr (6, [.ref la, .ref si, .ref ce, .int x8, .int x9, .ref fi, .ref se])), (la, .inl (G 0, 4, .inl fl)), (si, .inl (G 0, 4, .inl fz)), (ce, .inl (G 4, 4, .inr (.inr (.inr (.inr (fun ir => if ir < 4 then some (rc ir) else none))))))] : va_W) ++ ((((List.range 4).map (fun iq => (rc iq, .inl (G 0, 40, .inl (F iq))))) : va_W) ++ []))) hP hD [0, 1, 2, 3, 4, 5, 6, 7, 8] (by decide +kernel) rfl
        refine W.widen (k := 0) (n := 0) (Nat.le_of_ble_eq_true rfl) (Nat.le_of_ble_eq_true rfl) ?_
        exact W.iret (v := (-1)) hx hb hr (fun t ht hW => ⟨⟨(-1), (fl, fz, F), rfl, ⟨hpost, (by have t_b5 := b5; have t_b10 := b10; have t_c11 := nleI c11; have : (40 : Int32).toInt = 40 := qI_40; refine ⟨⟨?_, ?_⟩, hz⟩ <;> rw [if_neg (by omega)])⟩, ⟨by rw [ht]; exact hP9, hD9⟩⟩, hS.F ht⟩) hS.2.2 dX10_sheet_21

set_option maxHeartbeats 1000000 in
set_option maxRecDepth 100000 in
theorem c_X10_lay (l : Launch) (dC : Nat → ClassId) (dI : Nat → Nat → Nat) (G : Nat → ClassId) (sz : Nat) (h0 rd wy tr im kp od ch cr le mk tl sh la si ce fi se : Nat) (tf rf k i v x8 x9 : Int32) (fl fz : Nat → Int32) (rc : Nat → Nat) (F : Nat → Nat → Int32) (hz : ∀ q : Nat, q < 4 → 0 ≤ (fz q).toInt ∧ (fz q).toInt ≤ 40) : Met l yX10_lay (Cond.code yX10_lay cX10_lay 5 (some .int) :: GT) ({ frames := 2, cells := 0, slots := 0, locals := 46 } : Room) (PcW [.ref h0, .int k, .int i, .int v] dC dI G (([(h0, .inr (10, [.ref rd, .ref wy, .ref tr, .ref im, .ref kp, .ref od, .ref ch, .ref cr, .ref le, .ref mk, .ref tl, .ref sh, .int tf, .int rf])), (sh, .inr (6, [.ref la, .ref si, .ref ce, .int x8, .int x9, .ref fi, .ref se])), (la, .inl (G 0, 4, .inl fl)), (si, .inl (G 0, 4, .inl fz)), (ce, .inl (G 4, 4, .inr (.inr (.inr (.inr (fun ir => if ir < 4 then some (rc ir) else none))))))] : va_W) ++ ((((List.range 4).map (fun iq => (rc iq, .inl (G 0, 40, .inl (F iq))))) : va_W) ++ [])) sz) (va_Qi (fun (r : Int32) (u : (Nat → Nat → Int32)) => match u with | u0 => (r = if 0 ≤ k.toInt ∧ k.toInt < 4 then (if fl k.toNatClampNeg = -1 then -11 else if 0 ≤ i.toInt ∧ i.toInt < (fz k.toNatClampNeg).toInt then 1 else -12) else -1) ∧ True) (fun (u : (Nat → Nat → Int32)) (t : State) => match u with | u0 => va_P (dC, dI) vwCl (([(h0, .inr (10, [.ref rd, .ref wy, .ref tr, .ref im, .ref kp, .ref od, .ref ch, .ref cr, .ref le, .ref mk, .ref tl, .ref sh, .int tf, .int rf])), (sh, .inr (6, [.ref la, .ref si, .ref ce, .int x8, .int x9, .ref fi, .ref se])), (la, .inl (G 0, 4, .inl fl)), (si, .inl (G 0, 4, .inl fz)), (ce, .inl (G 4, 4, .inr (.inr (.inr (.inr (fun ir => if ir < 4 then some (rc ir) else none))))))] : va_W) ++ ((((List.range 4).map (fun iq => (rc iq, .inl (G 0, 40, .inl (u0 iq))))) : va_W) ++ [])) t.heap ∧ va_D (va_A (([(h0, .inr (10, [.ref rd, .ref wy, .ref tr, .ref im, .ref kp, .ref od, .ref ch, .ref cr, .ref le, .ref mk, .ref tl, .ref sh, .int tf, .int rf])), (sh, .inr (6, [.ref la, .ref si, .ref ce, .int x8, .int x9, .ref fi, .ref se])), (la, .inl (G 0, 4, .inl fl)), (si, .inl (G 0, 4, .inl fz)), (ce, .inl (G 4, 4, .inr (.inr (.inr (.inr (fun ir => if ir < 4 then some (rc ir) else none))))))] : va_W) ++ ((((List.range 4).map (fun iq => (rc iq, .inl (G 0, 40, .inl (F iq))))) : va_W) ++ [])) sz) (([(h0, .inr (10, [.ref rd, .ref wy, .ref tr, .ref im, .ref kp, .ref od, .ref ch, .ref cr, .ref le, .ref mk, .ref tl, .ref sh, .int tf, .int rf])), (sh, .inr (6, [.ref la, .ref si, .ref ce, .int x8, .int x9, .ref fi, .ref se])), (la, .inl (G 0, 4, .inl fl)), (si, .inl (G 0, 4, .inl fz)), (ce, .inl (G 4, 4, .inr (.inr (.inr (.inr (fun ir => if ir < 4 then some (rc ir) else none))))))] : va_W) ++ ((((List.range 4).map (fun iq => (rc iq, .inl (G 0, 40, .inl (u0 iq))))) : va_W) ++ []))) (va_A (([(h0, .inr (10, [.ref rd, .ref wy, .ref tr, .ref im, .ref kp, .ref od, .ref ch, .ref cr, .ref le, .ref mk, .ref tl, .ref sh, .int tf, .int rf])), (sh, .inr (6, [.ref la, .ref si, .ref ce, .int x8, .int x9, .ref fi, .ref se])), (la, .inl (G 0, 4, .inl fl)), (si, .inl (G 0, 4, .inl fz)), (ce, .inl (G 4, 4, .inr (.inr (.inr (.inr (fun ir => if ir < 4 then some (rc ir) else none))))))] : va_W) ++ ((((List.range 4).map (fun iq => (rc iq, .inl (G 0, 40, .inl (F iq))))) : va_W) ++ [])) sz)) 0 0 (va_A (([(h0, .inr (10, [.ref rd, .ref wy, .ref tr, .ref im, .ref kp, .ref od, .ref ch, .ref cr, .ref le, .ref mk, .ref tl, .ref sh, .int tf, .int rf])), (sh, .inr (6, [.ref la, .ref si, .ref ce, .int x8, .int x9, .ref fi, .ref se])), (la, .inl (G 0, 4, .inl fl)), (si, .inl (G 0, 4, .inl fz)), (ce, .inl (G 4, 4, .inr (.inr (.inr (.inr (fun ir => if ir < 4 then some (rc ir) else none))))))] : va_W) ++ ((((List.range 4).map (fun iq => (rc iq, .inl (G 0, 40, .inl (F iq))))) : va_W) ++ [])) sz) := by
  refine Met.ofW (cc := cX10_lay) (maxL := 5) (ret := (some .int)) (by decide) rfl ?_
  intro p e s m args below meth c s₁ Bd hml hv
  obtain ⟨rfl, hsz, hP, hK, hD0⟩ := hv
  have hx := Bd.exec
  have hb := Bd.bytes
  have hr := Bd.returns
  have hg : ∀ w ∈ GT, w.before ([.ref h0, .int k, .int i, .int v] : List Value).toArray s = true := fun w h => atoms_spec (ws := Cond.code yX10_lay cX10_lay 5 (some .int) :: GT) Bd.pre w (List.mem_cons_of_mem _ h)
  have hown : s.vm.findClass RX10 = some m.cls := findClass_of_methodNamed Bd.named
  have hlocks := Bd.notSynchronized
  subst hsz
  have hD := hD0.self (sz := s.heap.size)
  generalize hAe : va_A (([(h0, .inr (10, [.ref rd, .ref wy, .ref tr, .ref im, .ref kp, .ref od, .ref ch, .ref cr, .ref le, .ref mk, .ref tl, .ref sh, .int tf, .int rf])), (sh, .inr (6, [.ref la, .ref si, .ref ce, .int x8, .int x9, .ref fi, .ref se])), (la, .inl (G 0, 4, .inl fl)), (si, .inl (G 0, 4, .inl fz)), (ce, .inl (G 4, 4, .inr (.inr (.inr (.inr (fun ir => if ir < 4 then some (rc ir) else none))))))] : va_W) ++ ((((List.range 4).map (fun iq => (rc iq, .inl (G 0, 40, .inl (F iq))))) : va_W) ++ [])) s.heap.size = A at hD ⊢
  have hA : ∀ q : Nat, s.heap.size ≤ q → A q := fun q h => by rw [← hAe]; exact Or.inr h
  have hS : va_S A s.heap s.heap [] := va_S.rf
  have hl := lv_entry ([.ref h0, .int k, .int i, .int v]) (n := 5) (Nat.le_of_ble_eq_true rfl)
  rw [lg_entry_eq]
  generalize (lg_sl ([.ref h0, .int k, .int i, .int v]) ++ List.replicate (5 - (lg_sl ([.ref h0, .int k, .int i, .int v])).length) Slot.unset).toArray = ls at hl ⊢
  have hl : lv_has ls 5 [(0, .ref h0), (1, .int k), (2, .int i), (3, .int v)] := hl
  refine lv_iload_n hx hb dX10_lay_0 rfl (lv_at hl 1 rfl) ?_
  have hPc := hP.sub (ws' := []) [] rfl
  refine va_calli (va_runSN (As := [.int k]) (rest := []) ⟨hx, hb, hml, hown, hg⟩ (c_X6_isSheet l dC dI G _ k) (kwSN hg hK mfX6_isSheet wn_823 ⟨Nat.le_of_ble_eq_true rfl, Nat.le_of_ble_eq_true rfl⟩) (preSR hK hPc) rfl rfl hl.1 rfl (lv_room (Nat.le_of_ble_eq_true rfl)) dX10_lay_1 ⟨Nat.le_of_ble_eq_true rfl, Nat.le_of_ble_eq_true rfl⟩) hS (fun q h1 h2 => absurd h2 (Nat.not_le.mpr h1)) (fun q h => hA q (Nat.le_trans hS.1 h)) (fun r1 ur1 t H1 locs ht hvm w2 hB hz1 hk1 hS => ?_)
  have hP := keepR hP hk1
  obtain ⟨w2, w2x⟩ := w2
  try simp only [l_ii, show (0 : Int32).toInt = 0 from by decide, show (4 : Int32).toInt = 4 from by decide] at w2
  subst w2
  refine lv_if_ne (tgt := 9) hx hb dX10_lay_4 rfl (fun c3 => ?_) (fun c3 => ?_)
  · skip
    have b4 := if10_p c3
    obtain ⟨kk, hkk, rfl⟩ : ∃ j : Nat, j < 4 ∧ k = nI j := by
      have t_b4 := b4
      exact i32_nat (by omega) (by omega)
    refine lv_aload_n hx hb dX10_lay_9 rfl (lv_at hl 0 rfl) ?_
    refine va_get (D := (dC, dI)) (ci := 10) (v := .ref sh) (C := RX10) (T := TX10) (N := 14) hx hb hg inG10 hown hK.1 hP 0 rfl rfl 11 (Nat.le_of_ble_eq_true rfl) (hg _ wt_313) (fun _ h9 => h9) rfl dX10_lay_10 ?_
    refine lv_iload_n hx hb dX10_lay_13 rfl (lv_at hl 1 rfl) ?_
    refine lv_iload_n hx hb dX10_lay_14 rfl (lv_at hl 2 rfl) ?_
    refine lv_i2l (v := i.toInt64) hx hb dX10_lay_15 rfl ?_
    have hPc := hP.sub (ws' := [(sh, .inr (6, [.ref la, .ref si, .ref ce, .int x8, .int x9, .ref fi, .ref se])), (la, .inl (G 0, 4, .inl fl)), (si, .inl (G 0, 4, .inl fz))]) [1, 2, 3] rfl
    have tn390_ : nIT kk := fun _ => nI_toInt (by first | omega | (have t_b4 := b4; have t_hkk := hkk; omega))
    refine va_calli (va_runVN (As := [.int (nI kk), .long i.toInt64]) (rest := []) ⟨hx, hb, hml, hown, hg⟩ (c_X6_faultAt l dC dI G _ sh la si ce fi se kk x8 x9 i.toInt64 fl fz (by first | omega | (have t_b4 := b4; have t_hkk := hkk; have t_n0 : (nI kk).toInt = (kk : Int) := tn390_ (); omega))) (kwVN hg hK mfX6_faultAt wn_838 ⟨Nat.le_of_ble_eq_true rfl, Nat.le_of_ble_eq_true rfl⟩) (preVR hK hPc (ci := 6) (r := (RX6, TX6, 7)) rfl rfl) rfl rfl hl.1 rfl (lv_room (Nat.le_of_ble_eq_true rfl)) dX10_lay_16 ⟨Nat.le_of_ble_eq_true rfl, Nat.le_of_ble_eq_true rfl⟩) hS (fun q h1 h2 => absurd h2 (Nat.not_le.mpr h1)) (fun q h => hA q (Nat.le_trans hS.1 h)) (fun r5 ur5 t H1 locs ht hvm w6 hB hz1 hk1 hS => ?_)
    have hP := keepR hP hk1
    obtain ⟨w6, w6x⟩ := w6
    refine lv_istore (lv' := [(4, .int r5), (0, .ref h0), (1, .int (nI kk)), (2, .int i), (3, .int v)]) hx hb dX10_lay_19 hl (by decide) rfl (fun ls hl => ?_)
    refine lv_iload hx hb dX10_lay_21 (lv_at hl 0 rfl) ?_
    refine lv_if_eq (tgt := 32) hx hb dX10_lay_23 rfl (fun c7 => ?_) (fun c7 => ?_)
    · skip
      have b8 := fz0 w6 c7
      refine lv_aload_n hx hb dX10_lay_32 rfl (lv_at hl 1 rfl) ?_
      refine va_get (D := (dC, dI)) (ci := 10) (v := .ref sh) (C := RX10) (T := TX10) (N := 14) hx hb hg inG10 hown hK.1 hP 0 rfl rfl 11 (Nat.le_of_ble_eq_true rfl) (hg _ wt_313) (fun _ h9 => h9) rfl dX10_lay_33 ?_
      refine lv_iload_n hx hb dX10_lay_36 rfl (lv_at hl 2 rfl) ?_
      refine lv_iload_n hx hb dX10_lay_37 rfl (lv_at hl 3 rfl) ?_
      refine lv_iload_n hx hb dX10_lay_38 rfl (lv_at hl 4 rfl) ?_
      obtain ⟨hPc, hDc, hFc⟩ := va_sub3 (ws' := (([(sh, .inr (6, [.ref la, .ref si, .ref ce, .int x8, .int x9, .ref fi, .ref se])), (la, .inl (G 0, 4, .inl fl)), (si, .inl (G 0, 4, .inl fz)), (ce, .inl (G 4, 4, .inr (.inr (.inr (.inr (fun ir => if ir < 4 then some (rc ir) else none))))))] : va_W) ++ ((((List.range 4).map (fun iq => (rc iq, .inl (G 0, 40, .inl (F iq))))) : va_W) ++ []))) hP hD hS hA [1, 2, 3, 4, 5, 6, 7, 8] (by decide +kernel) rfl
      refine va_callv (va_runVN (As := [.int (nI kk), .int i, .int v]) (rest := []) ⟨hx, hb, hml, hown, hg⟩ (c_X6_fill l dC dI G _ sh la si ce fi se kk x8 x9 i v fl fz rc F (by omega) hz) (kwVN hg hK mfX6_fill wn_842 ⟨Nat.le_of_ble_eq_true rfl, Nat.le_of_ble_eq_true rfl⟩) (preVW hK hPc hDc (ci := 6) (r := (RX6, TX6, 7)) rfl rfl) rfl rfl hl.1 rfl (lv_room (Nat.le_of_ble_eq_true rfl)) dX10_lay_39 ⟨Nat.le_of_ble_eq_true rfl, Nat.le_of_ble_eq_true rfl⟩) hS (fun q _ h => hFc q h) hFc (fun ur9 t H1 locs ht hvm w10 hB hz1 hk1 hS => ?_)
      obtain ⟨u11, rfl⟩ : ∃ z, z = ur9 := ⟨_, rfl⟩
      obtain ⟨hP1, hD1⟩ := hB
      rw [ht] at hP1
      obtain ⟨hP, hD⟩ := va_join (wr := [(h0, .inr (10, [.ref rd, .ref wy, .ref tr, .ref im, .ref kp, .ref od, .ref ch, .ref cr, .ref le, .ref mk, .ref tl, .ref sh, .int tf, .int rf]))]) (w1 := (([(sh, .inr (6, [.ref la, .ref si, .ref ce, .int x8, .int x9, .ref fi, .ref se])), (la, .inl (G 0, 4, .inl fl)), (si, .inl (G 0, 4, .inl fz)), (ce, .inl (G 4, 4, .inr (.inr (.inr (.inr (fun ir => if ir < 4 then some (rc ir) else none))))))] : va_W) ++ ((((List.range 4).map (fun iq => (rc iq, .inl (G 0, 40, .inl (u11 iq))))) : va_W) ++ []))) hP hD [1, 2, 3, 4, 5, 6, 7, 8] [0] rfl rfl (by decide +kernel) (by decide +kernel) hk1 hFc hP1 hD1
      generalize H1 = H at hP hS ⊢
      refine lv_iconst (v := 1) hx hb dX10_lay_42 rfl ?_
      have hpost : (1 : Int32) = if 0 ≤ (nI kk).toInt ∧ (nI kk).toInt < 4 then (if fl (nI kk).toNatClampNeg = -1 then -11 else if 0 ≤ i.toInt ∧ i.toInt < (fz (nI kk).toNatClampNeg).toInt then 1 else -12) else -1 := by
        have t_b4 := b4
        have t_hkk := hkk
        have t_b8 := b8
        have t_n0 : (nI kk).toInt = (kk : Int) := tn390_ ()
        rw [nI_clamp (by omega), if_pos (by omega)]
        have q9 := w6
        simp only [l_ii] at q9
        have c9 : r5 = 0 := by assumption
        rw [c9] at q9
        split at q9
        · exact absurd q9 (by decide)
        · rename_i d; rw [if_neg d]; split at q9
          · exact absurd q9 (by decide)
          · rename_i g; rw [if_pos (by omega)]
      obtain ⟨hP9, hD9⟩ := va_sub2 (ws' := (([(h0, .inr (10, [.ref rd, .ref wy, .ref tr, .ref im, .ref kp, .ref od, .ref ch, .ref cr, .ref le, .ref mk, .ref tl, .ref sh, .int tf, .int rf])), (sh, .inr (6, [.ref la, .ref si, .ref ce, .int x8, .int x9, .ref fi, .ref se])), (la, .inl (G 0, 4, .inl fl)), (si, .inl (G 0, 4, .inl fz)), (ce, .inl (G 4, 4, .inr (.inr (.inr (.inr (fun ir => if ir < 4 then some (rc ir) else none))))))] : va_W) ++ ((((List.range 4).map (fun iq => (rc iq, .inl (G 0, 40, .inl (u11 iq))))) : va_W) ++ []))) hP hD [0, 1, 2, 3, 4, 5, 6, 7, 8] (by decide +kernel) rfl
      refine W.widen (k := 0) (n := 0) (Nat.le_of_ble_eq_true rfl) (Nat.le_of_ble_eq_true rfl) ?_
      exact W.iret (v := 1) hx hb hr (fun t ht hW => ⟨⟨1, u11, rfl, ⟨hpost, trivial⟩, ⟨by rw [ht]; exact hP9, hD9⟩⟩, hS.F ht⟩) hS.2.2 dX10_lay_43
    · skip
      refine lv_bipush (v := (-10)) hx hb dX10_lay_26 rfl ?_
      refine lv_iload hx hb dX10_lay_28 (lv_at hl 0 rfl) ?_
      refine lv_isub hx hb dX10_lay_30 ?_
      have hpost : ((-10) - r5 : Int32) = if 0 ≤ (nI kk).toInt ∧ (nI kk).toInt < 4 then (if fl (nI kk).toNatClampNeg = -1 then -11 else if 0 ≤ i.toInt ∧ i.toInt < (fz (nI kk).toNatClampNeg).toInt then 1 else -12) else -1 := by
        have t_b4 := b4
        have t_hkk := hkk
        have t_c7 := neI c7
        have : (0 : Int32).toInt = 0 := qI_0
        have t_n0 : (nI kk).toInt = (kk : Int) := tn390_ ()
        rw [nI_clamp (by omega), if_pos (by omega)]
        have q9 := w6
        simp only [l_ii] at q9
        split at q9
        · rename_i d; rw [q9, if_pos d]; decide
        · rename_i d; rw [if_neg d]; split at q9
          · rename_i g; rw [q9, if_neg (by omega)]; decide
          · exact absurd q9 (by first | with_reducible assumption | assumption)
      obtain ⟨hP9, hD9⟩ := va_sub2 (ws' := (([(h0, .inr (10, [.ref rd, .ref wy, .ref tr, .ref im, .ref kp, .ref od, .ref ch, .ref cr, .ref le, .ref mk, .ref tl, .ref sh, .int tf, .int rf])), (sh, .inr (6, [.ref la, .ref si, .ref ce, .int x8, .int x9, .ref fi, .ref se])), (la, .inl (G 0, 4, .inl fl)), (si, .inl (G 0, 4, .inl fz)), (ce, .inl (G 4, 4, .inr (.inr (.inr (.inr (fun ir => if ir < 4 then some (rc ir) else none))))))] : va_W) ++ ((((List.range 4).map (fun iq => (rc iq, .inl (G 0, 40, .inl (F iq))))) : va_W) ++ []))) hP hD [0, 1, 2, 3, 4, 5, 6, 7, 8] (by decide +kernel) rfl
      refine W.widen (k := 0) (n := 0) (Nat.le_of_ble_eq_true rfl) (Nat.le_of_ble_eq_true rfl) ?_
      exact W.iret (v := (-10) - r5) hx hb hr (fun t ht hW => ⟨⟨(-10) - r5, F, rfl, ⟨hpost, trivial⟩, ⟨by rw [ht]; exact hP9, hD9⟩⟩, hS.F ht⟩) hS.2.2 dX10_lay_31
  · skip
    have b12 := if10_n c3
    refine lv_iconst (v := (-1)) hx hb dX10_lay_7 rfl ?_
    have hpost : ((-1) : Int32) = if 0 ≤ k.toInt ∧ k.toInt < 4 then (if fl k.toNatClampNeg = -1 then -11 else if 0 ≤ i.toInt ∧ i.toInt < (fz k.toNatClampNeg).toInt then 1 else -12) else -1 := by
      have t_b12 := b12
      rw [if_neg (by omega)]
    obtain ⟨hP9, hD9⟩ := va_sub2 (ws' := (([(h0, .inr (10, [.ref rd, .ref wy, .ref tr, .ref im, .ref kp, .ref od, .ref ch, .ref cr, .ref le, .ref mk, .ref tl, .ref sh, .int tf, .int rf])), (sh, .inr (6, [.ref la, .ref si, .ref ce, .int x8, .int x9, .ref fi, .ref se])), (la, .inl (G 0, 4, .inl fl)), (si, .inl (G 0, 4, .inl fz)), (ce, .inl (G 4, 4, .inr (.inr (.inr (.inr (fun ir => if ir < 4 then some (rc ir) else none))))))] : va_W) ++ ((((List.range 4).map (fun iq => (rc iq, .inl (G 0, 40, .inl (F iq))))) : va_W) ++ []))) hP hD [0, 1, 2, 3, 4, 5, 6, 7, 8] (by decide +kernel) rfl
    refine W.widen (k := 0) (n := 0) (Nat.le_of_ble_eq_true rfl) (Nat.le_of_ble_eq_true rfl) ?_
    exact W.iret (v := (-1)) hx hb hr (fun t ht hW => ⟨⟨(-1), F, rfl, ⟨hpost, trivial⟩, ⟨by rw [ht]; exact hP9, hD9⟩⟩, hS.F ht⟩) hS.2.2 dX10_lay_8

set_option maxHeartbeats 1000000 in
set_option maxRecDepth 100000 in
theorem c_X6_takePairs (l : Launch) (dC : Nat → ClassId) (dI : Nat → Nat → Nat) (G : Nat → ClassId) (sz : Nat) (h0 la si ce fi se k nn : Nat) (x8 x9 lane x1 : Int32) (fl fz f1 f2 : Nat → Int32) (rc : Nat → Nat) (F : Nat → Nat → Int32) (hk : k < 4) (hnn : nn ≤ 20) (hz : ∀ q : Nat, q < 4 → 0 ≤ (fz q).toInt ∧ (fz q).toInt ≤ 40) : Met l yX6_takePairs (Cond.code yX6_takePairs cX6_takePairs 8 none :: GT) ({ frames := 1, cells := 0, slots := 0, locals := 23 } : Room) (PcW [.ref h0, .int (nI k), .int lane, .int x1, .int (nI nn)] dC dI G (([(h0, .inr (6, [.ref la, .ref si, .ref ce, .int x8, .int x9, .ref fi, .ref se])), (la, .inl (G 0, 4, .inl fl)), (si, .inl (G 0, 4, .inl fz)), (ce, .inl (G 4, 4, .inr (.inr (.inr (.inr (fun ir => if ir < 4 then some (rc ir) else none)))))), (fi, .inl (G 0, 20, .inl f1)), (se, .inl (G 0, 20, .inl f2))] : va_W) ++ ((((List.range 4).map (fun iq => (rc iq, .inl (G 0, 40, .inl (F iq))))) : va_W) ++ [])) sz) (va_Qv (fun (u : Int32 × Nat × (Nat → Int32) × (Nat → Int32)) => match u with | (u0, u1, u2, u3) => u1 ≤ 20) (fun (u : Int32 × Nat × (Nat → Int32) × (Nat → Int32)) (t : State) => match u with | (u0, u1, u2, u3) => va_P (dC, dI) vwCl (([(h0, .inr (6, [.ref la, .ref si, .ref ce, .int u0, .int (nI u1), .ref fi, .ref se])), (la, .inl (G 0, 4, .inl fl)), (si, .inl (G 0, 4, .inl fz)), (ce, .inl (G 4, 4, .inr (.inr (.inr (.inr (fun ir => if ir < 4 then some (rc ir) else none)))))), (fi, .inl (G 0, 20, .inl u2)), (se, .inl (G 0, 20, .inl u3))] : va_W) ++ ((((List.range 4).map (fun iq => (rc iq, .inl (G 0, 40, .inl (F iq))))) : va_W) ++ [])) t.heap ∧ va_D (va_A (([(h0, .inr (6, [.ref la, .ref si, .ref ce, .int x8, .int x9, .ref fi, .ref se])), (la, .inl (G 0, 4, .inl fl)), (si, .inl (G 0, 4, .inl fz)), (ce, .inl (G 4, 4, .inr (.inr (.inr (.inr (fun ir => if ir < 4 then some (rc ir) else none)))))), (fi, .inl (G 0, 20, .inl f1)), (se, .inl (G 0, 20, .inl f2))] : va_W) ++ ((((List.range 4).map (fun iq => (rc iq, .inl (G 0, 40, .inl (F iq))))) : va_W) ++ [])) sz) (([(h0, .inr (6, [.ref la, .ref si, .ref ce, .int u0, .int (nI u1), .ref fi, .ref se])), (la, .inl (G 0, 4, .inl fl)), (si, .inl (G 0, 4, .inl fz)), (ce, .inl (G 4, 4, .inr (.inr (.inr (.inr (fun ir => if ir < 4 then some (rc ir) else none)))))), (fi, .inl (G 0, 20, .inl u2)), (se, .inl (G 0, 20, .inl u3))] : va_W) ++ ((((List.range 4).map (fun iq => (rc iq, .inl (G 0, 40, .inl (F iq))))) : va_W) ++ []))) (va_A (([(h0, .inr (6, [.ref la, .ref si, .ref ce, .int x8, .int x9, .ref fi, .ref se])), (la, .inl (G 0, 4, .inl fl)), (si, .inl (G 0, 4, .inl fz)), (ce, .inl (G 4, 4, .inr (.inr (.inr (.inr (fun ir => if ir < 4 then some (rc ir) else none)))))), (fi, .inl (G 0, 20, .inl f1)), (se, .inl (G 0, 20, .inl f2))] : va_W) ++ ((((List.range 4).map (fun iq => (rc iq, .inl (G 0, 40, .inl (F iq))))) : va_W) ++ [])) sz)) 0 0 (va_A (([(h0, .inr (6, [.ref la, .ref si, .ref ce, .int x8, .int x9, .ref fi, .ref se])), (la, .inl (G 0, 4, .inl fl)), (si, .inl (G 0, 4, .inl fz)), (ce, .inl (G 4, 4, .inr (.inr (.inr (.inr (fun ir => if ir < 4 then some (rc ir) else none)))))), (fi, .inl (G 0, 20, .inl f1)), (se, .inl (G 0, 20, .inl f2))] : va_W) ++ ((((List.range 4).map (fun iq => (rc iq, .inl (G 0, 40, .inl (F iq))))) : va_W) ++ [])) sz) := by
  refine Met.ofW (cc := cX6_takePairs) (maxL := 8) (ret := none) (by decide) rfl ?_
  intro p e s m args below meth c s₁ Bd hml hv
  obtain ⟨rfl, hsz, hP, hK, hD0⟩ := hv
  have hx := Bd.exec
  have hb := Bd.bytes
  have hr := Bd.returns
  have hg : ∀ w ∈ GT, w.before ([.ref h0, .int (nI k), .int lane, .int x1, .int (nI nn)] : List Value).toArray s = true := fun w h => atoms_spec (ws := Cond.code yX6_takePairs cX6_takePairs 8 none :: GT) Bd.pre w (List.mem_cons_of_mem _ h)
  have hown : s.vm.findClass RX6 = some m.cls := findClass_of_methodNamed Bd.named
  have hlocks := Bd.notSynchronized
  subst hsz
  have hD := hD0.self (sz := s.heap.size)
  generalize hAe : va_A (([(h0, .inr (6, [.ref la, .ref si, .ref ce, .int x8, .int x9, .ref fi, .ref se])), (la, .inl (G 0, 4, .inl fl)), (si, .inl (G 0, 4, .inl fz)), (ce, .inl (G 4, 4, .inr (.inr (.inr (.inr (fun ir => if ir < 4 then some (rc ir) else none)))))), (fi, .inl (G 0, 20, .inl f1)), (se, .inl (G 0, 20, .inl f2))] : va_W) ++ ((((List.range 4).map (fun iq => (rc iq, .inl (G 0, 40, .inl (F iq))))) : va_W) ++ [])) s.heap.size = A at hD ⊢
  have hA : ∀ q : Nat, s.heap.size ≤ q → A q := fun q h => by rw [← hAe]; exact Or.inr h
  have hS : va_S A s.heap s.heap [] := va_S.rf
  have hl := lv_entry ([.ref h0, .int (nI k), .int lane, .int x1, .int (nI nn)]) (n := 8) (Nat.le_of_ble_eq_true rfl)
  rw [lg_entry_eq]
  generalize (lg_sl ([.ref h0, .int (nI k), .int lane, .int x1, .int (nI nn)]) ++ List.replicate (8 - (lg_sl ([.ref h0, .int (nI k), .int lane, .int x1, .int (nI nn)])).length) Slot.unset).toArray = ls at hl ⊢
  have hl : lv_has ls 8 [(0, .ref h0), (1, .int (nI k)), (2, .int lane), (3, .int x1), (4, .int (nI nn))] := hl
  have hzk := hz k hk
  refine lv_aload_n hx hb dX6_takePairs_0 rfl (lv_at hl 0 rfl) ?_
  refine lv_iconst (v := 0) hx hb dX6_takePairs_1 rfl ?_
  refine va_put (D := (dC, dI)) (ci := 6) (v := .int 0) (ty := .int) (C := RX6) (T := TX6) (N := 7) hx hb hg inG6 tyX6 tyX6_ok nmX6 hown hK.1 hP hD hS 0 rfl rfl 4 (Nat.le_of_ble_eq_true rfl) (hg _ wt_281) (fun _ h9 => h9) rfl (by decide +kernel) rfl rfl (Nat.le_of_ble_eq_true rfl) dX6_takePairs_2 (fun H locs hP hD hS => ?_)
  obtain ⟨hP, hD⟩ := va_rls (ws' := (([(h0, .inr (6, [.ref la, .ref si, .ref ce, .int x8, .int 0, .ref fi, .ref se])), (la, .inl (G 0, 4, .inl fl)), (si, .inl (G 0, 4, .inl fz)), (ce, .inl (G 4, 4, .inr (.inr (.inr (.inr (fun ir => if ir < 4 then some (rc ir) else none)))))), (fi, .inl (G 0, 20, .inl f1)), (se, .inl (G 0, 20, .inl f2))] : va_W) ++ ((((List.range 4).map (fun iq => (rc iq, .inl (G 0, 40, .inl (F iq))))) : va_W) ++ []))) hP hD rfl
  refine lv_aload_n hx hb dX6_takePairs_5 rfl (lv_at hl 0 rfl) ?_
  refine lv_aload_n hx hb dX6_takePairs_6 rfl (lv_at hl 0 rfl) ?_
  refine va_get (D := (dC, dI)) (ci := 6) (v := .ref la) (C := RX6) (T := TX6) (N := 7) hx hb hg inG6 hown hK.1 hP 0 rfl rfl 0 (Nat.le_of_ble_eq_true rfl) (hg _ wt_276) (fun _ h9 => h9) rfl dX6_takePairs_7 ?_
  refine lv_iload_n hx hb dX6_takePairs_10 rfl (lv_at hl 1 rfl) ?_
  have tn391_ : nIT k := fun _ => nI_toInt (by omega)
  have tn392_ : nIT nn := fun _ => nI_toInt (by omega)
  refine va_iald hx hb hK.1 hP 1 0 rfl rfl (vp_in_nI (by first | omega | (have tnb_ := nib2 tn391_ tn392_; omega)) (by decide)) dX6_takePairs_11 ?_
  refine lv_cg (y := fl k) (by rw [nI_clamp (by omega)]) ?_
  refine lv_iconst (v := (-1)) hx hb dX6_takePairs_12 rfl ?_
  have cut31_3 : ∀ (k2 : Nat) (H : Heap) (locs : List Loc), k2 ≤ 3 → va_P (dC, dI) vwCl (([(h0, .inr (6, [.ref la, .ref si, .ref ce, .int x8, .int 0, .ref fi, .ref se])), (la, .inl (G 0, 4, .inl fl)), (si, .inl (G 0, 4, .inl fz)), (ce, .inl (G 4, 4, .inr (.inr (.inr (.inr (fun ir => if ir < 4 then some (rc ir) else none)))))), (fi, .inl (G 0, 20, .inl f1)), (se, .inl (G 0, 20, .inl f2))] : va_W) ++ ((((List.range 4).map (fun iq => (rc iq, .inl (G 0, 40, .inl (F iq))))) : va_W) ++ [])) H → va_D A (([(h0, .inr (6, [.ref la, .ref si, .ref ce, .int x8, .int 0, .ref fi, .ref se])), (la, .inl (G 0, 4, .inl fl)), (si, .inl (G 0, 4, .inl fz)), (ce, .inl (G 4, 4, .inr (.inr (.inr (.inr (fun ir => if ir < 4 then some (rc ir) else none)))))), (fi, .inl (G 0, 20, .inl f1)), (se, .inl (G 0, 20, .inl f2))] : va_W) ++ ((((List.range 4).map (fun iq => (rc iq, .inl (G 0, 40, .inl (F iq))))) : va_W) ++ [])) → va_S A s.heap H locs → ∀ (ls : Array Slot), lv_has ls 8 [(0, .ref h0), (1, .int (nI k)), (2, .int lane), (3, .int x1), (4, .int (nI nn))] → W p l e (headSpec (Cond.code yX6_takePairs cX6_takePairs 8 none :: GT) ({ frames := 1, cells := 0, slots := 0, locals := 23 } : Room)).room s m ([.ref h0, .int (nI k), .int lane, .int x1, .int (nI nn)] : List Value).toArray below meth c H locs 0 0 (MQ below (va_Qv (fun (u : Int32 × Nat × (Nat → Int32) × (Nat → Int32)) => match u with | (u0, u1, u2, u3) => u1 ≤ 20) (fun (u : Int32 × Nat × (Nat → Int32) × (Nat → Int32)) (t : State) => match u with | (u0, u1, u2, u3) => va_P (dC, dI) vwCl (([(h0, .inr (6, [.ref la, .ref si, .ref ce, .int u0, .int (nI u1), .ref fi, .ref se])), (la, .inl (G 0, 4, .inl fl)), (si, .inl (G 0, 4, .inl fz)), (ce, .inl (G 4, 4, .inr (.inr (.inr (.inr (fun ir => if ir < 4 then some (rc ir) else none)))))), (fi, .inl (G 0, 20, .inl u2)), (se, .inl (G 0, 20, .inl u3))] : va_W) ++ ((((List.range 4).map (fun iq => (rc iq, .inl (G 0, 40, .inl (F iq))))) : va_W) ++ [])) t.heap ∧ va_D A (([(h0, .inr (6, [.ref la, .ref si, .ref ce, .int u0, .int (nI u1), .ref fi, .ref se])), (la, .inl (G 0, 4, .inl fl)), (si, .inl (G 0, 4, .inl fz)), (ce, .inl (G 4, 4, .inr (.inr (.inr (.inr (fun ir => if ir < 4 then some (rc ir) else none)))))), (fi, .inl (G 0, 20, .inl u2)), (se, .inl (G 0, 20, .inl u3))] : va_W) ++ ((((List.range 4).map (fun iq => (rc iq, .inl (G 0, 40, .inl (F iq))))) : va_W) ++ []))) A) ([.ref h0, .int (nI k), .int lane, .int x1, .int (nI nn)] : List Value).toArray s 0 0 A) (F0 m 31 ls [.int (nI k2), .ref h0]) := by
    intro k2 H locs hb_k2 hP hD hS ls hl
    refine va_put (D := (dC, dI)) (ci := 6) (v := .int (nI k2)) (ty := .int) (C := RX6) (T := TX6) (N := 7) hx hb hg inG6 tyX6 tyX6_ok nmX6 hown hK.1 hP hD hS 0 rfl rfl 3 (Nat.le_of_ble_eq_true rfl) (hg _ wt_279) (fun _ h9 => h9) rfl (by decide +kernel) rfl rfl (Nat.le_of_ble_eq_true rfl) dX6_takePairs_31 (fun H locs hP hD hS => ?_)
    obtain ⟨hP, hD⟩ := va_rls (ws' := (([(h0, .inr (6, [.ref la, .ref si, .ref ce, .int (nI k2), .int 0, .ref fi, .ref se])), (la, .inl (G 0, 4, .inl fl)), (si, .inl (G 0, 4, .inl fz)), (ce, .inl (G 4, 4, .inr (.inr (.inr (.inr (fun ir => if ir < 4 then some (rc ir) else none)))))), (fi, .inl (G 0, 20, .inl f1)), (se, .inl (G 0, 20, .inl f2))] : va_W) ++ ((((List.range 4).map (fun iq => (rc iq, .inl (G 0, 40, .inl (F iq))))) : va_W) ++ []))) hP hD rfl
    refine lv_iconst (v := 0) hx hb dX6_takePairs_34 rfl ?_
    refine lv_istore (lv' := [(5, .int 0), (0, .ref h0), (1, .int (nI k)), (2, .int lane), (3, .int x1), (4, .int (nI nn))]) hx hb dX6_takePairs_35 hl (by decide) rfl (fun ls hl => ?_)
    have loop37_10 : ∀ (nf j4 : Nat), 20 + 1 ≤ j4 + nf → j4 ≤ 20 → ∀ (y5 : Int32) (k7 : Nat) (g8 : Nat → Int32) (g9 : Nat → Int32) (H : Heap) (locs : List Loc), k7 ≤ j4 → va_P (dC, dI) vwCl (([(h0, .inr (6, [.ref la, .ref si, .ref ce, .int y5, .int (nI k7), .ref fi, .ref se])), (la, .inl (G 0, 4, .inl fl)), (si, .inl (G 0, 4, .inl fz)), (ce, .inl (G 4, 4, .inr (.inr (.inr (.inr (fun ir => if ir < 4 then some (rc ir) else none)))))), (fi, .inl (G 0, 20, .inl g8)), (se, .inl (G 0, 20, .inl g9))] : va_W) ++ ((((List.range 4).map (fun iq => (rc iq, .inl (G 0, 40, .inl (F iq))))) : va_W) ++ [])) H → va_D A (([(h0, .inr (6, [.ref la, .ref si, .ref ce, .int y5, .int (nI k7), .ref fi, .ref se])), (la, .inl (G 0, 4, .inl fl)), (si, .inl (G 0, 4, .inl fz)), (ce, .inl (G 4, 4, .inr (.inr (.inr (.inr (fun ir => if ir < 4 then some (rc ir) else none)))))), (fi, .inl (G 0, 20, .inl g8)), (se, .inl (G 0, 20, .inl g9))] : va_W) ++ ((((List.range 4).map (fun iq => (rc iq, .inl (G 0, 40, .inl (F iq))))) : va_W) ++ [])) → va_S A s.heap H locs → ∀ (ls : Array Slot), lv_has ls 8 [(5, .int (nI j4)), (0, .ref h0), (1, .int (nI k)), (2, .int lane), (3, .int x1), (4, .int (nI nn))] → W p l e (headSpec (Cond.code yX6_takePairs cX6_takePairs 8 none :: GT) ({ frames := 1, cells := 0, slots := 0, locals := 23 } : Room)).room s m ([.ref h0, .int (nI k), .int lane, .int x1, .int (nI nn)] : List Value).toArray below meth c H locs 0 0 (MQ below (va_Qv (fun (u : Int32 × Nat × (Nat → Int32) × (Nat → Int32)) => match u with | (u0, u1, u2, u3) => u1 ≤ 20) (fun (u : Int32 × Nat × (Nat → Int32) × (Nat → Int32)) (t : State) => match u with | (u0, u1, u2, u3) => va_P (dC, dI) vwCl (([(h0, .inr (6, [.ref la, .ref si, .ref ce, .int u0, .int (nI u1), .ref fi, .ref se])), (la, .inl (G 0, 4, .inl fl)), (si, .inl (G 0, 4, .inl fz)), (ce, .inl (G 4, 4, .inr (.inr (.inr (.inr (fun ir => if ir < 4 then some (rc ir) else none)))))), (fi, .inl (G 0, 20, .inl u2)), (se, .inl (G 0, 20, .inl u3))] : va_W) ++ ((((List.range 4).map (fun iq => (rc iq, .inl (G 0, 40, .inl (F iq))))) : va_W) ++ [])) t.heap ∧ va_D A (([(h0, .inr (6, [.ref la, .ref si, .ref ce, .int u0, .int (nI u1), .ref fi, .ref se])), (la, .inl (G 0, 4, .inl fl)), (si, .inl (G 0, 4, .inl fz)), (ce, .inl (G 4, 4, .inr (.inr (.inr (.inr (fun ir => if ir < 4 then some (rc ir) else none)))))), (fi, .inl (G 0, 20, .inl u2)), (se, .inl (G 0, 20, .inl u3))] : va_W) ++ ((((List.range 4).map (fun iq => (rc iq, .inl (G 0, 40, .inl (F iq))))) : va_W) ++ []))) A) ([.ref h0, .int (nI k), .int lane, .int x1, .int (nI nn)] : List Value).toArray s 0 0 A) (F0 m 37 ls []) := by
      intro nf
      induction nf with
      | zero => intro j4 h1 h2; exact absurd h1 (by omega)
      | succ nf ih37_10 =>
        intro j4 hn11 hj12 y5 k7 g8 g9 H locs hinv hP hD hS ls hl
        refine lv_iload hx hb dX6_takePairs_37 (lv_at hl 0 rfl) ?_
        refine lv_iload hx hb dX6_takePairs_39 (lv_at hl 5 rfl) ?_
        have cut160_13 : ∀ (H : Heap) (locs : List Loc), va_P (dC, dI) vwCl (([(h0, .inr (6, [.ref la, .ref si, .ref ce, .int y5, .int (nI k7), .ref fi, .ref se])), (la, .inl (G 0, 4, .inl fl)), (si, .inl (G 0, 4, .inl fz)), (ce, .inl (G 4, 4, .inr (.inr (.inr (.inr (fun ir => if ir < 4 then some (rc ir) else none)))))), (fi, .inl (G 0, 20, .inl g8)), (se, .inl (G 0, 20, .inl g9))] : va_W) ++ ((((List.range 4).map (fun iq => (rc iq, .inl (G 0, 40, .inl (F iq))))) : va_W) ++ [])) H → va_D A (([(h0, .inr (6, [.ref la, .ref si, .ref ce, .int y5, .int (nI k7), .ref fi, .ref se])), (la, .inl (G 0, 4, .inl fl)), (si, .inl (G 0, 4, .inl fz)), (ce, .inl (G 4, 4, .inr (.inr (.inr (.inr (fun ir => if ir < 4 then some (rc ir) else none)))))), (fi, .inl (G 0, 20, .inl g8)), (se, .inl (G 0, 20, .inl g9))] : va_W) ++ ((((List.range 4).map (fun iq => (rc iq, .inl (G 0, 40, .inl (F iq))))) : va_W) ++ [])) → va_S A s.heap H locs → ∀ (ls : Array Slot), lv_has ls 8 [(5, .int (nI j4)), (0, .ref h0), (1, .int (nI k)), (2, .int lane), (3, .int x1), (4, .int (nI nn))] → W p l e (headSpec (Cond.code yX6_takePairs cX6_takePairs 8 none :: GT) ({ frames := 1, cells := 0, slots := 0, locals := 23 } : Room)).room s m ([.ref h0, .int (nI k), .int lane, .int x1, .int (nI nn)] : List Value).toArray below meth c H locs 0 0 (MQ below (va_Qv (fun (u : Int32 × Nat × (Nat → Int32) × (Nat → Int32)) => match u with | (u0, u1, u2, u3) => u1 ≤ 20) (fun (u : Int32 × Nat × (Nat → Int32) × (Nat → Int32)) (t : State) => match u with | (u0, u1, u2, u3) => va_P (dC, dI) vwCl (([(h0, .inr (6, [.ref la, .ref si, .ref ce, .int u0, .int (nI u1), .ref fi, .ref se])), (la, .inl (G 0, 4, .inl fl)), (si, .inl (G 0, 4, .inl fz)), (ce, .inl (G 4, 4, .inr (.inr (.inr (.inr (fun ir => if ir < 4 then some (rc ir) else none)))))), (fi, .inl (G 0, 20, .inl u2)), (se, .inl (G 0, 20, .inl u3))] : va_W) ++ ((((List.range 4).map (fun iq => (rc iq, .inl (G 0, 40, .inl (F iq))))) : va_W) ++ [])) t.heap ∧ va_D A (([(h0, .inr (6, [.ref la, .ref si, .ref ce, .int u0, .int (nI u1), .ref fi, .ref se])), (la, .inl (G 0, 4, .inl fl)), (si, .inl (G 0, 4, .inl fz)), (ce, .inl (G 4, 4, .inr (.inr (.inr (.inr (fun ir => if ir < 4 then some (rc ir) else none)))))), (fi, .inl (G 0, 20, .inl u2)), (se, .inl (G 0, 20, .inl u3))] : va_W) ++ ((((List.range 4).map (fun iq => (rc iq, .inl (G 0, 40, .inl (F iq))))) : va_W) ++ []))) A) ([.ref h0, .int (nI k), .int lane, .int x1, .int (nI nn)] : List Value).toArray s 0 0 A) (F0 m 160 ls []) := by
          intro  H locs hP hD hS ls hl
          obtain ⟨hP9, hD9⟩ := va_sub2 (ws' := (([(h0, .inr (6, [.ref la, .ref si, .ref ce, .int y5, .int (nI k7), .ref fi, .ref se])), (la, .inl (G 0, 4, .inl fl)), (si, .inl (G 0, 4, .inl fz)), (ce, .inl (G 4, 4, .inr (.inr (.inr (.inr (fun ir => if ir < 4 then some (rc ir) else none)))))), (fi, .inl (G 0, 20, .inl g8)), (se, .inl (G 0, 20, .inl g9))] : va_W) ++ ((((List.range 4).map (fun iq => (rc iq, .inl (G 0, 40, .inl (F iq))))) : va_W) ++ []))) hP hD [0, 1, 2, 3, 4, 5, 6, 7, 8, 9] (by decide +kernel) rfl
          refine W.widen (k := 0) (n := 0) (Nat.le_of_ble_eq_true rfl) (Nat.le_of_ble_eq_true rfl) ?_
          have tn393_ : nIT k2 := fun _ => nI_toInt (by first | omega | (have t_hb_k2 := hb_k2; have t_hj12 := hj12; have t_hinv := hinv; omega))
          have tn394_ : nIT j4 := fun _ => nI_toInt (by first | omega | (have t_hb_k2 := hb_k2; have t_hj12 := hj12; have t_hinv := hinv; omega))
          have tn395_ : nIT k7 := fun _ => nI_toInt (by first | omega | (have t_hb_k2 := hb_k2; have t_hj12 := hj12; have t_hinv := hinv; omega))
          exact W.vret hx hb hr (fun t ht hW => ⟨⟨(y5, k7, g8, g9), rfl, (by have t_hb_k2 := hb_k2; have t_hj12 := hj12; have t_hinv := hinv; have tnb_ := nib5 tn391_ tn392_ tn393_ tn394_ tn395_; omega), ⟨by rw [ht]; exact hP9, hD9⟩⟩, hS.F ht⟩) hS.2.2 dX6_takePairs_160
        refine lv_icmp_ge (tgt := 160) hx hb dX6_takePairs_41 rfl (fun c14 => ?_) (fun c14 => ?_)
        · skip
          have tn396_ : nIT j4 := fun _ => nI_toInt (by first | omega | (have t := leI c14; omega))
          have n15 : nn ≤ j4 := by have t := leI c14; rw [show (nI (j4)).toInt = ((j4 : Nat) : Int) from tn396_ ()] at t; rw [show (nI (nn)).toInt = ((nn : Nat) : Int) from tn392_ ()] at t; omega
          exact cut160_13  _ _ hP hD hS ls (lv_sub hl [0, 1, 2, 3, 4, 5] rfl)
        · skip
          have tn397_ : nIT j4 := fun _ => nI_toInt (by first | omega | (have t := nleI c14; omega))
          have n16 : j4 < nn := by have t := nleI c14; rw [show (nI (j4)).toInt = ((j4 : Nat) : Int) from tn397_ ()] at t; rw [show (nI (nn)).toInt = ((nn : Nat) : Int) from tn392_ ()] at t; omega
          refine lv_iload hx hb dX6_takePairs_44 (lv_at hl 0 rfl) ?_
          refine lv_bipush (v := 20) hx hb dX6_takePairs_46 rfl ?_
          refine lv_icmp_ge (tgt := 160) hx hb dX6_takePairs_48 rfl (fun c17 => ?_) (fun c17 => ?_)
          · skip
            have t_hb_k2 := hb_k2
            have t_hj12 := hj12
            have t_hinv := hinv
            have t_n16 := n16
            have t_c17 := leI c17
            have : (20 : Int32).toInt = 20 := qI_20
            have t_n0 : (nI k).toInt = (k : Int) := tn391_ ()
            have t_n1 : (nI nn).toInt = (nn : Int) := tn392_ ()
            have tn398_ : nIT k2 := fun _ => nI_toInt (by omega)
            have t_n2 : (nI k2).toInt = (k2 : Int) := tn398_ ()
            have t_n3 : (nI j4).toInt = (j4 : Int) := tn397_ ()
            have tn399_ : nIT k7 := fun _ => nI_toInt (by omega)
            have t_n4 : (nI k7).toInt = (k7 : Int) := tn399_ ()
            exfalso; omega
          · skip
            have n18 : j4 < 20 := by have t := nleI c17; rw [show (nI (j4)).toInt = ((j4 : Nat) : Int) from tn397_ ()] at t; have : (20 : Int32).toInt = 20 := qI_20; omega
            refine lv_aload_n hx hb dX6_takePairs_51 rfl (lv_at hl 1 rfl) ?_
            refine va_get (D := (dC, dI)) (ci := 6) (v := .int y5) (C := RX6) (T := TX6) (N := 7) hx hb hg inG6 hown hK.1 hP 0 rfl rfl 3 (Nat.le_of_ble_eq_true rfl) (hg _ wt_279) (fun _ h9 => h9) rfl dX6_takePairs_52 ?_
            refine lv_if_ne (tgt := 160) hx hb dX6_takePairs_55 rfl (fun c19 => ?_) (fun c19 => ?_)
            · skip
              exact cut160_13  _ _ hP hD hS ls (lv_sub hl [0, 1, 2, 3, 4, 5] rfl)
            · skip
              refine lv_iload_n hx hb dX6_takePairs_58 rfl (lv_at hl 4 rfl) ?_
              refine lv_i2l (v := x1.toInt64) hx hb dX6_takePairs_59 rfl ?_
              refine lv_ldc2 (v := 2) hx hb hown (hg _ wt_855) dX6_takePairs_60 ?_
              refine lv_iload hx hb dX6_takePairs_63 (lv_at hl 0 rfl) ?_
              refine lv_i2l (v := (nI j4).toInt64) hx hb dX6_takePairs_65 rfl ?_
              refine lv_lmul hx hb dX6_takePairs_66 ?_
              refine lv_ladd hx hb dX6_takePairs_67 ?_
              refine lv_topl (fun v20 ev20 => ?_)
              refine lv_lstore (lv' := [(6, .long v20), (5, .int (nI j4)), (0, .ref h0), (1, .int (nI k)), (2, .int lane), (3, .int x1), (4, .int (nI nn))]) hx hb dX6_takePairs_68 hl (by decide) rfl (fun ls hl => ?_)
              refine lv_aload_n hx hb dX6_takePairs_70 rfl (lv_at hl 2 rfl) ?_
              refine lv_aload_n hx hb dX6_takePairs_71 rfl (lv_at hl 2 rfl) ?_
              refine lv_iload_n hx hb dX6_takePairs_72 rfl (lv_at hl 3 rfl) ?_
              refine lv_lload hx hb dX6_takePairs_73 (lv_at hl 0 rfl) ?_
              have hPc := hP.sub (ws' := [(h0, .inr (6, [.ref la, .ref si, .ref ce, .int y5, .int (nI k7), .ref fi, .ref se])), (la, .inl (G 0, 4, .inl fl)), (si, .inl (G 0, 4, .inl fz))]) [0, 1, 2] rfl
              have tn400_ : nIT k2 := fun _ => nI_toInt (by first | omega | (have t_hb_k2 := hb_k2; have t_hj12 := hj12; have t_hinv := hinv; have t_n16 := n16; have t_n18 := n18; have t_c19 := eqI c19; have : (0 : Int32).toInt = 0 := qI_0; omega))
              have tn401_ : nIT k7 := fun _ => nI_toInt (by first | omega | (have t_hb_k2 := hb_k2; have t_hj12 := hj12; have t_hinv := hinv; have t_n16 := n16; have t_n18 := n18; have t_c19 := eqI c19; have : (0 : Int32).toInt = 0 := qI_0; omega))
              refine va_calli (va_runV (As := [.int (nI k), .long v20]) (rest := [.ref h0]) ⟨hx, hb, hml, hown, hg⟩ (c_X6_faultAt l dC dI G _ h0 la si ce fi se k y5 (nI k7) v20 fl fz hk) (kwV hg mfX6_faultAt wt_846 ⟨Nat.le_of_ble_eq_true rfl, Nat.le_of_ble_eq_true rfl⟩) (preVR hK hPc (ci := 6) (r := (RX6, TX6, 7)) rfl rfl) rfl rfl hl.1 rfl (lv_room (Nat.le_of_ble_eq_true rfl)) dX6_takePairs_75 ⟨Nat.le_of_ble_eq_true rfl, Nat.le_of_ble_eq_true rfl⟩) hS (fun q h1 h2 => absurd h2 (Nat.not_le.mpr h1)) (fun q h => hA q (Nat.le_trans hS.1 h)) (fun r21 ur21 t H1 locs ht hvm w22 hB hz1 hk1 hS => ?_)
              have hP := keepR hP hk1
              obtain ⟨w22, w22x⟩ := w22
              refine va_put (D := (dC, dI)) (ci := 6) (v := .int r21) (ty := .int) (C := RX6) (T := TX6) (N := 7) hx hb hg inG6 tyX6 tyX6_ok nmX6 hown hK.1 hP hD hS 0 rfl rfl 3 (Nat.le_of_ble_eq_true rfl) (hg _ wt_279) (fun _ h9 => h9) rfl (by decide +kernel) rfl rfl (Nat.le_of_ble_eq_true rfl) dX6_takePairs_78 (fun H locs hP hD hS => ?_)
              obtain ⟨hP, hD⟩ := va_rls (ws' := (([(h0, .inr (6, [.ref la, .ref si, .ref ce, .int r21, .int (nI k7), .ref fi, .ref se])), (la, .inl (G 0, 4, .inl fl)), (si, .inl (G 0, 4, .inl fz)), (ce, .inl (G 4, 4, .inr (.inr (.inr (.inr (fun ir => if ir < 4 then some (rc ir) else none)))))), (fi, .inl (G 0, 20, .inl g8)), (se, .inl (G 0, 20, .inl g9))] : va_W) ++ ((((List.range 4).map (fun iq => (rc iq, .inl (G 0, 40, .inl (F iq))))) : va_W) ++ []))) hP hD rfl
              refine lv_aload_n hx hb dX6_takePairs_81 rfl (lv_at hl 2 rfl) ?_
              refine va_get (D := (dC, dI)) (ci := 6) (v := .int r21) (C := RX6) (T := TX6) (N := 7) hx hb hg inG6 hown hK.1 hP 0 rfl rfl 3 (Nat.le_of_ble_eq_true rfl) (hg _ wt_279) (fun _ h9 => h9) rfl dX6_takePairs_82 ?_
              refine lv_if_ne (tgt := 101) hx hb dX6_takePairs_85 rfl (fun c23 => ?_) (fun c23 => ?_)
              · skip
                refine lv_aload_n hx hb dX6_takePairs_101 rfl (lv_at hl 2 rfl) ?_
                refine va_get (D := (dC, dI)) (ci := 6) (v := .int r21) (C := RX6) (T := TX6) (N := 7) hx hb hg inG6 hown hK.1 hP 0 rfl rfl 3 (Nat.le_of_ble_eq_true rfl) (hg _ wt_279) (fun _ h9 => h9) rfl dX6_takePairs_102 ?_
                refine lv_if_ne (tgt := 154) hx hb dX6_takePairs_105 rfl (fun c24 => ?_) (fun c24 => ?_)
                · skip
                  refine lv_iinc (v := nI (j4 + 1)) (lv' := [(5, .int (nI (j4 + 1))), (6, .long v20), (0, .ref h0), (1, .int (nI k)), (2, .int lane), (3, .int x1), (4, .int (nI nn))]) hx hb dX6_takePairs_154 hl (k := 1) rfl (by rw [show Int32.ofInt 1 = nI 1 from by decide]; exact nI_add _ _) (by decide) rfl (fun ls hl => ?_)
                  refine lv_goto (tgt := 37) hx hb dX6_takePairs_157 rfl ?_
                  exact ih37_10 (j4 + 1) (by omega) (by omega) r21 k7 g8 g9 _ _ (by omega) hP hD hS ls (lv_sub hl [0, 2, 3, 4, 5, 6] rfl)
                · skip
                  have t_hb_k2 := hb_k2
                  have t_hj12 := hj12
                  have t_hinv := hinv
                  have t_n16 := n16
                  have t_n18 := n18
                  have t_c19 := eqI c19
                  have t_c23 := neI c23
                  have t_c24 := eqI c24
                  have : (0 : Int32).toInt = 0 := qI_0
                  have t_n0 : (nI k).toInt = (k : Int) := tn391_ ()
                  have t_n1 : (nI nn).toInt = (nn : Int) := tn392_ ()
                  have t_n2 : (nI k2).toInt = (k2 : Int) := tn400_ ()
                  have t_n3 : (nI j4).toInt = (j4 : Int) := tn397_ ()
                  have t_n4 : (nI k7).toInt = (k7 : Int) := tn401_ ()
                  exfalso; omega
              · skip
                have b25 := fz0 w22 c23
                refine lv_aload_n hx hb dX6_takePairs_88 rfl (lv_at hl 2 rfl) ?_
                refine lv_aload_n hx hb dX6_takePairs_89 rfl (lv_at hl 2 rfl) ?_
                refine lv_iload_n hx hb dX6_takePairs_90 rfl (lv_at hl 3 rfl) ?_
                refine lv_lload hx hb dX6_takePairs_91 (lv_at hl 0 rfl) ?_
                refine lv_lconst (v := 1) hx hb dX6_takePairs_93 (by decide) ?_
                refine lv_ladd hx hb dX6_takePairs_94 ?_
                have hPc := hP.sub (ws' := [(h0, .inr (6, [.ref la, .ref si, .ref ce, .int r21, .int (nI k7), .ref fi, .ref se])), (la, .inl (G 0, 4, .inl fl)), (si, .inl (G 0, 4, .inl fz))]) [0, 1, 2] rfl
                refine va_calli (va_runV (As := [.int (nI k), .long (v20 + 1)]) (rest := [.ref h0]) ⟨hx, hb, hml, hown, hg⟩ (c_X6_faultAt l dC dI G _ h0 la si ce fi se k r21 (nI k7) (v20 + 1) fl fz hk) (kwV hg mfX6_faultAt wt_846 ⟨Nat.le_of_ble_eq_true rfl, Nat.le_of_ble_eq_true rfl⟩) (preVR hK hPc (ci := 6) (r := (RX6, TX6, 7)) rfl rfl) rfl rfl hl.1 rfl (lv_room (Nat.le_of_ble_eq_true rfl)) dX6_takePairs_95 ⟨Nat.le_of_ble_eq_true rfl, Nat.le_of_ble_eq_true rfl⟩) hS (fun q h1 h2 => absurd h2 (Nat.not_le.mpr h1)) (fun q h => hA q (Nat.le_trans hS.1 h)) (fun r26 ur26 t H1 locs ht hvm w27 hB hz1 hk1 hS => ?_)
                have hP := keepR hP hk1
                obtain ⟨w27, w27x⟩ := w27
                refine va_put (D := (dC, dI)) (ci := 6) (v := .int r26) (ty := .int) (C := RX6) (T := TX6) (N := 7) hx hb hg inG6 tyX6 tyX6_ok nmX6 hown hK.1 hP hD hS 0 rfl rfl 3 (Nat.le_of_ble_eq_true rfl) (hg _ wt_279) (fun _ h9 => h9) rfl (by decide +kernel) rfl rfl (Nat.le_of_ble_eq_true rfl) dX6_takePairs_98 (fun H locs hP hD hS => ?_)
                obtain ⟨hP, hD⟩ := va_rls (ws' := (([(h0, .inr (6, [.ref la, .ref si, .ref ce, .int r26, .int (nI k7), .ref fi, .ref se])), (la, .inl (G 0, 4, .inl fl)), (si, .inl (G 0, 4, .inl fz)), (ce, .inl (G 4, 4, .inr (.inr (.inr (.inr (fun ir => if ir < 4 then some (rc ir) else none)))))), (fi, .inl (G 0, 20, .inl g8)), (se, .inl (G 0, 20, .inl g9))] : va_W) ++ ((((List.range 4).map (fun iq => (rc iq, .inl (G 0, 40, .inl (F iq))))) : va_W) ++ []))) hP hD rfl
                refine lv_aload_n hx hb dX6_takePairs_101 rfl (lv_at hl 2 rfl) ?_
                refine va_get (D := (dC, dI)) (ci := 6) (v := .int r26) (C := RX6) (T := TX6) (N := 7) hx hb hg inG6 hown hK.1 hP 0 rfl rfl 3 (Nat.le_of_ble_eq_true rfl) (hg _ wt_279) (fun _ h9 => h9) rfl dX6_takePairs_102 ?_
                refine lv_if_ne (tgt := 154) hx hb dX6_takePairs_105 rfl (fun c28 => ?_) (fun c28 => ?_)
                · skip
                  refine lv_iinc (v := nI (j4 + 1)) (lv' := [(5, .int (nI (j4 + 1))), (6, .long v20), (0, .ref h0), (1, .int (nI k)), (2, .int lane), (3, .int x1), (4, .int (nI nn))]) hx hb dX6_takePairs_154 hl (k := 1) rfl (by rw [show Int32.ofInt 1 = nI 1 from by decide]; exact nI_add _ _) (by decide) rfl (fun ls hl => ?_)
                  refine lv_goto (tgt := 37) hx hb dX6_takePairs_157 rfl ?_
                  exact ih37_10 (j4 + 1) (by omega) (by omega) r26 k7 g8 g9 _ _ (by omega) hP hD hS ls (lv_sub hl [0, 2, 3, 4, 5, 6] rfl)
                · skip
                  have b29 := fz0 w27 c28
                  refine lv_aload_n hx hb dX6_takePairs_108 rfl (lv_at hl 2 rfl) ?_
                  refine va_get (D := (dC, dI)) (ci := 6) (v := .ref fi) (C := RX6) (T := TX6) (N := 7) hx hb hg inG6 hown hK.1 hP 0 rfl rfl 5 (Nat.le_of_ble_eq_true rfl) (hg _ wt_283) (fun _ h9 => h9) rfl dX6_takePairs_109 ?_
                  refine lv_iload hx hb dX6_takePairs_112 (lv_at hl 1 rfl) ?_
                  refine lv_aload_n hx hb dX6_takePairs_114 rfl (lv_at hl 2 rfl) ?_
                  refine va_get (D := (dC, dI)) (ci := 6) (v := .ref ce) (C := RX6) (T := TX6) (N := 7) hx hb hg inG6 hown hK.1 hP 0 rfl rfl 2 (Nat.le_of_ble_eq_true rfl) (hg _ wt_278) (fun _ h9 => h9) rfl dX6_takePairs_115 ?_
                  refine lv_iload_n hx hb dX6_takePairs_118 rfl (lv_at hl 3 rfl) ?_
                  refine va_aldA hx hb hK.1 hP 3 4 rfl rfl (vp_in_nI (by first | omega | (have t_hb_k2 := hb_k2; have t_hj12 := hj12; have t_hinv := hinv; have t_n16 := n16; have t_n18 := n18; have t_c19 := eqI c19; have t_b25 := b25; have t_b29 := b29; have : (0 : Int32).toInt = 0 := qI_0; have tnb_ := nib5 tn391_ tn392_ tn400_ tn397_ tn401_; omega)) (by decide)) dX6_takePairs_119 ?_
                  refine lv_cgv (y := .ref (rc k)) (rowref (by first | omega | (have t_hb_k2 := hb_k2; have t_hj12 := hj12; have t_hinv := hinv; have t_n16 := n16; have t_n18 := n18; have t_c19 := eqI c19; have t_b25 := b25; have t_b29 := b29; have : (0 : Int32).toInt = 0 := qI_0; have tnb_ := nib5 tn391_ tn392_ tn400_ tn397_ tn401_; omega)) (by decide)) ?_
                  refine lv_lload hx hb dX6_takePairs_120 (lv_at hl 0 rfl) ?_
                  refine lv_l2i (v := _) hx hb dX6_takePairs_122 rfl ?_
                  refine lv_topi (fun v30 ev30 => ?_)
                  have hz31 := l2i_in (x := v20) (by have t_hb_k2 := hb_k2; have t_hj12 := hj12; have t_hinv := hinv; have t_n16 := n16; have t_n18 := n18; have t_c19 := eqI c19; have t_b25 := b25; have t_b29 := b29; have : (0 : Int32).toInt = 0 := qI_0; have tnb_ := nib5 tn391_ tn392_ tn400_ tn397_ tn401_; omega) (by have t_hb_k2 := hb_k2; have t_hj12 := hj12; have t_hinv := hinv; have t_n16 := n16; have t_n18 := n18; have t_c19 := eqI c19; have t_b25 := b25; have t_b29 := b29; have : (0 : Int32).toInt = 0 := qI_0; have tnb_ := nib5 tn391_ tn392_ tn400_ tn397_ tn401_; omega)
                  rw [← ev30] at hz31
                  refine va_iald hx hb hK.1 (blk_P (j := k) hP (by first | omega | (have t_hb_k2 := hb_k2; have t_hj12 := hj12; have t_hinv := hinv; have t_n16 := n16; have t_n18 := n18; have t_c19 := eqI c19; have t_b25 := b25; have t_b29 := b29; have t_hz31 := hz31; have : (0 : Int32).toInt = 0 := qI_0; have tnb_ := nib5 tn391_ tn392_ tn400_ tn397_ tn401_; omega))) 0 0 rfl rfl (vp_in_iff.mpr (by have t_hb_k2 := hb_k2; have t_hj12 := hj12; have t_hinv := hinv; have t_n16 := n16; have t_n18 := n18; have t_c19 := eqI c19; have t_b25 := b25; have t_b29 := b29; have t_hz31 := hz31; have : (0 : Int32).toInt = 0 := qI_0; have tnb_ := nib5 tn391_ tn392_ tn400_ tn397_ tn401_; constructor <;> omega)) dX6_takePairs_123 ?_
                  refine va_iast hx hb hK.1 hP hD hS 4 0 rfl rfl (vp_in_nI (by first | omega | (have t_hb_k2 := hb_k2; have t_hj12 := hj12; have t_hinv := hinv; have t_n16 := n16; have t_n18 := n18; have t_c19 := eqI c19; have t_b25 := b25; have t_b29 := b29; have t_hz31 := hz31; have : (0 : Int32).toInt = 0 := qI_0; have tnb_ := nib5 tn391_ tn392_ tn400_ tn397_ tn401_; omega)) (by decide)) dX6_takePairs_124 (fun H locs hP hD hS => ?_)
                  rw [nI_clamp (by omega)] at hP hD
                  obtain ⟨hP, hD⟩ := va_rls (ws' := (([(h0, .inr (6, [.ref la, .ref si, .ref ce, .int r26, .int (nI k7), .ref fi, .ref se])), (la, .inl (G 0, 4, .inl fl)), (si, .inl (G 0, 4, .inl fz)), (ce, .inl (G 4, 4, .inr (.inr (.inr (.inr (fun ir => if ir < 4 then some (rc ir) else none)))))), (fi, .inl (G 0, 20, .inl (upd g8 j4 (F k v30.toNatClampNeg)))), (se, .inl (G 0, 20, .inl g9))] : va_W) ++ ((((List.range 4).map (fun iq => (rc iq, .inl (G 0, 40, .inl (F iq))))) : va_W) ++ []))) hP hD rfl
                  refine lv_aload_n hx hb dX6_takePairs_125 rfl (lv_at hl 2 rfl) ?_
                  refine va_get (D := (dC, dI)) (ci := 6) (v := .ref se) (C := RX6) (T := TX6) (N := 7) hx hb hg inG6 hown hK.1 hP 0 rfl rfl 6 (Nat.le_of_ble_eq_true rfl) (hg _ wt_285) (fun _ h9 => h9) rfl dX6_takePairs_126 ?_
                  refine lv_iload hx hb dX6_takePairs_129 (lv_at hl 1 rfl) ?_
                  refine lv_aload_n hx hb dX6_takePairs_131 rfl (lv_at hl 2 rfl) ?_
                  refine va_get (D := (dC, dI)) (ci := 6) (v := .ref ce) (C := RX6) (T := TX6) (N := 7) hx hb hg inG6 hown hK.1 hP 0 rfl rfl 2 (Nat.le_of_ble_eq_true rfl) (hg _ wt_278) (fun _ h9 => h9) rfl dX6_takePairs_132 ?_
                  refine lv_iload_n hx hb dX6_takePairs_135 rfl (lv_at hl 3 rfl) ?_
                  refine va_aldA hx hb hK.1 hP 3 4 rfl rfl (vp_in_nI (by first | omega | (have t_hb_k2 := hb_k2; have t_hj12 := hj12; have t_hinv := hinv; have t_n16 := n16; have t_n18 := n18; have t_c19 := eqI c19; have t_b25 := b25; have t_b29 := b29; have t_hz31 := hz31; have : (0 : Int32).toInt = 0 := qI_0; have tnb_ := nib5 tn391_ tn392_ tn400_ tn397_ tn401_; omega)) (by decide)) dX6_takePairs_136 ?_
                  refine lv_cgv (y := .ref (rc k)) (rowref (by first | omega | (have t_hb_k2 := hb_k2; have t_hj12 := hj12; have t_hinv := hinv; have t_n16 := n16; have t_n18 := n18; have t_c19 := eqI c19; have t_b25 := b25; have t_b29 := b29; have t_hz31 := hz31; have : (0 : Int32).toInt = 0 := qI_0; have tnb_ := nib5 tn391_ tn392_ tn400_ tn397_ tn401_; omega)) (by decide)) ?_
                  refine lv_lload hx hb dX6_takePairs_137 (lv_at hl 0 rfl) ?_
                  refine lv_l2i (v := _) hx hb dX6_takePairs_139 rfl ?_
                  refine lv_topi (fun v32 ev32 => ?_)
                  have hz33 := l2i_in (x := v20) (by have t_hb_k2 := hb_k2; have t_hj12 := hj12; have t_hinv := hinv; have t_n16 := n16; have t_n18 := n18; have t_c19 := eqI c19; have t_b25 := b25; have t_b29 := b29; have t_hz31 := hz31; have : (0 : Int32).toInt = 0 := qI_0; have tnb_ := nib5 tn391_ tn392_ tn400_ tn397_ tn401_; omega) (by have t_hb_k2 := hb_k2; have t_hj12 := hj12; have t_hinv := hinv; have t_n16 := n16; have t_n18 := n18; have t_c19 := eqI c19; have t_b25 := b25; have t_b29 := b29; have t_hz31 := hz31; have : (0 : Int32).toInt = 0 := qI_0; have tnb_ := nib5 tn391_ tn392_ tn400_ tn397_ tn401_; omega)
                  rw [← ev32] at hz33
                  refine lv_iconst (v := 1) hx hb dX6_takePairs_140 rfl ?_
                  refine lv_iadd hx hb dX6_takePairs_141 ?_
                  have hi34 : (v32 + 1).toInt = v32.toInt + 1 := i1_in (by have t_hb_k2 := hb_k2; have t_hj12 := hj12; have t_hinv := hinv; have t_n16 := n16; have t_n18 := n18; have t_c19 := eqI c19; have t_b25 := b25; have t_b29 := b29; have t_hz31 := hz31; have t_hz33 := hz33; have : (0 : Int32).toInt = 0 := qI_0; have tnb_ := nib5 tn391_ tn392_ tn400_ tn397_ tn401_; omega) (by have t_hb_k2 := hb_k2; have t_hj12 := hj12; have t_hinv := hinv; have t_n16 := n16; have t_n18 := n18; have t_c19 := eqI c19; have t_b25 := b25; have t_b29 := b29; have t_hz31 := hz31; have t_hz33 := hz33; have : (0 : Int32).toInt = 0 := qI_0; have tnb_ := nib5 tn391_ tn392_ tn400_ tn397_ tn401_; omega)
                  have hl35 := l1_in (x := v20) (by have t_hb_k2 := hb_k2; have t_hj12 := hj12; have t_hinv := hinv; have t_n16 := n16; have t_n18 := n18; have t_c19 := eqI c19; have t_b25 := b25; have t_b29 := b29; have t_hz31 := hz31; have t_hz33 := hz33; have : (0 : Int32).toInt = 0 := qI_0; have tnb_ := nib5 tn391_ tn392_ tn400_ tn397_ tn401_; omega) (by have t_hb_k2 := hb_k2; have t_hj12 := hj12; have t_hinv := hinv; have t_n16 := n16; have t_n18 := n18; have t_c19 := eqI c19; have t_b25 := b25; have t_b29 := b29; have t_hz31 := hz31; have t_hz33 := hz33; have : (0 : Int32).toInt = 0 := qI_0; have tnb_ := nib5 tn391_ tn392_ tn400_ tn397_ tn401_; omega) (show (v20 + 1).toInt < (fz k).toInt by have t_hb_k2 := hb_k2; have t_hj12 := hj12; have t_hinv := hinv; have t_n16 := n16; have t_n18 := n18; have t_c19 := eqI c19; have t_b25 := b25; have t_b29 := b29; have t_hz31 := hz31; have t_hz33 := hz33; have : (0 : Int32).toInt = 0 := qI_0; have tnb_ := nib5 tn391_ tn392_ tn400_ tn397_ tn401_; omega)
                  refine va_iald hx hb hK.1 (blk_P (j := k) hP (by first | omega | (have t_hb_k2 := hb_k2; have t_hj12 := hj12; have t_hinv := hinv; have t_n16 := n16; have t_n18 := n18; have t_c19 := eqI c19; have t_b25 := b25; have t_b29 := b29; have t_hz31 := hz31; have t_hz33 := hz33; have t_hi34 := hi34; have t_hl35 := hl35; have : (0 : Int32).toInt = 0 := qI_0; have tnb_ := nib5 tn391_ tn392_ tn400_ tn397_ tn401_; omega))) 0 0 rfl rfl (vp_in_iff.mpr (by have t_hb_k2 := hb_k2; have t_hj12 := hj12; have t_hinv := hinv; have t_n16 := n16; have t_n18 := n18; have t_c19 := eqI c19; have t_b25 := b25; have t_b29 := b29; have t_hz31 := hz31; have t_hz33 := hz33; have t_hi34 := hi34; have t_hl35 := hl35; have : (0 : Int32).toInt = 0 := qI_0; have tnb_ := nib5 tn391_ tn392_ tn400_ tn397_ tn401_; constructor <;> omega)) dX6_takePairs_142 ?_
                  refine va_iast hx hb hK.1 hP hD hS 5 0 rfl rfl (vp_in_nI (by first | omega | (have t_hb_k2 := hb_k2; have t_hj12 := hj12; have t_hinv := hinv; have t_n16 := n16; have t_n18 := n18; have t_c19 := eqI c19; have t_b25 := b25; have t_b29 := b29; have t_hz31 := hz31; have t_hz33 := hz33; have t_hi34 := hi34; have t_hl35 := hl35; have : (0 : Int32).toInt = 0 := qI_0; have tnb_ := nib5 tn391_ tn392_ tn400_ tn397_ tn401_; omega)) (by decide)) dX6_takePairs_143 (fun H locs hP hD hS => ?_)
                  rw [nI_clamp (by omega)] at hP hD
                  obtain ⟨hP, hD⟩ := va_rls (ws' := (([(h0, .inr (6, [.ref la, .ref si, .ref ce, .int r26, .int (nI k7), .ref fi, .ref se])), (la, .inl (G 0, 4, .inl fl)), (si, .inl (G 0, 4, .inl fz)), (ce, .inl (G 4, 4, .inr (.inr (.inr (.inr (fun ir => if ir < 4 then some (rc ir) else none)))))), (fi, .inl (G 0, 20, .inl (upd g8 j4 (F k v30.toNatClampNeg)))), (se, .inl (G 0, 20, .inl (upd g9 j4 (F k (v32 + 1).toNatClampNeg))))] : va_W) ++ ((((List.range 4).map (fun iq => (rc iq, .inl (G 0, 40, .inl (F iq))))) : va_W) ++ []))) hP hD rfl
                  refine lv_aload_n hx hb dX6_takePairs_144 rfl (lv_at hl 2 rfl) ?_
                  refine lv_dup hx hb dX6_takePairs_145 rfl ?_
                  refine va_get (D := (dC, dI)) (ci := 6) (v := .int (nI k7)) (C := RX6) (T := TX6) (N := 7) hx hb hg inG6 hown hK.1 hP 0 rfl rfl 4 (Nat.le_of_ble_eq_true rfl) (hg _ wt_281) (fun _ h9 => h9) rfl dX6_takePairs_146 ?_
                  refine lv_iconst (v := 1) hx hb dX6_takePairs_149 rfl ?_
                  refine lv_iadd hx hb dX6_takePairs_150 ?_
                  refine lv_cg (y := nI (k7 + 1)) (by rw [show (1 : Int32) = nI 1 from rfl]; exact nI_add _ _) ?_
                  refine va_put (D := (dC, dI)) (ci := 6) (v := .int (nI (k7 + 1))) (ty := .int) (C := RX6) (T := TX6) (N := 7) hx hb hg inG6 tyX6 tyX6_ok nmX6 hown hK.1 hP hD hS 0 rfl rfl 4 (Nat.le_of_ble_eq_true rfl) (hg _ wt_281) (fun _ h9 => h9) rfl (by decide +kernel) rfl rfl (Nat.le_of_ble_eq_true rfl) dX6_takePairs_151 (fun H locs hP hD hS => ?_)
                  obtain ⟨hP, hD⟩ := va_rls (ws' := (([(h0, .inr (6, [.ref la, .ref si, .ref ce, .int r26, .int (nI (k7 + 1)), .ref fi, .ref se])), (la, .inl (G 0, 4, .inl fl)), (si, .inl (G 0, 4, .inl fz)), (ce, .inl (G 4, 4, .inr (.inr (.inr (.inr (fun ir => if ir < 4 then some (rc ir) else none)))))), (fi, .inl (G 0, 20, .inl (upd g8 j4 (F k v30.toNatClampNeg)))), (se, .inl (G 0, 20, .inl (upd g9 j4 (F k (v32 + 1).toNatClampNeg))))] : va_W) ++ ((((List.range 4).map (fun iq => (rc iq, .inl (G 0, 40, .inl (F iq))))) : va_W) ++ []))) hP hD rfl
                  refine lv_iinc (v := nI (j4 + 1)) (lv' := [(5, .int (nI (j4 + 1))), (6, .long v20), (0, .ref h0), (1, .int (nI k)), (2, .int lane), (3, .int x1), (4, .int (nI nn))]) hx hb dX6_takePairs_154 hl (k := 1) rfl (by rw [show Int32.ofInt 1 = nI 1 from by decide]; exact nI_add _ _) (by decide) rfl (fun ls hl => ?_)
                  refine lv_goto (tgt := 37) hx hb dX6_takePairs_157 rfl ?_
                  exact ih37_10 (j4 + 1) (by omega) (by omega) r26 (k7 + 1) (upd g8 j4 (F k v30.toNatClampNeg)) (upd g9 j4 (F k (v32 + 1).toNatClampNeg)) _ _ (by omega) hP hD hS ls (lv_sub hl [0, 2, 3, 4, 5, 6] rfl)
    exact loop37_10 (20 + 1) 0 (by omega) (by omega) (nI k2) 0 f1 f2 _ _ (by omega) hP hD hS ls (lv_sub hl [0, 1, 2, 3, 4, 5] rfl)
  refine lv_icmp_eq (tgt := 26) hx hb dX6_takePairs_13 rfl (fun c36 => ?_) (fun c36 => ?_)
  · skip
    refine lv_iconst (v := 0) hx hb dX6_takePairs_26 rfl ?_
    refine lv_goto (tgt := 31) hx hb dX6_takePairs_27 rfl ?_
    exact cut31_3 0 _ _ (by omega) hP hD hS ls (lv_sub hl [0, 1, 2, 3, 4] rfl)
  · skip
    refine lv_aload_n hx hb dX6_takePairs_16 rfl (lv_at hl 0 rfl) ?_
    refine va_get (D := (dC, dI)) (ci := 6) (v := .ref la) (C := RX6) (T := TX6) (N := 7) hx hb hg inG6 hown hK.1 hP 0 rfl rfl 0 (Nat.le_of_ble_eq_true rfl) (hg _ wt_276) (fun _ h9 => h9) rfl dX6_takePairs_17 ?_
    refine lv_iload_n hx hb dX6_takePairs_20 rfl (lv_at hl 1 rfl) ?_
    refine va_iald hx hb hK.1 hP 1 0 rfl rfl (vp_in_nI (by first | omega | (have t_c36 := neI c36; have : ((-1) : Int32).toInt = -1 := qI_m1; have tnb_ := nib2 tn391_ tn392_; omega)) (by decide)) dX6_takePairs_21 ?_
    refine lv_cg (y := fl k) (by rw [nI_clamp (by omega)]) ?_
    refine lv_iload_n hx hb dX6_takePairs_22 rfl (lv_at hl 2 rfl) ?_
    refine lv_icmp_ne (tgt := 30) hx hb dX6_takePairs_23 rfl (fun c37 => ?_) (fun c37 => ?_)
    · skip
      refine lv_iconst (v := 3) hx hb dX6_takePairs_30 rfl ?_
      exact cut31_3 3 _ _ (by omega) hP hD hS ls (lv_sub hl [0, 1, 2, 3, 4] rfl)
    · skip
      refine lv_iconst (v := 0) hx hb dX6_takePairs_26 rfl ?_
      refine lv_goto (tgt := 31) hx hb dX6_takePairs_27 rfl ?_
      exact cut31_3 0 _ _ (by omega) hP hD hS ls (lv_sub hl [0, 1, 2, 3, 4] rfl)

theorem zn01 {r : Int32} (h : r = 0 ∨ r = 1) : narrow .boolean (.int r) = .int r := by rcases h with rfl | rfl <;> rfl
def strL : List (Nat × String) := [(92, "start"), (101, "stretch"), (106, "bearer"), (156, "plain"), (158, "hummer"), (160, "trembler"), (162, "tall"), (164, "twin"), (166, "paid"), (111, "carry")]
def strLen : List Nat := [5, 7, 6, 5, 6, 8, 4, 4, 4, 5]
def strByt : List (List Int32) := [[115, 116, 97, 114, 116], [115, 116, 114, 101, 116, 99, 104], [98, 101, 97, 114, 101, 114], [112, 108, 97, 105, 110], [104, 117, 109, 109, 101, 114], [116, 114, 101, 109, 98, 108, 101, 114], [116, 97, 108, 108], [116, 119, 105, 110], [112, 97, 105, 100], [99, 97, 114, 114, 121]]
theorem strLen_le (i : Nat) : strLen.getD i 0 ≤ 8 := by
  rcases Nat.lt_or_ge i 10 with h | h
  · rcases (show i = 0 ∨ i = 1 ∨ i = 2 ∨ i = 3 ∨ i = 4 ∨ i = 5 ∨ i = 6 ∨ i = 7 ∨ i = 8 ∨ i = 9 by omega) with q|q|q|q|q|q|q|q|q|q <;> subst q <;> decide
  · rw [List.getD_eq_getElem?_getD, List.getElem?_eq_none (by show 10 ≤ i; exact h)]
    exact Nat.zero_le _
/-- what every method that meets a String takes: the constants, where they lie, the two statics -/
def SS (adK adV : Nat → Nat) (A : Nat → Prop) (U : State) (H : Heap) : Prop := vk_S 10 strLen strByt adK adV A U H ∧ (∀ (i : Nat) (q : Nat × String), strL[i]? = some q → vk_R "AsleepPass$Reader" q.1 q.2 (adK i) U) ∧ va_Z "java/lang/String" "COMPACT_STRINGS" "Z" (.int 1) A U H ∧ va_Zq "jdk/internal/util/Preconditions" "SIOOBE_FORMATTER" "Ljava/util/function/BiFunction;" A U H
theorem SS.go {adK adV : Nat → Nat} {A B : Nat → Prop} {s U : State} {H : Heap} {locs : List Loc} (h : SS adK adV A s s.heap) (hS : va_S A s.heap H locs) (hB : ∀ q, B q → A q) (hU : U.heap = H) (hW : s.WarmedH U.vm) : SS adK adV B U U.heap := by
  rw [hU]
  exact ⟨(((h.1.kept hS.2.1).narrow hB).moved hW.alike), fun i q hq => (h.2.1 i q hq).warm hW, ((h.2.2.1.kept hS.2.1).narrow hB).moved hW.alike, ((h.2.2.2.kept hS.2.1).narrow hB).moved hW.alike⟩
theorem SS.calling {adK adV : Nat → Nat} {A : Nat → Prop} {U V : State} {H : Heap} (hv : V.vm = U.vm) (h : SS adK adV A U H) : SS adK adV A V H := by
  have ha : U.vm.Alike V.vm := hv ▸ Vm.Alike.refl U.vm
  exact ⟨h.1.moved ha, fun i q hq => (h.2.1 i q hq).same hv, h.2.2.1.moved ha, h.2.2.2.moved ha⟩
def PcRS (av : List Value) (dC : Nat → ClassId) (dI : Nat → Nat → Nat) (G : Nat → ClassId) (ws : va_W) (adK adV : Nat → Nat) (sz : Nat) : Array Value → State → Prop := va_Pc av (fun U => U.heap.size = sz ∧ va_P (dC, dI) vwCl ws U.heap ∧ KK dC dI G U ∧ SS adK adV (fun q : Nat => sz ≤ q) U U.heap)
def PcWS (av : List Value) (dC : Nat → ClassId) (dI : Nat → Nat → Nat) (G : Nat → ClassId) (ws : va_W) (adK adV : Nat → Nat) (sz : Nat) : Array Value → State → Prop := va_Pc av (fun U => U.heap.size = sz ∧ va_P (dC, dI) vwCl ws U.heap ∧ KK dC dI G U ∧ va_D (fun _ => True) ws ∧ SS adK adV (va_A ws sz) U U.heap)
theorem PcRS.blind {av : List Value} {dC : Nat → ClassId} {dI : Nat → Nat → Nat} {G : Nat → ClassId} {ws : va_W} {adK adV : Nat → Nat} {sz : Nat} : FrameBlind (PcRS av dC dI G ws adK adV sz) := fun a U g mk q => by
  obtain ⟨q0, q1, q2, q3, q4⟩ := q
  exact ⟨q0, q1, q2, KK.calling (U := U) (V := U.calling g mk a) rfl q3, SS.calling (U := U) (V := U.calling g mk a) rfl q4⟩
theorem PcWS.blind {av : List Value} {dC : Nat → ClassId} {dI : Nat → Nat → Nat} {G : Nat → ClassId} {ws : va_W} {adK adV : Nat → Nat} {sz : Nat} : FrameBlind (PcWS av dC dI G ws adK adV sz) := fun a U g mk q => by
  obtain ⟨q0, q1, q2, q3, q4, q5⟩ := q
  exact ⟨q0, q1, q2, KK.calling (U := U) (V := U.calling g mk a) rfl q3, q4, SS.calling (U := U) (V := U.calling g mk a) rfl q5⟩
section PRES
variable {s : State} {H : Heap} {As : List Value} {b : Nat} {dC : Nat → ClassId} {dI : Nat → Nat → Nat} {G : Nat → ClassId} {A : Nat → Prop} {ws : va_W} {adK adV : Nat → Nat} {locs : List Loc} {ci : Nat} {r : vw_C} {fs : List Value}
theorem preSRS (hK : KK dC dI G s) (hP : va_P (dC, dI) vwCl ws H) (hSS : SS adK adV A s s.heap) (hS : va_S A s.heap H locs) (hB : ∀ q : Nat, H.size ≤ q → A q) : PreS s H (PcRS As dC dI G ws adK adV H.size) As :=
  ⟨PcRS.blind, fun U hU hW => ⟨rfl, by rw [hU], by rw [hU]; exact hP, hK.warm hW, hSS.go hS hB hU hW⟩⟩
theorem preVRS (hK : KK dC dI G s) (hP : va_P (dC, dI) vwCl ws H) (hSS : SS adK adV A s s.heap) (hS : va_S A s.heap H locs) (hB : ∀ q : Nat, H.size ≤ q → A q) (hc : vwCl[ci]? = some r) (he : ws[0]? = some (b, .inr (ci, fs))) : PreV s H r.1 b (PcRS (.ref b :: As) dC dI G ws adK adV H.size) As :=
  ⟨PcRS.blind, va_recv hK.1 hP hc he, fun U hU hW => ⟨rfl, by rw [hU], by rw [hU]; exact hP, hK.warm hW, hSS.go hS hB hU hW⟩⟩
theorem preVWS (hK : KK dC dI G s) (hP : va_P (dC, dI) vwCl ws H) (hD : va_D A ws) (hSS : SS adK adV A s s.heap) (hS : va_S A s.heap H locs) (hB : ∀ q : Nat, va_A ws H.size q → A q) (hc : vwCl[ci]? = some r) (he : ws[0]? = some (b, .inr (ci, fs))) : PreV s H r.1 b (PcWS (.ref b :: As) dC dI G ws adK adV H.size) As :=
  ⟨PcWS.blind, va_recv hK.1 hP hc he, fun U hU hW => ⟨rfl, by rw [hU], by rw [hU]; exact hP, hK.warm hW, hD.weaken (fun _ _ _ _ => trivial), hSS.go hS hB hU hW⟩⟩
theorem preVX {i : Nat} (hK : KK dC dI G s) (hP : va_P (dC, dI) vwCl ws H) (hi : i < 10) (hSS : SS adK adV A s s.heap) (hS : va_S A s.heap H locs) (hB : ∀ q : Nat, H.size ≤ q → A q) : PreV s H "java/lang/String" (adK i) (PcRS (.ref (adK i) :: As) dC dI G ws adK adV H.size) As :=
  ⟨PcRS.blind, va_Orecv (hSS.1.1 i hi).1 hS, fun U hU hW => ⟨rfl, by rw [hU], by rw [hU]; exact hP, hK.warm hW, hSS.go hS hB hU hW⟩⟩
end PRES
section VGS
variable {p : Program} {l : Launch} {e : Env} {R : Room} {s : State} {m : MethodId} {args : Array Value} {below : List Frame} {meth : Method} {c : Code} {H : Heap} {locs : List Loc} {cells slots : Nat} {Q : State → Prop} {cc : ByteArray} {pc : Nat} {ls : Array Slot} {rest : List Value} {A : Nat → Prop}
theorem va_getS (hexec : p.tables.exec = Jvm.exec) (hb : c.code = cc) {o n d own ref : String} {v : Value} {t index : Nat} (hE : va_OF o n d v t A s s.heap) (hS : va_S A s.heap H locs) (hown : s.vm.findClass own = some m.cls) (hlink : (Cond.fieldLink own index ref n d).before args s = true) (hsame : ∀ x, s.fieldFound? o n d = some x → s.fieldFound? ref n d = some x) (hdg : decode cc pc = .ok (.getfield index, 3))
    (kk : W p l e R s m args below meth c H locs cells slots Q (F0 m (pc + 3) ls (v :: rest))) : W p l e R s m args below meth c H locs cells slots Q (F0 m pc ls (.ref t :: rest)) := by
  obtain ⟨cf, k, fi, f, cell, h1, h2, h3, h4, h5, h6⟩ := hE.kept hS.2.1
  exact W.getf hexec hb hown hlink (hsame _ h1) h2 h3 h4 (v := v) h5 rfl rfl hdg kk
end VGS
def byF (f : Nat → Int32) (T : Nat) (i : Int32) : Int32 := if 0 ≤ i.toInt ∧ i.toInt < ((T : Nat) : Int) then f i.toNatClampNeg else 0
def valN (f : Nat → Int32) (T a : Nat) : Nat → Int32
  | 0 => 0
  | n + 1 => valN f T a n * 10 + byF f T (nI (a + n)) - 48
set_option maxHeartbeats 1000000 in
set_option maxRecDepth 100000 in
theorem c_X10_read (l : Launch) (dC : Nat → ClassId) (dI : Nat → Nat → Nat) (G : Nat → ClassId) (sz : Nat) (h0 rd wy tr im kp od ch cr le mk tl sh a1 a2 a3 a4 a5 a6 N B D la si ce fi se : Nat) (tf rf k lane x1 n x8 x9 : Int32) (f3 fl fz f1 f2 : Nat → Int32) (rc : Nat → Nat) (F : Nat → Nat → Int32) (hN_N : N ≤ 10) (hB_B : B ≤ 6) (hD_D : 1 ≤ D ∧ D ≤ 9) (hz : ∀ q : Nat, q < 4 → 0 ≤ (fz q).toInt ∧ (fz q).toInt ≤ 40) : Met l yX10_read (Cond.code yX10_read cX10_read 6 (some .int) :: GT) ({ frames := 2, cells := 0, slots := 0, locals := 50 } : Room) (PcW [.ref h0, .int k, .int lane, .int x1, .int n] dC dI G (([(h0, .inr (10, [.ref rd, .ref wy, .ref tr, .ref im, .ref kp, .ref od, .ref ch, .ref cr, .ref le, .ref mk, .ref tl, .ref sh, .int tf, .int rf])), (wy, .inr (9, [.int (nI N), .int (nI B), .int (nI D), .ref a1, .ref a2, .ref a3, .ref a4, .ref a5, .ref a6])), (a3, .inl (G 0, 10, .inl f3)), (sh, .inr (6, [.ref la, .ref si, .ref ce, .int x8, .int x9, .ref fi, .ref se])), (la, .inl (G 0, 4, .inl fl)), (si, .inl (G 0, 4, .inl fz)), (ce, .inl (G 4, 4, .inr (.inr (.inr (.inr (fun ir => if ir < 4 then some (rc ir) else none)))))), (fi, .inl (G 0, 20, .inl f1)), (se, .inl (G 0, 20, .inl f2))] : va_W) ++ ((((List.range 4).map (fun iq => (rc iq, .inl (G 0, 40, .inl (F iq))))) : va_W) ++ [])) sz) (va_Qi (fun (r : Int32) (u : Int32 × Int32 × (Nat → Int32) × (Nat → Int32) × (Nat → Int32) × Int32) => match u with | (u0, u1, u2, u3, u4, u5) => (True) ∧ True) (fun (u : Int32 × Int32 × (Nat → Int32) × (Nat → Int32) × (Nat → Int32) × Int32) (t : State) => match u with | (u0, u1, u2, u3, u4, u5) => va_P (dC, dI) vwCl (([(h0, .inr (10, [.ref rd, .ref wy, .ref tr, .ref im, .ref kp, .ref od, .ref ch, .ref cr, .ref le, .ref mk, .ref tl, .ref sh, .int tf, .int u5])), (wy, .inr (9, [.int (nI N), .int (nI B), .int (nI D), .ref a1, .ref a2, .ref a3, .ref a4, .ref a5, .ref a6])), (a3, .inl (G 0, 10, .inl u4)), (sh, .inr (6, [.ref la, .ref si, .ref ce, .int u0, .int u1, .ref fi, .ref se])), (la, .inl (G 0, 4, .inl fl)), (si, .inl (G 0, 4, .inl fz)), (ce, .inl (G 4, 4, .inr (.inr (.inr (.inr (fun ir => if ir < 4 then some (rc ir) else none)))))), (fi, .inl (G 0, 20, .inl u2)), (se, .inl (G 0, 20, .inl u3))] : va_W) ++ ((((List.range 4).map (fun iq => (rc iq, .inl (G 0, 40, .inl (F iq))))) : va_W) ++ [])) t.heap ∧ va_D (va_A (([(h0, .inr (10, [.ref rd, .ref wy, .ref tr, .ref im, .ref kp, .ref od, .ref ch, .ref cr, .ref le, .ref mk, .ref tl, .ref sh, .int tf, .int rf])), (wy, .inr (9, [.int (nI N), .int (nI B), .int (nI D), .ref a1, .ref a2, .ref a3, .ref a4, .ref a5, .ref a6])), (a3, .inl (G 0, 10, .inl f3)), (sh, .inr (6, [.ref la, .ref si, .ref ce, .int x8, .int x9, .ref fi, .ref se])), (la, .inl (G 0, 4, .inl fl)), (si, .inl (G 0, 4, .inl fz)), (ce, .inl (G 4, 4, .inr (.inr (.inr (.inr (fun ir => if ir < 4 then some (rc ir) else none)))))), (fi, .inl (G 0, 20, .inl f1)), (se, .inl (G 0, 20, .inl f2))] : va_W) ++ ((((List.range 4).map (fun iq => (rc iq, .inl (G 0, 40, .inl (F iq))))) : va_W) ++ [])) sz) (([(h0, .inr (10, [.ref rd, .ref wy, .ref tr, .ref im, .ref kp, .ref od, .ref ch, .ref cr, .ref le, .ref mk, .ref tl, .ref sh, .int tf, .int u5])), (wy, .inr (9, [.int (nI N), .int (nI B), .int (nI D), .ref a1, .ref a2, .ref a3, .ref a4, .ref a5, .ref a6])), (a3, .inl (G 0, 10, .inl u4)), (sh, .inr (6, [.ref la, .ref si, .ref ce, .int u0, .int u1, .ref fi, .ref se])), (la, .inl (G 0, 4, .inl fl)), (si, .inl (G 0, 4, .inl fz)), (ce, .inl (G 4, 4, .inr (.inr (.inr (.inr (fun ir => if ir < 4 then some (rc ir) else none)))))), (fi, .inl (G 0, 20, .inl u2)), (se, .inl (G 0, 20, .inl u3))] : va_W) ++ ((((List.range 4).map (fun iq => (rc iq, .inl (G 0, 40, .inl (F iq))))) : va_W) ++ []))) (va_A (([(h0, .inr (10, [.ref rd, .ref wy, .ref tr, .ref im, .ref kp, .ref od, .ref ch, .ref cr, .ref le, .ref mk, .ref tl, .ref sh, .int tf, .int rf])), (wy, .inr (9, [.int (nI N), .int (nI B), .int (nI D), .ref a1, .ref a2, .ref a3, .ref a4, .ref a5, .ref a6])), (a3, .inl (G 0, 10, .inl f3)), (sh, .inr (6, [.ref la, .ref si, .ref ce, .int x8, .int x9, .ref fi, .ref se])), (la, .inl (G 0, 4, .inl fl)), (si, .inl (G 0, 4, .inl fz)), (ce, .inl (G 4, 4, .inr (.inr (.inr (.inr (fun ir => if ir < 4 then some (rc ir) else none)))))), (fi, .inl (G 0, 20, .inl f1)), (se, .inl (G 0, 20, .inl f2))] : va_W) ++ ((((List.range 4).map (fun iq => (rc iq, .inl (G 0, 40, .inl (F iq))))) : va_W) ++ [])) sz)) 0 0 (va_A (([(h0, .inr (10, [.ref rd, .ref wy, .ref tr, .ref im, .ref kp, .ref od, .ref ch, .ref cr, .ref le, .ref mk, .ref tl, .ref sh, .int tf, .int rf])), (wy, .inr (9, [.int (nI N), .int (nI B), .int (nI D), .ref a1, .ref a2, .ref a3, .ref a4, .ref a5, .ref a6])), (a3, .inl (G 0, 10, .inl f3)), (sh, .inr (6, [.ref la, .ref si, .ref ce, .int x8, .int x9, .ref fi, .ref se])), (la, .inl (G 0, 4, .inl fl)), (si, .inl (G 0, 4, .inl fz)), (ce, .inl (G 4, 4, .inr (.inr (.inr (.inr (fun ir => if ir < 4 then some (rc ir) else none)))))), (fi, .inl (G 0, 20, .inl f1)), (se, .inl (G 0, 20, .inl f2))] : va_W) ++ ((((List.range 4).map (fun iq => (rc iq, .inl (G 0, 40, .inl (F iq))))) : va_W) ++ [])) sz) := by
  have tn402_ : nIT N := fun _ => nI_toInt (by omega)
  have tn403_ : nIT B := fun _ => nI_toInt (by omega)
  have tn404_ : nIT D := fun _ => nI_toInt (by omega)
  refine Met.ofW (cc := cX10_read) (maxL := 6) (ret := (some .int)) (by decide) rfl ?_
  intro p e s m args below meth c s₁ Bd hml hv
  obtain ⟨rfl, hsz, hP, hK, hD0⟩ := hv
  have hx := Bd.exec
  have hb := Bd.bytes
  have hr := Bd.returns
  have hg : ∀ w ∈ GT, w.before ([.ref h0, .int k, .int lane, .int x1, .int n] : List Value).toArray s = true := fun w h => atoms_spec (ws := Cond.code yX10_read cX10_read 6 (some .int) :: GT) Bd.pre w (List.mem_cons_of_mem _ h)
  have hown : s.vm.findClass RX10 = some m.cls := findClass_of_methodNamed Bd.named
  have hlocks := Bd.notSynchronized
  subst hsz
  have hD := hD0.self (sz := s.heap.size)
  generalize hAe : va_A (([(h0, .inr (10, [.ref rd, .ref wy, .ref tr, .ref im, .ref kp, .ref od, .ref ch, .ref cr, .ref le, .ref mk, .ref tl, .ref sh, .int tf, .int rf])), (wy, .inr (9, [.int (nI N), .int (nI B), .int (nI D), .ref a1, .ref a2, .ref a3, .ref a4, .ref a5, .ref a6])), (a3, .inl (G 0, 10, .inl f3)), (sh, .inr (6, [.ref la, .ref si, .ref ce, .int x8, .int x9, .ref fi, .ref se])), (la, .inl (G 0, 4, .inl fl)), (si, .inl (G 0, 4, .inl fz)), (ce, .inl (G 4, 4, .inr (.inr (.inr (.inr (fun ir => if ir < 4 then some (rc ir) else none)))))), (fi, .inl (G 0, 20, .inl f1)), (se, .inl (G 0, 20, .inl f2))] : va_W) ++ ((((List.range 4).map (fun iq => (rc iq, .inl (G 0, 40, .inl (F iq))))) : va_W) ++ [])) s.heap.size = A at hD ⊢
  have hA : ∀ q : Nat, s.heap.size ≤ q → A q := fun q h => by rw [← hAe]; exact Or.inr h
  have hS : va_S A s.heap s.heap [] := va_S.rf
  have hl := lv_entry ([.ref h0, .int k, .int lane, .int x1, .int n]) (n := 6) (Nat.le_of_ble_eq_true rfl)
  rw [lg_entry_eq]
  generalize (lg_sl ([.ref h0, .int k, .int lane, .int x1, .int n]) ++ List.replicate (6 - (lg_sl ([.ref h0, .int k, .int lane, .int x1, .int n])).length) Slot.unset).toArray = ls at hl ⊢
  have hl : lv_has ls 6 [(0, .ref h0), (1, .int k), (2, .int lane), (3, .int x1), (4, .int n)] := hl
  refine lv_iload_n hx hb dX10_read_0 rfl (lv_at hl 1 rfl) ?_
  have hPc := hP.sub (ws' := []) [] rfl
  refine va_calli (va_runSN (As := [.int k]) (rest := []) ⟨hx, hb, hml, hown, hg⟩ (c_X6_isSheet l dC dI G _ k) (kwSN hg hK mfX6_isSheet wn_823 ⟨Nat.le_of_ble_eq_true rfl, Nat.le_of_ble_eq_true rfl⟩) (preSR hK hPc) rfl rfl hl.1 rfl (lv_room (Nat.le_of_ble_eq_true rfl)) dX10_read_1 ⟨Nat.le_of_ble_eq_true rfl, Nat.le_of_ble_eq_true rfl⟩) hS (fun q h1 h2 => absurd h2 (Nat.not_le.mpr h1)) (fun q h => hA q (Nat.le_trans hS.1 h)) (fun r1 ur1 t H1 locs ht hvm w2 hB hz1 hk1 hS => ?_)
  have hP := keepR hP hk1
  obtain ⟨w2, w2x⟩ := w2
  try simp only [l_ii, show (0 : Int32).toInt = 0 from by decide, show (4 : Int32).toInt = 4 from by decide] at w2
  subst w2
  refine lv_if_eq (tgt := 26) hx hb dX10_read_4 rfl (fun c3 => ?_) (fun c3 => ?_)
  · skip
    have b4 := if10_n c3
    refine lv_iconst (v := (-1)) hx hb dX10_read_26 rfl ?_
    have hpost : True := by
      trivial
    obtain ⟨hP9, hD9⟩ := va_sub2 (ws' := (([(h0, .inr (10, [.ref rd, .ref wy, .ref tr, .ref im, .ref kp, .ref od, .ref ch, .ref cr, .ref le, .ref mk, .ref tl, .ref sh, .int tf, .int rf])), (wy, .inr (9, [.int (nI N), .int (nI B), .int (nI D), .ref a1, .ref a2, .ref a3, .ref a4, .ref a5, .ref a6])), (a3, .inl (G 0, 10, .inl f3)), (sh, .inr (6, [.ref la, .ref si, .ref ce, .int x8, .int x9, .ref fi, .ref se])), (la, .inl (G 0, 4, .inl fl)), (si, .inl (G 0, 4, .inl fz)), (ce, .inl (G 4, 4, .inr (.inr (.inr (.inr (fun ir => if ir < 4 then some (rc ir) else none)))))), (fi, .inl (G 0, 20, .inl f1)), (se, .inl (G 0, 20, .inl f2))] : va_W) ++ ((((List.range 4).map (fun iq => (rc iq, .inl (G 0, 40, .inl (F iq))))) : va_W) ++ []))) hP hD [0, 1, 2, 3, 4, 5, 6, 7, 8, 9, 10, 11, 12] (by decide +kernel) rfl
    refine W.widen (k := 0) (n := 0) (Nat.le_of_ble_eq_true rfl) (Nat.le_of_ble_eq_true rfl) ?_
    exact W.iret (v := (-1)) hx hb hr (fun t ht hW => ⟨⟨(-1), (x8, x9, f1, f2, f3, rf), rfl, ⟨hpost, trivial⟩, ⟨by rw [ht]; exact hP9, hD9⟩⟩, hS.F ht⟩) hS.2.2 dX10_read_27
  · skip
    have b5 := if10_p c3
    refine lv_iload_n hx hb dX10_read_7 rfl (lv_at hl 2 rfl) ?_
    have hPc := hP.sub (ws' := []) [] rfl
    refine va_calli (va_runSN (As := [.int lane]) (rest := []) ⟨hx, hb, hml, hown, hg⟩ (c_X6_isLane l dC dI G _ lane) (kwSN hg hK mfX6_isLane wn_826 ⟨Nat.le_of_ble_eq_true rfl, Nat.le_of_ble_eq_true rfl⟩) (preSR hK hPc) rfl rfl hl.1 rfl (lv_room (Nat.le_of_ble_eq_true rfl)) dX10_read_8 ⟨Nat.le_of_ble_eq_true rfl, Nat.le_of_ble_eq_true rfl⟩) hS (fun q h1 h2 => absurd h2 (Nat.not_le.mpr h1)) (fun q h => hA q (Nat.le_trans hS.1 h)) (fun r6 ur6 t H1 locs ht hvm w7 hB hz1 hk1 hS => ?_)
    have hP := keepR hP hk1
    obtain ⟨w7, w7x⟩ := w7
    try simp only [l_ii, show (0 : Int32).toInt = 0 from by decide, show (2 : Int32).toInt = 2 from by decide] at w7
    subst w7
    refine lv_if_eq (tgt := 26) hx hb dX10_read_11 rfl (fun c8 => ?_) (fun c8 => ?_)
    · skip
      have b9 := if10_n c8
      refine lv_iconst (v := (-1)) hx hb dX10_read_26 rfl ?_
      have hpost : True := by
        trivial
      obtain ⟨hP9, hD9⟩ := va_sub2 (ws' := (([(h0, .inr (10, [.ref rd, .ref wy, .ref tr, .ref im, .ref kp, .ref od, .ref ch, .ref cr, .ref le, .ref mk, .ref tl, .ref sh, .int tf, .int rf])), (wy, .inr (9, [.int (nI N), .int (nI B), .int (nI D), .ref a1, .ref a2, .ref a3, .ref a4, .ref a5, .ref a6])), (a3, .inl (G 0, 10, .inl f3)), (sh, .inr (6, [.ref la, .ref si, .ref ce, .int x8, .int x9, .ref fi, .ref se])), (la, .inl (G 0, 4, .inl fl)), (si, .inl (G 0, 4, .inl fz)), (ce, .inl (G 4, 4, .inr (.inr (.inr (.inr (fun ir => if ir < 4 then some (rc ir) else none)))))), (fi, .inl (G 0, 20, .inl f1)), (se, .inl (G 0, 20, .inl f2))] : va_W) ++ ((((List.range 4).map (fun iq => (rc iq, .inl (G 0, 40, .inl (F iq))))) : va_W) ++ []))) hP hD [0, 1, 2, 3, 4, 5, 6, 7, 8, 9, 10, 11, 12] (by decide +kernel) rfl
      refine W.widen (k := 0) (n := 0) (Nat.le_of_ble_eq_true rfl) (Nat.le_of_ble_eq_true rfl) ?_
      exact W.iret (v := (-1)) hx hb hr (fun t ht hW => ⟨⟨(-1), (x8, x9, f1, f2, f3, rf), rfl, ⟨hpost, trivial⟩, ⟨by rw [ht]; exact hP9, hD9⟩⟩, hS.F ht⟩) hS.2.2 dX10_read_27
    · skip
      have b10 := if10_p c8
      refine lv_iload hx hb dX10_read_14 (lv_at hl 4 rfl) ?_
      refine lv_if_lt (tgt := 26) hx hb dX10_read_16 rfl (fun c11 => ?_) (fun c11 => ?_)
      · skip
        refine lv_iconst (v := (-1)) hx hb dX10_read_26 rfl ?_
        have hpost : True := by
          trivial
        obtain ⟨hP9, hD9⟩ := va_sub2 (ws' := (([(h0, .inr (10, [.ref rd, .ref wy, .ref tr, .ref im, .ref kp, .ref od, .ref ch, .ref cr, .ref le, .ref mk, .ref tl, .ref sh, .int tf, .int rf])), (wy, .inr (9, [.int (nI N), .int (nI B), .int (nI D), .ref a1, .ref a2, .ref a3, .ref a4, .ref a5, .ref a6])), (a3, .inl (G 0, 10, .inl f3)), (sh, .inr (6, [.ref la, .ref si, .ref ce, .int x8, .int x9, .ref fi, .ref se])), (la, .inl (G 0, 4, .inl fl)), (si, .inl (G 0, 4, .inl fz)), (ce, .inl (G 4, 4, .inr (.inr (.inr (.inr (fun ir => if ir < 4 then some (rc ir) else none)))))), (fi, .inl (G 0, 20, .inl f1)), (se, .inl (G 0, 20, .inl f2))] : va_W) ++ ((((List.range 4).map (fun iq => (rc iq, .inl (G 0, 40, .inl (F iq))))) : va_W) ++ []))) hP hD [0, 1, 2, 3, 4, 5, 6, 7, 8, 9, 10, 11, 12] (by decide +kernel) rfl
        refine W.widen (k := 0) (n := 0) (Nat.le_of_ble_eq_true rfl) (Nat.le_of_ble_eq_true rfl) ?_
        exact W.iret (v := (-1)) hx hb hr (fun t ht hW => ⟨⟨(-1), (x8, x9, f1, f2, f3, rf), rfl, ⟨hpost, trivial⟩, ⟨by rw [ht]; exact hP9, hD9⟩⟩, hS.F ht⟩) hS.2.2 dX10_read_27
      · skip
        refine lv_iload hx hb dX10_read_19 (lv_at hl 4 rfl) ?_
        refine lv_bipush (v := 20) hx hb dX10_read_21 rfl ?_
        refine lv_icmp_le (tgt := 28) hx hb dX10_read_23 rfl (fun c12 => ?_) (fun c12 => ?_)
        · skip
          obtain ⟨kk, hkk, rfl⟩ : ∃ j : Nat, j < 4 ∧ k = nI j := by
            have t_b5 := b5
            have t_b10 := b10
            have t_c11 := nltI c11
            have t_c12 := leI c12
            have : (0 : Int32).toInt = 0 := qI_0
            have : (20 : Int32).toInt = 20 := qI_20
            have t_n0 : (nI N).toInt = (N : Int) := tn402_ ()
            have t_n1 : (nI B).toInt = (B : Int) := tn403_ ()
            have t_n2 : (nI D).toInt = (D : Int) := tn404_ ()
            exact i32_nat (by omega) (by omega)
          obtain ⟨nn, hnn, rfl⟩ : ∃ j : Nat, j < 21 ∧ n = nI j := by
            have t_b5 := b5
            have t_b10 := b10
            have t_c11 := nltI c11
            have t_c12 := leI c12
            have t_hkk := hkk
            have : (0 : Int32).toInt = 0 := qI_0
            have : (20 : Int32).toInt = 20 := qI_20
            have t_n0 : (nI N).toInt = (N : Int) := tn402_ ()
            have t_n1 : (nI B).toInt = (B : Int) := tn403_ ()
            have t_n2 : (nI D).toInt = (D : Int) := tn404_ ()
            have tn405_ : nIT kk := fun _ => nI_toInt (by omega)
            have t_n3 : (nI kk).toInt = (kk : Int) := tn405_ ()
            exact i32_nat (by omega) (by omega)
          refine lv_aload_n hx hb dX10_read_28 rfl (lv_at hl 0 rfl) ?_
          refine va_get (D := (dC, dI)) (ci := 10) (v := .ref sh) (C := RX10) (T := TX10) (N := 14) hx hb hg inG10 hown hK.1 hP 0 rfl rfl 11 (Nat.le_of_ble_eq_true rfl) (hg _ wt_313) (fun _ h9 => h9) rfl dX10_read_29 ?_
          refine lv_iload_n hx hb dX10_read_32 rfl (lv_at hl 1 rfl) ?_
          refine lv_iload_n hx hb dX10_read_33 rfl (lv_at hl 2 rfl) ?_
          refine lv_iload_n hx hb dX10_read_34 rfl (lv_at hl 3 rfl) ?_
          refine lv_iload hx hb dX10_read_35 (lv_at hl 4 rfl) ?_
          obtain ⟨hPc, hDc, hFc⟩ := va_sub3 (ws' := (([(sh, .inr (6, [.ref la, .ref si, .ref ce, .int x8, .int x9, .ref fi, .ref se])), (la, .inl (G 0, 4, .inl fl)), (si, .inl (G 0, 4, .inl fz)), (ce, .inl (G 4, 4, .inr (.inr (.inr (.inr (fun ir => if ir < 4 then some (rc ir) else none)))))), (fi, .inl (G 0, 20, .inl f1)), (se, .inl (G 0, 20, .inl f2))] : va_W) ++ ((((List.range 4).map (fun iq => (rc iq, .inl (G 0, 40, .inl (F iq))))) : va_W) ++ []))) hP hD hS hA [3, 4, 5, 6, 7, 8, 9, 10, 11, 12] (by decide +kernel) rfl
          refine va_callv (va_runVN (As := [.int (nI kk), .int lane, .int x1, .int (nI nn)]) (rest := []) ⟨hx, hb, hml, hown, hg⟩ (c_X6_takePairs l dC dI G _ sh la si ce fi se kk nn x8 x9 lane x1 fl fz f1 f2 rc F (by omega) (by omega) hz) (kwVN hg hK mfX6_takePairs wn_851 ⟨Nat.le_of_ble_eq_true rfl, Nat.le_of_ble_eq_true rfl⟩) (preVW hK hPc hDc (ci := 6) (r := (RX6, TX6, 7)) rfl rfl) rfl rfl hl.1 rfl (lv_room (Nat.le_of_ble_eq_true rfl)) dX10_read_37 ⟨Nat.le_of_ble_eq_true rfl, Nat.le_of_ble_eq_true rfl⟩) hS (fun q _ h => hFc q h) hFc (fun ur13 t H1 locs ht hvm w14 hB hz1 hk1 hS => ?_)
          obtain ⟨u15, u16, u17, u18⟩ := ur13
          obtain ⟨hP1, hD1⟩ := hB
          rw [ht] at hP1
          obtain ⟨hP, hD⟩ := va_join (wr := [(h0, .inr (10, [.ref rd, .ref wy, .ref tr, .ref im, .ref kp, .ref od, .ref ch, .ref cr, .ref le, .ref mk, .ref tl, .ref sh, .int tf, .int rf])), (wy, .inr (9, [.int (nI N), .int (nI B), .int (nI D), .ref a1, .ref a2, .ref a3, .ref a4, .ref a5, .ref a6])), (a3, .inl (G 0, 10, .inl f3))]) (w1 := (([(sh, .inr (6, [.ref la, .ref si, .ref ce, .int u15, .int (nI u16), .ref fi, .ref se])), (la, .inl (G 0, 4, .inl fl)), (si, .inl (G 0, 4, .inl fz)), (ce, .inl (G 4, 4, .inr (.inr (.inr (.inr (fun ir => if ir < 4 then some (rc ir) else none)))))), (fi, .inl (G 0, 20, .inl u17)), (se, .inl (G 0, 20, .inl u18))] : va_W) ++ ((((List.range 4).map (fun iq => (rc iq, .inl (G 0, 40, .inl (F iq))))) : va_W) ++ []))) hP hD [3, 4, 5, 6, 7, 8, 9, 10, 11, 12] [0, 1, 2] rfl rfl (by decide +kernel) (by decide +kernel) hk1 hFc hP1 hD1
          have w14 : u16 ≤ 20 := w14
          generalize H1 = H at hP hS ⊢
          refine lv_iconst (v := 0) hx hb dX10_read_40 rfl ?_
          refine lv_istore (lv' := [(5, .int 0), (0, .ref h0), (1, .int (nI kk)), (2, .int lane), (3, .int x1), (4, .int (nI nn))]) hx hb dX10_read_41 hl (by decide) rfl (fun ls hl => ?_)
          have loop43_20 : ∀ (nf j19 : Nat), u16 + 1 ≤ j19 + nf → j19 ≤ u16 → ∀ (H : Heap) (locs : List Loc), (∀ q9 : Nat, q9 < j19 → 0 ≤ (u17 q9).toInt ∧ (u17 q9).toInt < ((N : Nat) : Int)) → va_P (dC, dI) vwCl (([(h0, .inr (10, [.ref rd, .ref wy, .ref tr, .ref im, .ref kp, .ref od, .ref ch, .ref cr, .ref le, .ref mk, .ref tl, .ref sh, .int tf, .int rf])), (wy, .inr (9, [.int (nI N), .int (nI B), .int (nI D), .ref a1, .ref a2, .ref a3, .ref a4, .ref a5, .ref a6])), (a3, .inl (G 0, 10, .inl f3)), (sh, .inr (6, [.ref la, .ref si, .ref ce, .int u15, .int (nI u16), .ref fi, .ref se])), (la, .inl (G 0, 4, .inl fl)), (si, .inl (G 0, 4, .inl fz)), (ce, .inl (G 4, 4, .inr (.inr (.inr (.inr (fun ir => if ir < 4 then some (rc ir) else none)))))), (fi, .inl (G 0, 20, .inl u17)), (se, .inl (G 0, 20, .inl u18))] : va_W) ++ ((((List.range 4).map (fun iq => (rc iq, .inl (G 0, 40, .inl (F iq))))) : va_W) ++ [])) H → va_D A (([(h0, .inr (10, [.ref rd, .ref wy, .ref tr, .ref im, .ref kp, .ref od, .ref ch, .ref cr, .ref le, .ref mk, .ref tl, .ref sh, .int tf, .int rf])), (wy, .inr (9, [.int (nI N), .int (nI B), .int (nI D), .ref a1, .ref a2, .ref a3, .ref a4, .ref a5, .ref a6])), (a3, .inl (G 0, 10, .inl f3)), (sh, .inr (6, [.ref la, .ref si, .ref ce, .int u15, .int (nI u16), .ref fi, .ref se])), (la, .inl (G 0, 4, .inl fl)), (si, .inl (G 0, 4, .inl fz)), (ce, .inl (G 4, 4, .inr (.inr (.inr (.inr (fun ir => if ir < 4 then some (rc ir) else none)))))), (fi, .inl (G 0, 20, .inl u17)), (se, .inl (G 0, 20, .inl u18))] : va_W) ++ ((((List.range 4).map (fun iq => (rc iq, .inl (G 0, 40, .inl (F iq))))) : va_W) ++ [])) → va_S A s.heap H locs → ∀ (ls : Array Slot), lv_has ls 6 [(5, .int (nI j19)), (0, .ref h0), (1, .int (nI kk)), (2, .int lane), (3, .int x1), (4, .int (nI nn))] → W p l e (headSpec (Cond.code yX10_read cX10_read 6 (some .int) :: GT) ({ frames := 2, cells := 0, slots := 0, locals := 50 } : Room)).room s m ([.ref h0, .int (nI kk), .int lane, .int x1, .int (nI nn)] : List Value).toArray below meth c H locs 0 0 (MQ below (va_Qi (fun (r : Int32) (u : Int32 × Int32 × (Nat → Int32) × (Nat → Int32) × (Nat → Int32) × Int32) => match u with | (u0, u1, u2, u3, u4, u5) => (True) ∧ True) (fun (u : Int32 × Int32 × (Nat → Int32) × (Nat → Int32) × (Nat → Int32) × Int32) (t : State) => match u with | (u0, u1, u2, u3, u4, u5) => va_P (dC, dI) vwCl (([(h0, .inr (10, [.ref rd, .ref wy, .ref tr, .ref im, .ref kp, .ref od, .ref ch, .ref cr, .ref le, .ref mk, .ref tl, .ref sh, .int tf, .int u5])), (wy, .inr (9, [.int (nI N), .int (nI B), .int (nI D), .ref a1, .ref a2, .ref a3, .ref a4, .ref a5, .ref a6])), (a3, .inl (G 0, 10, .inl u4)), (sh, .inr (6, [.ref la, .ref si, .ref ce, .int u0, .int u1, .ref fi, .ref se])), (la, .inl (G 0, 4, .inl fl)), (si, .inl (G 0, 4, .inl fz)), (ce, .inl (G 4, 4, .inr (.inr (.inr (.inr (fun ir => if ir < 4 then some (rc ir) else none)))))), (fi, .inl (G 0, 20, .inl u2)), (se, .inl (G 0, 20, .inl u3))] : va_W) ++ ((((List.range 4).map (fun iq => (rc iq, .inl (G 0, 40, .inl (F iq))))) : va_W) ++ [])) t.heap ∧ va_D A (([(h0, .inr (10, [.ref rd, .ref wy, .ref tr, .ref im, .ref kp, .ref od, .ref ch, .ref cr, .ref le, .ref mk, .ref tl, .ref sh, .int tf, .int u5])), (wy, .inr (9, [.int (nI N), .int (nI B), .int (nI D), .ref a1, .ref a2, .ref a3, .ref a4, .ref a5, .ref a6])), (a3, .inl (G 0, 10, .inl u4)), (sh, .inr (6, [.ref la, .ref si, .ref ce, .int u0, .int u1, .ref fi, .ref se])), (la, .inl (G 0, 4, .inl fl)), (si, .inl (G 0, 4, .inl fz)), (ce, .inl (G 4, 4, .inr (.inr (.inr (.inr (fun ir => if ir < 4 then some (rc ir) else none)))))), (fi, .inl (G 0, 20, .inl u2)), (se, .inl (G 0, 20, .inl u3))] : va_W) ++ ((((List.range 4).map (fun iq => (rc iq, .inl (G 0, 40, .inl (F iq))))) : va_W) ++ []))) A) ([.ref h0, .int (nI kk), .int lane, .int x1, .int (nI nn)] : List Value).toArray s 0 0 A) (F0 m 43 ls []) := by
            intro nf
            induction nf with
            | zero => intro j19 h1 h2; exact absurd h1 (by omega)
            | succ nf ih43_20 =>
              intro j19 hn21 hj22  H locs hinv hP hD hS ls hl
              refine lv_iload hx hb dX10_read_43 (lv_at hl 0 rfl) ?_
              refine lv_aload_n hx hb dX10_read_45 rfl (lv_at hl 1 rfl) ?_
              refine va_get (D := (dC, dI)) (ci := 10) (v := .ref sh) (C := RX10) (T := TX10) (N := 14) hx hb hg inG10 hown hK.1 hP 0 rfl rfl 11 (Nat.le_of_ble_eq_true rfl) (hg _ wt_313) (fun _ h9 => h9) rfl dX10_read_46 ?_
              refine va_getN (D := (dC, dI)) (ci := 6) (v := .int (nI u16)) (C := RX6) (T := TX6) (N := 7) hx hb hg inG6 hown hK.1 hP 3 rfl rfl 4 (Nat.le_of_ble_eq_true rfl) (hK.nest wn_282) (fun _ h9 => h9) rfl dX10_read_49 ?_
              refine lv_icmp_ge (tgt := 107) hx hb dX10_read_52 rfl (fun c23 => ?_) (fun c23 => ?_)
              · skip
                have tn406_ : nIT j19 := fun _ => nI_toInt (by first | omega | (have t := leI c23; omega))
                have tn407_ : nIT u16 := fun _ => nI_toInt (by omega)
                have n24 : u16 ≤ j19 := by have t := leI c23; rw [show (nI (j19)).toInt = ((j19 : Nat) : Int) from tn406_ ()] at t; rw [show (nI (u16)).toInt = ((u16 : Nat) : Int) from tn407_ ()] at t; omega
                refine lv_iconst (v := 0) hx hb dX10_read_107 rfl ?_
                refine lv_istore (lv' := [(5, .int 0), (0, .ref h0), (1, .int (nI kk)), (2, .int lane), (3, .int x1), (4, .int (nI nn))]) hx hb dX10_read_108 hl (by decide) rfl (fun ls hl => ?_)
                have loop110_27 : ∀ (nf j25 : Nat), u16 + 1 ≤ j25 + nf → j25 ≤ u16 → ∀ (g26 : Nat → Int32) (H : Heap) (locs : List Loc), va_P (dC, dI) vwCl (([(h0, .inr (10, [.ref rd, .ref wy, .ref tr, .ref im, .ref kp, .ref od, .ref ch, .ref cr, .ref le, .ref mk, .ref tl, .ref sh, .int tf, .int rf])), (wy, .inr (9, [.int (nI N), .int (nI B), .int (nI D), .ref a1, .ref a2, .ref a3, .ref a4, .ref a5, .ref a6])), (a3, .inl (G 0, 10, .inl g26)), (sh, .inr (6, [.ref la, .ref si, .ref ce, .int u15, .int (nI u16), .ref fi, .ref se])), (la, .inl (G 0, 4, .inl fl)), (si, .inl (G 0, 4, .inl fz)), (ce, .inl (G 4, 4, .inr (.inr (.inr (.inr (fun ir => if ir < 4 then some (rc ir) else none)))))), (fi, .inl (G 0, 20, .inl u17)), (se, .inl (G 0, 20, .inl u18))] : va_W) ++ ((((List.range 4).map (fun iq => (rc iq, .inl (G 0, 40, .inl (F iq))))) : va_W) ++ [])) H → va_D A (([(h0, .inr (10, [.ref rd, .ref wy, .ref tr, .ref im, .ref kp, .ref od, .ref ch, .ref cr, .ref le, .ref mk, .ref tl, .ref sh, .int tf, .int rf])), (wy, .inr (9, [.int (nI N), .int (nI B), .int (nI D), .ref a1, .ref a2, .ref a3, .ref a4, .ref a5, .ref a6])), (a3, .inl (G 0, 10, .inl g26)), (sh, .inr (6, [.ref la, .ref si, .ref ce, .int u15, .int (nI u16), .ref fi, .ref se])), (la, .inl (G 0, 4, .inl fl)), (si, .inl (G 0, 4, .inl fz)), (ce, .inl (G 4, 4, .inr (.inr (.inr (.inr (fun ir => if ir < 4 then some (rc ir) else none)))))), (fi, .inl (G 0, 20, .inl u17)), (se, .inl (G 0, 20, .inl u18))] : va_W) ++ ((((List.range 4).map (fun iq => (rc iq, .inl (G 0, 40, .inl (F iq))))) : va_W) ++ [])) → va_S A s.heap H locs → ∀ (ls : Array Slot), lv_has ls 6 [(5, .int (nI j25)), (0, .ref h0), (1, .int (nI kk)), (2, .int lane), (3, .int x1), (4, .int (nI nn))] → W p l e (headSpec (Cond.code yX10_read cX10_read 6 (some .int) :: GT) ({ frames := 2, cells := 0, slots := 0, locals := 50 } : Room)).room s m ([.ref h0, .int (nI kk), .int lane, .int x1, .int (nI nn)] : List Value).toArray below meth c H locs 0 0 (MQ below (va_Qi (fun (r : Int32) (u : Int32 × Int32 × (Nat → Int32) × (Nat → Int32) × (Nat → Int32) × Int32) => match u with | (u0, u1, u2, u3, u4, u5) => (True) ∧ True) (fun (u : Int32 × Int32 × (Nat → Int32) × (Nat → Int32) × (Nat → Int32) × Int32) (t : State) => match u with | (u0, u1, u2, u3, u4, u5) => va_P (dC, dI) vwCl (([(h0, .inr (10, [.ref rd, .ref wy, .ref tr, .ref im, .ref kp, .ref od, .ref ch, .ref cr, .ref le, .ref mk, .ref tl, .ref sh, .int tf, .int u5])), (wy, .inr (9, [.int (nI N), .int (nI B), .int (nI D), .ref a1, .ref a2, .ref a3, .ref a4, .ref a5, .ref a6])), (a3, .inl (G 0, 10, .inl u4)), (sh, .inr (6, [.ref la, .ref si, .ref ce, .int u0, .int u1, .ref fi, .ref se])), (la, .inl (G 0, 4, .inl fl)), (si, .inl (G 0, 4, .inl fz)), (ce, .inl (G 4, 4, .inr (.inr (.inr (.inr (fun ir => if ir < 4 then some (rc ir) else none)))))), (fi, .inl (G 0, 20, .inl u2)), (se, .inl (G 0, 20, .inl u3))] : va_W) ++ ((((List.range 4).map (fun iq => (rc iq, .inl (G 0, 40, .inl (F iq))))) : va_W) ++ [])) t.heap ∧ va_D A (([(h0, .inr (10, [.ref rd, .ref wy, .ref tr, .ref im, .ref kp, .ref od, .ref ch, .ref cr, .ref le, .ref mk, .ref tl, .ref sh, .int tf, .int u5])), (wy, .inr (9, [.int (nI N), .int (nI B), .int (nI D), .ref a1, .ref a2, .ref a3, .ref a4, .ref a5, .ref a6])), (a3, .inl (G 0, 10, .inl u4)), (sh, .inr (6, [.ref la, .ref si, .ref ce, .int u0, .int u1, .ref fi, .ref se])), (la, .inl (G 0, 4, .inl fl)), (si, .inl (G 0, 4, .inl fz)), (ce, .inl (G 4, 4, .inr (.inr (.inr (.inr (fun ir => if ir < 4 then some (rc ir) else none)))))), (fi, .inl (G 0, 20, .inl u2)), (se, .inl (G 0, 20, .inl u3))] : va_W) ++ ((((List.range 4).map (fun iq => (rc iq, .inl (G 0, 40, .inl (F iq))))) : va_W) ++ []))) A) ([.ref h0, .int (nI kk), .int lane, .int x1, .int (nI nn)] : List Value).toArray s 0 0 A) (F0 m 110 ls []) := by
                  intro nf
                  induction nf with
                  | zero => intro j25 h1 h2; exact absurd h1 (by omega)
                  | succ nf ih110_27 =>
                    intro j25 hn28 hj29 g26 H locs hP hD hS ls hl
                    refine lv_iload hx hb dX10_read_110 (lv_at hl 0 rfl) ?_
                    refine lv_aload_n hx hb dX10_read_112 rfl (lv_at hl 1 rfl) ?_
                    refine va_get (D := (dC, dI)) (ci := 10) (v := .ref sh) (C := RX10) (T := TX10) (N := 14) hx hb hg inG10 hown hK.1 hP 0 rfl rfl 11 (Nat.le_of_ble_eq_true rfl) (hg _ wt_313) (fun _ h9 => h9) rfl dX10_read_113 ?_
                    refine va_getN (D := (dC, dI)) (ci := 6) (v := .int (nI u16)) (C := RX6) (T := TX6) (N := 7) hx hb hg inG6 hown hK.1 hP 3 rfl rfl 4 (Nat.le_of_ble_eq_true rfl) (hK.nest wn_282) (fun _ h9 => h9) rfl dX10_read_116 ?_
                    refine lv_icmp_ge (tgt := 156) hx hb dX10_read_119 rfl (fun c30 => ?_) (fun c30 => ?_)
                    · skip
                      have tn408_ : nIT j25 := fun _ => nI_toInt (by first | omega | (have t := leI c30; omega))
                      have n31 : u16 ≤ j25 := by have t := leI c30; rw [show (nI (j25)).toInt = ((j25 : Nat) : Int) from tn408_ ()] at t; rw [show (nI (u16)).toInt = ((u16 : Nat) : Int) from tn407_ ()] at t; omega
                      refine lv_aload_n hx hb dX10_read_156 rfl (lv_at hl 1 rfl) ?_
                      refine lv_aload_n hx hb dX10_read_157 rfl (lv_at hl 1 rfl) ?_
                      refine va_get (D := (dC, dI)) (ci := 10) (v := .ref sh) (C := RX10) (T := TX10) (N := 14) hx hb hg inG10 hown hK.1 hP 0 rfl rfl 11 (Nat.le_of_ble_eq_true rfl) (hg _ wt_313) (fun _ h9 => h9) rfl dX10_read_158 ?_
                      refine va_getN (D := (dC, dI)) (ci := 6) (v := .int u15) (C := RX6) (T := TX6) (N := 7) hx hb hg inG6 hown hK.1 hP 3 rfl rfl 3 (Nat.le_of_ble_eq_true rfl) (hK.nest wn_280) (fun _ h9 => h9) rfl dX10_read_161 ?_
                      refine va_put (D := (dC, dI)) (ci := 10) (v := .int u15) (ty := .int) (C := RX10) (T := TX10) (N := 14) hx hb hg inG10 tyX10 tyX10_ok nmX10 hown hK.1 hP hD hS 0 rfl rfl 13 (Nat.le_of_ble_eq_true rfl) (hg _ wt_315) (fun _ h9 => h9) rfl (by decide +kernel) rfl rfl (Nat.le_of_ble_eq_true rfl) dX10_read_164 (fun H locs hP hD hS => ?_)
                      refine lv_aload_n hx hb dX10_read_167 rfl (lv_at hl 1 rfl) ?_
                      refine va_get (D := (dC, dI)) (ci := 10) (v := .ref sh) (C := RX10) (T := TX10) (N := 14) hx hb hg inG10 hown hK.1 hP 0 rfl rfl 11 (Nat.le_of_ble_eq_true rfl) (hg _ wt_313) (fun _ h9 => h9) rfl dX10_read_168 ?_
                      refine va_getN (D := (dC, dI)) (ci := 6) (v := .int (nI u16)) (C := RX6) (T := TX6) (N := 7) hx hb hg inG6 hown hK.1 hP 3 rfl rfl 4 (Nat.le_of_ble_eq_true rfl) (hK.nest wn_282) (fun _ h9 => h9) rfl dX10_read_171 ?_
                      have hpost : True := by
                        trivial
                      obtain ⟨hP9, hD9⟩ := va_sub2 (ws' := (([(h0, .inr (10, [.ref rd, .ref wy, .ref tr, .ref im, .ref kp, .ref od, .ref ch, .ref cr, .ref le, .ref mk, .ref tl, .ref sh, .int tf, .int u15])), (wy, .inr (9, [.int (nI N), .int (nI B), .int (nI D), .ref a1, .ref a2, .ref a3, .ref a4, .ref a5, .ref a6])), (a3, .inl (G 0, 10, .inl g26)), (sh, .inr (6, [.ref la, .ref si, .ref ce, .int u15, .int (nI u16), .ref fi, .ref se])), (la, .inl (G 0, 4, .inl fl)), (si, .inl (G 0, 4, .inl fz)), (ce, .inl (G 4, 4, .inr (.inr (.inr (.inr (fun ir => if ir < 4 then some (rc ir) else none)))))), (fi, .inl (G 0, 20, .inl u17)), (se, .inl (G 0, 20, .inl u18))] : va_W) ++ ((((List.range 4).map (fun iq => (rc iq, .inl (G 0, 40, .inl (F iq))))) : va_W) ++ []))) hP hD [0, 1, 2, 3, 4, 5, 6, 7, 8, 9, 10, 11, 12] (by decide +kernel) rfl
                      refine W.widen (k := 0) (n := 0) (Nat.le_of_ble_eq_true rfl) (Nat.le_of_ble_eq_true rfl) ?_
                      exact W.iret (v := nI u16) hx hb hr (fun t ht hW => ⟨⟨nI u16, (u15, (nI u16), u17, u18, g26, u15), rfl, ⟨hpost, trivial⟩, ⟨by rw [ht]; exact hP9, hD9⟩⟩, hS.F ht⟩) hS.2.2 dX10_read_174
                    · skip
                      have tn409_ : nIT j25 := fun _ => nI_toInt (by first | omega | (have t := nleI c30; omega))
                      have n32 : j25 < u16 := by have t := nleI c30; rw [show (nI (j25)).toInt = ((j25 : Nat) : Int) from tn409_ ()] at t; rw [show (nI (u16)).toInt = ((u16 : Nat) : Int) from tn407_ ()] at t; omega
                      refine lv_aload_n hx hb dX10_read_122 rfl (lv_at hl 1 rfl) ?_
                      refine va_get (D := (dC, dI)) (ci := 10) (v := .ref wy) (C := RX10) (T := TX10) (N := 14) hx hb hg inG10 hown hK.1 hP 0 rfl rfl 1 (Nat.le_of_ble_eq_true rfl) (hg _ wt_303) (fun _ h9 => h9) rfl dX10_read_123 ?_
                      refine va_getN (D := (dC, dI)) (ci := 9) (v := .ref a3) (C := RX9) (T := TX9) (N := 9) hx hb hg inG9 hown hK.1 hP 1 rfl rfl 5 (Nat.le_of_ble_eq_true rfl) (hK.nest wn_78) (fun _ h9 => h9) rfl dX10_read_126 ?_
                      refine lv_aload_n hx hb dX10_read_129 rfl (lv_at hl 1 rfl) ?_
                      refine va_get (D := (dC, dI)) (ci := 10) (v := .ref sh) (C := RX10) (T := TX10) (N := 14) hx hb hg inG10 hown hK.1 hP 0 rfl rfl 11 (Nat.le_of_ble_eq_true rfl) (hg _ wt_313) (fun _ h9 => h9) rfl dX10_read_130 ?_
                      refine va_getN (D := (dC, dI)) (ci := 6) (v := .ref fi) (C := RX6) (T := TX6) (N := 7) hx hb hg inG6 hown hK.1 hP 3 rfl rfl 5 (Nat.le_of_ble_eq_true rfl) (hK.nest wn_284) (fun _ h9 => h9) rfl dX10_read_133 ?_
                      refine lv_iload hx hb dX10_read_136 (lv_at hl 0 rfl) ?_
                      have tn410_ : nIT kk := fun _ => nI_toInt (by first | omega | (have t_b5 := b5; have t_b10 := b10; have t_c11 := nltI c11; have t_c12 := leI c12; have t_hkk := hkk; have t_hnn := hnn; have t_hj22 := hj22; have t_n24 := n24; have t_hj29 := hj29; have t_n32 := n32; have tqz_ := qz12_; omega))
                      have tn411_ : nIT nn := fun _ => nI_toInt (by first | omega | (have t_b5 := b5; have t_b10 := b10; have t_c11 := nltI c11; have t_c12 := leI c12; have t_hkk := hkk; have t_hnn := hnn; have t_hj22 := hj22; have t_n24 := n24; have t_hj29 := hj29; have t_n32 := n32; have tqz_ := qz12_; omega))
                      refine va_iald hx hb hK.1 hP 7 0 rfl rfl (vp_in_nI (by first | omega | (have t_b5 := b5; have t_b10 := b10; have t_c11 := nltI c11; have t_c12 := leI c12; have t_hkk := hkk; have t_hnn := hnn; have t_hj22 := hj22; have t_n24 := n24; have t_hj29 := hj29; have t_n32 := n32; have tqz_ := qz12_; have tnb_ := nib7 tn402_ tn403_ tn404_ tn410_ tn411_ tn406_ tn409_; omega)) (by decide)) dX10_read_138 ?_
                      refine lv_cg (y := u17 j25) (by rw [nI_clamp (by omega)]) ?_
                      refine lv_aload_n hx hb dX10_read_139 rfl (lv_at hl 1 rfl) ?_
                      refine va_get (D := (dC, dI)) (ci := 10) (v := .ref sh) (C := RX10) (T := TX10) (N := 14) hx hb hg inG10 hown hK.1 hP 0 rfl rfl 11 (Nat.le_of_ble_eq_true rfl) (hg _ wt_313) (fun _ h9 => h9) rfl dX10_read_140 ?_
                      refine va_getN (D := (dC, dI)) (ci := 6) (v := .ref se) (C := RX6) (T := TX6) (N := 7) hx hb hg inG6 hown hK.1 hP 3 rfl rfl 6 (Nat.le_of_ble_eq_true rfl) (hK.nest wn_286) (fun _ h9 => h9) rfl dX10_read_143 ?_
                      refine lv_iload hx hb dX10_read_146 (lv_at hl 0 rfl) ?_
                      refine va_iald hx hb hK.1 hP 8 0 rfl rfl (vp_in_nI (by first | omega | (have t_b5 := b5; have t_b10 := b10; have t_c11 := nltI c11; have t_c12 := leI c12; have t_hkk := hkk; have t_hnn := hnn; have t_hj22 := hj22; have t_n24 := n24; have t_hj29 := hj29; have t_n32 := n32; have tqz_ := qz12_; have tnb_ := nib7 tn402_ tn403_ tn404_ tn410_ tn411_ tn406_ tn409_; omega)) (by decide)) dX10_read_148 ?_
                      refine lv_cg (y := u18 j25) (by rw [nI_clamp (by omega)]) ?_
                      have hq33 := hinv j25 (by omega)
                      refine va_iast hx hb hK.1 hP hD hS 2 0 rfl rfl (vp_in_iff.mpr (by have t_b5 := b5; have t_b10 := b10; have t_c11 := nltI c11; have t_c12 := leI c12; have t_hkk := hkk; have t_hnn := hnn; have t_hj22 := hj22; have t_n24 := n24; have t_hj29 := hj29; have t_n32 := n32; have t_hq33 := hq33; have tqz_ := qz12_; have tnb_ := nib7 tn402_ tn403_ tn404_ tn410_ tn411_ tn406_ tn409_; constructor <;> omega)) dX10_read_149 (fun H locs hP hD hS => ?_)
                      refine lv_iinc (v := nI (j25 + 1)) (lv' := [(5, .int (nI (j25 + 1))), (0, .ref h0), (1, .int (nI kk)), (2, .int lane), (3, .int x1), (4, .int (nI nn))]) hx hb dX10_read_150 hl (k := 0) rfl (by rw [show Int32.ofInt 1 = nI 1 from by decide]; exact nI_add _ _) (by decide) rfl (fun ls hl => ?_)
                      refine lv_goto (tgt := 110) hx hb dX10_read_153 rfl ?_
                      exact ih110_27 (j25 + 1) (by omega) (by omega) (upd g26 (u17 j25).toNatClampNeg (u18 j25)) _ _ hP hD hS ls (lv_sub hl [0, 1, 2, 3, 4, 5] rfl)
                exact loop110_27 (u16 + 1) 0 (by omega) (by omega) f3 _ _ hP hD hS ls (lv_sub hl [0, 1, 2, 3, 4, 5] rfl)
              · skip
                have tn412_ : nIT j19 := fun _ => nI_toInt (by first | omega | (have t := nleI c23; omega))
                have tn413_ : nIT u16 := fun _ => nI_toInt (by omega)
                have n34 : j19 < u16 := by have t := nleI c23; rw [show (nI (j19)).toInt = ((j19 : Nat) : Int) from tn412_ ()] at t; rw [show (nI (u16)).toInt = ((u16 : Nat) : Int) from tn413_ ()] at t; omega
                refine lv_aload_n hx hb dX10_read_55 rfl (lv_at hl 1 rfl) ?_
                refine va_get (D := (dC, dI)) (ci := 10) (v := .ref wy) (C := RX10) (T := TX10) (N := 14) hx hb hg inG10 hown hK.1 hP 0 rfl rfl 1 (Nat.le_of_ble_eq_true rfl) (hg _ wt_303) (fun _ h9 => h9) rfl dX10_read_56 ?_
                refine lv_aload_n hx hb dX10_read_59 rfl (lv_at hl 1 rfl) ?_
                refine va_get (D := (dC, dI)) (ci := 10) (v := .ref sh) (C := RX10) (T := TX10) (N := 14) hx hb hg inG10 hown hK.1 hP 0 rfl rfl 11 (Nat.le_of_ble_eq_true rfl) (hg _ wt_313) (fun _ h9 => h9) rfl dX10_read_60 ?_
                refine va_getN (D := (dC, dI)) (ci := 6) (v := .ref fi) (C := RX6) (T := TX6) (N := 7) hx hb hg inG6 hown hK.1 hP 3 rfl rfl 5 (Nat.le_of_ble_eq_true rfl) (hK.nest wn_284) (fun _ h9 => h9) rfl dX10_read_63 ?_
                refine lv_iload hx hb dX10_read_66 (lv_at hl 0 rfl) ?_
                have tn414_ : nIT kk := fun _ => nI_toInt (by first | omega | (have t_b5 := b5; have t_b10 := b10; have t_c11 := nltI c11; have t_c12 := leI c12; have t_hkk := hkk; have t_hnn := hnn; have t_hj22 := hj22; have t_n34 := n34; have tqz_ := qz12_; omega))
                have tn415_ : nIT nn := fun _ => nI_toInt (by first | omega | (have t_b5 := b5; have t_b10 := b10; have t_c11 := nltI c11; have t_c12 := leI c12; have t_hkk := hkk; have t_hnn := hnn; have t_hj22 := hj22; have t_n34 := n34; have tqz_ := qz12_; omega))
                refine va_iald hx hb hK.1 hP 7 0 rfl rfl (vp_in_nI (by first | omega | (have t_b5 := b5; have t_b10 := b10; have t_c11 := nltI c11; have t_c12 := leI c12; have t_hkk := hkk; have t_hnn := hnn; have t_hj22 := hj22; have t_n34 := n34; have tqz_ := qz12_; have tnb_ := nib6 tn402_ tn403_ tn404_ tn414_ tn415_ tn412_; omega)) (by decide)) dX10_read_68 ?_
                refine lv_cg (y := u17 j19) (by rw [nI_clamp (by omega)]) ?_
                have hPc := hP.sub (ws' := [(wy, .inr (9, [.int (nI N), .int (nI B), .int (nI D), .ref a1, .ref a2, .ref a3, .ref a4, .ref a5, .ref a6]))]) [1] rfl
                refine va_calli (va_runVN (As := [.int (u17 j19)]) (rest := []) ⟨hx, hb, hml, hown, hg⟩ (c_X9_hasStretch l dC dI G _ wy a1 a2 a3 a4 a5 a6 N B D (u17 j19) hN_N hB_B hD_D) (kwVN hg hK mfX9_hasStretch wn_527 ⟨Nat.le_of_ble_eq_true rfl, Nat.le_of_ble_eq_true rfl⟩) (preVR hK hPc (ci := 9) (r := (RX9, TX9, 9)) rfl rfl) rfl rfl hl.1 rfl (lv_room (Nat.le_of_ble_eq_true rfl)) dX10_read_69 ⟨Nat.le_of_ble_eq_true rfl, Nat.le_of_ble_eq_true rfl⟩) hS (fun q h1 h2 => absurd h2 (Nat.not_le.mpr h1)) (fun q h => hA q (Nat.le_trans hS.1 h)) (fun r35 ur35 t H1 locs ht hvm w36 hB hz1 hk1 hS => ?_)
                have hP := keepR hP hk1
                obtain ⟨w36, w36x⟩ := w36
                try simp only [l_ii, show (0 : Int32).toInt = 0 from by decide] at w36
                try rw [show (nI (N)).toInt = ((N : Nat) : Int) from tn402_ ()] at w36
                subst w36
                refine lv_if_eq (tgt := 95) hx hb dX10_read_72 rfl (fun c37 => ?_) (fun c37 => ?_)
                · skip
                  have b38 := if10_n c37
                  refine lv_bipush (v := (-20)) hx hb dX10_read_95 rfl ?_
                  refine lv_iload hx hb dX10_read_97 (lv_at hl 0 rfl) ?_
                  refine lv_isub hx hb dX10_read_99 ?_
                  have hpost : True := by
                    trivial
                  obtain ⟨hP9, hD9⟩ := va_sub2 (ws' := (([(h0, .inr (10, [.ref rd, .ref wy, .ref tr, .ref im, .ref kp, .ref od, .ref ch, .ref cr, .ref le, .ref mk, .ref tl, .ref sh, .int tf, .int rf])), (wy, .inr (9, [.int (nI N), .int (nI B), .int (nI D), .ref a1, .ref a2, .ref a3, .ref a4, .ref a5, .ref a6])), (a3, .inl (G 0, 10, .inl f3)), (sh, .inr (6, [.ref la, .ref si, .ref ce, .int u15, .int (nI u16), .ref fi, .ref se])), (la, .inl (G 0, 4, .inl fl)), (si, .inl (G 0, 4, .inl fz)), (ce, .inl (G 4, 4, .inr (.inr (.inr (.inr (fun ir => if ir < 4 then some (rc ir) else none)))))), (fi, .inl (G 0, 20, .inl u17)), (se, .inl (G 0, 20, .inl u18))] : va_W) ++ ((((List.range 4).map (fun iq => (rc iq, .inl (G 0, 40, .inl (F iq))))) : va_W) ++ []))) hP hD [0, 1, 2, 3, 4, 5, 6, 7, 8, 9, 10, 11, 12] (by decide +kernel) rfl
                  refine W.widen (k := 0) (n := 0) (Nat.le_of_ble_eq_true rfl) (Nat.le_of_ble_eq_true rfl) ?_
                  exact W.iret (v := (-20) - (nI j19)) hx hb hr (fun t ht hW => ⟨⟨(-20) - (nI j19), (u15, (nI u16), u17, u18, f3, rf), rfl, ⟨hpost, trivial⟩, ⟨by rw [ht]; exact hP9, hD9⟩⟩, hS.F ht⟩) hS.2.2 dX10_read_100
                · skip
                  have b39 := if10_p c37
                  refine lv_aload_n hx hb dX10_read_75 rfl (lv_at hl 1 rfl) ?_
                  refine va_get (D := (dC, dI)) (ci := 10) (v := .ref wy) (C := RX10) (T := TX10) (N := 14) hx hb hg inG10 hown hK.1 hP 0 rfl rfl 1 (Nat.le_of_ble_eq_true rfl) (hg _ wt_303) (fun _ h9 => h9) rfl dX10_read_76 ?_
                  refine lv_aload_n hx hb dX10_read_79 rfl (lv_at hl 1 rfl) ?_
                  refine va_get (D := (dC, dI)) (ci := 10) (v := .ref sh) (C := RX10) (T := TX10) (N := 14) hx hb hg inG10 hown hK.1 hP 0 rfl rfl 11 (Nat.le_of_ble_eq_true rfl) (hg _ wt_313) (fun _ h9 => h9) rfl dX10_read_80 ?_
                  refine va_getN (D := (dC, dI)) (ci := 6) (v := .ref se) (C := RX6) (T := TX6) (N := 7) hx hb hg inG6 hown hK.1 hP 3 rfl rfl 6 (Nat.le_of_ble_eq_true rfl) (hK.nest wn_286) (fun _ h9 => h9) rfl dX10_read_83 ?_
                  refine lv_iload hx hb dX10_read_86 (lv_at hl 0 rfl) ?_
                  refine va_iald hx hb hK.1 hP 8 0 rfl rfl (vp_in_nI (by first | omega | (have t_b5 := b5; have t_b10 := b10; have t_c11 := nltI c11; have t_c12 := leI c12; have t_hkk := hkk; have t_hnn := hnn; have t_hj22 := hj22; have t_n34 := n34; have t_b39 := b39; have tqz_ := qz12_; have tnb_ := nib6 tn402_ tn403_ tn404_ tn414_ tn415_ tn412_; omega)) (by decide)) dX10_read_88 ?_
                  refine lv_cg (y := u18 j19) (by rw [nI_clamp (by omega)]) ?_
                  have hPc := hP.sub (ws' := [(wy, .inr (9, [.int (nI N), .int (nI B), .int (nI D), .ref a1, .ref a2, .ref a3, .ref a4, .ref a5, .ref a6]))]) [1] rfl
                  refine va_calli (va_runVN (As := [.int (u18 j19)]) (rest := []) ⟨hx, hb, hml, hown, hg⟩ (c_X9_hasBearer l dC dI G _ wy a1 a2 a3 a4 a5 a6 N B D (u18 j19) hN_N hB_B hD_D) (kwVN hg hK mfX9_hasBearer wn_535 ⟨Nat.le_of_ble_eq_true rfl, Nat.le_of_ble_eq_true rfl⟩) (preVR hK hPc (ci := 9) (r := (RX9, TX9, 9)) rfl rfl) rfl rfl hl.1 rfl (lv_room (Nat.le_of_ble_eq_true rfl)) dX10_read_89 ⟨Nat.le_of_ble_eq_true rfl, Nat.le_of_ble_eq_true rfl⟩) hS (fun q h1 h2 => absurd h2 (Nat.not_le.mpr h1)) (fun q h => hA q (Nat.le_trans hS.1 h)) (fun r40 ur40 t H1 locs ht hvm w41 hB hz1 hk1 hS => ?_)
                  have hP := keepR hP hk1
                  obtain ⟨w41, w41x⟩ := w41
                  try simp only [l_ii, show (0 : Int32).toInt = 0 from by decide] at w41
                  try rw [show (nI (B)).toInt = ((B : Nat) : Int) from tn403_ ()] at w41
                  subst w41
                  refine lv_if_ne (tgt := 101) hx hb dX10_read_92 rfl (fun c42 => ?_) (fun c42 => ?_)
                  · skip
                    have b43 := if10_p c42
                    refine lv_iinc (v := nI (j19 + 1)) (lv' := [(5, .int (nI (j19 + 1))), (0, .ref h0), (1, .int (nI kk)), (2, .int lane), (3, .int x1), (4, .int (nI nn))]) hx hb dX10_read_101 hl (k := 0) rfl (by rw [show Int32.ofInt 1 = nI 1 from by decide]; exact nI_add _ _) (by decide) rfl (fun ls hl => ?_)
                    refine lv_goto (tgt := 43) hx hb dX10_read_104 rfl ?_
                    exact ih43_20 (j19 + 1) (by omega) (by omega)  _ _ (fun q9 hq9 => by rcases Nat.lt_or_eq_of_le (Nat.le_of_lt_succ hq9) with h9 | h9; exact hinv q9 h9; rw [h9]; have t_b5 := b5; have t_b10 := b10; have t_c11 := nltI c11; have t_c12 := leI c12; have t_hkk := hkk; have t_hnn := hnn; have t_hj22 := hj22; have t_n34 := n34; have t_b39 := b39; have t_b43 := b43; have tqz_ := qz12_; have tnb_ := nib6 tn402_ tn403_ tn404_ tn414_ tn415_ tn412_; exact ⟨by omega, by omega⟩) hP hD hS ls (lv_sub hl [0, 1, 2, 3, 4, 5] rfl)
                  · skip
                    have b44 := if10_n c42
                    refine lv_bipush (v := (-20)) hx hb dX10_read_95 rfl ?_
                    refine lv_iload hx hb dX10_read_97 (lv_at hl 0 rfl) ?_
                    refine lv_isub hx hb dX10_read_99 ?_
                    have hpost : True := by
                      trivial
                    obtain ⟨hP9, hD9⟩ := va_sub2 (ws' := (([(h0, .inr (10, [.ref rd, .ref wy, .ref tr, .ref im, .ref kp, .ref od, .ref ch, .ref cr, .ref le, .ref mk, .ref tl, .ref sh, .int tf, .int rf])), (wy, .inr (9, [.int (nI N), .int (nI B), .int (nI D), .ref a1, .ref a2, .ref a3, .ref a4, .ref a5, .ref a6])), (a3, .inl (G 0, 10, .inl f3)), (sh, .inr (6, [.ref la, .ref si, .ref ce, .int u15, .int (nI u16), .ref fi, .ref se])), (la, .inl (G 0, 4, .inl fl)), (si, .inl (G 0, 4, .inl fz)), (ce, .inl (G 4, 4, .inr (.inr (.inr (.inr (fun ir => if ir < 4 then some (rc ir) else none)))))), (fi, .inl (G 0, 20, .inl u17)), (se, .inl (G 0, 20, .inl u18))] : va_W) ++ ((((List.range 4).map (fun iq => (rc iq, .inl (G 0, 40, .inl (F iq))))) : va_W) ++ []))) hP hD [0, 1, 2, 3, 4, 5, 6, 7, 8, 9, 10, 11, 12] (by decide +kernel) rfl
                    refine W.widen (k := 0) (n := 0) (Nat.le_of_ble_eq_true rfl) (Nat.le_of_ble_eq_true rfl) ?_
                    exact W.iret (v := (-20) - (nI j19)) hx hb hr (fun t ht hW => ⟨⟨(-20) - (nI j19), (u15, (nI u16), u17, u18, f3, rf), rfl, ⟨hpost, trivial⟩, ⟨by rw [ht]; exact hP9, hD9⟩⟩, hS.F ht⟩) hS.2.2 dX10_read_100
          exact loop43_20 (u16 + 1) 0 (by omega) (by omega)  _ _ (fun q9 h9 => absurd h9 (by omega)) hP hD hS ls (lv_sub hl [0, 1, 2, 3, 4, 5] rfl)
        · skip
          refine lv_iconst (v := (-1)) hx hb dX10_read_26 rfl ?_
          have hpost : True := by
            trivial
          obtain ⟨hP9, hD9⟩ := va_sub2 (ws' := (([(h0, .inr (10, [.ref rd, .ref wy, .ref tr, .ref im, .ref kp, .ref od, .ref ch, .ref cr, .ref le, .ref mk, .ref tl, .ref sh, .int tf, .int rf])), (wy, .inr (9, [.int (nI N), .int (nI B), .int (nI D), .ref a1, .ref a2, .ref a3, .ref a4, .ref a5, .ref a6])), (a3, .inl (G 0, 10, .inl f3)), (sh, .inr (6, [.ref la, .ref si, .ref ce, .int x8, .int x9, .ref fi, .ref se])), (la, .inl (G 0, 4, .inl fl)), (si, .inl (G 0, 4, .inl fz)), (ce, .inl (G 4, 4, .inr (.inr (.inr (.inr (fun ir => if ir < 4 then some (rc ir) else none)))))), (fi, .inl (G 0, 20, .inl f1)), (se, .inl (G 0, 20, .inl f2))] : va_W) ++ ((((List.range 4).map (fun iq => (rc iq, .inl (G 0, 40, .inl (F iq))))) : va_W) ++ []))) hP hD [0, 1, 2, 3, 4, 5, 6, 7, 8, 9, 10, 11, 12] (by decide +kernel) rfl
          refine W.widen (k := 0) (n := 0) (Nat.le_of_ble_eq_true rfl) (Nat.le_of_ble_eq_true rfl) ?_
          exact W.iret (v := (-1)) hx hb hr (fun t ht hW => ⟨⟨(-1), (x8, x9, f1, f2, f3, rf), rfl, ⟨hpost, trivial⟩, ⟨by rw [ht]; exact hP9, hD9⟩⟩, hS.F ht⟩) hS.2.2 dX10_read_27

set_option maxHeartbeats 1000000 in
set_option maxRecDepth 100000 in
theorem c_X10_count (l : Launch) (dC : Nat → ClassId) (dI : Nat → Nat → Nat) (G : Nat → ClassId) (sz : Nat) (h0 rd wy tr im kp od ch cr le mk tl sh l1 l2 l3 l4 m1 m2 S Sm tp td ta T a1 a2 a3 a4 a5 a6 N B D la si ce fi se : Nat) (tf rf what dr0 dr1 dr2 dr3 dr4 dr5 dr6 dr7 dr8 dr9 x8 x9 : Int32) (fk f3 fl fz : Nat → Int32) (hS0 : S ≤ 8) (hT : T ≤ 320) (hN_N : N ≤ 10) (hB_B : B ≤ 6) (hD_D : 1 ≤ D ∧ D ≤ 9) (hSm : Sm ≤ 6) : Met l yX10_count (Cond.code yX10_count cX10_count 2 (some .int) :: GT) ({ frames := 1, cells := 0, slots := 0, locals := 22 } : Room) (PcR [.ref h0, .int what] dC dI G [(h0, .inr (10, [.ref rd, .ref wy, .ref tr, .ref im, .ref kp, .ref od, .ref ch, .ref cr, .ref le, .ref mk, .ref tl, .ref sh, .int tf, .int rf])), (le, .inr (2, [.int (nI S), .ref l1, .ref l2, .ref l3, .ref l4])), (mk, .inr (3, [.int (nI Sm), .ref m1, .ref m2])), (kp, .inl (G 2, 2, .inl fk)), (rd, .inr (5, [.ref tp, .ref td, .int dr0, .int dr1, .int dr2, .int dr3, .int dr4, .int dr5, .int dr6, .int dr7, .int dr8, .int dr9])), (tp, .inr (7, [.int (nI T), .ref ta])), (wy, .inr (9, [.int (nI N), .int (nI B), .int (nI D), .ref a1, .ref a2, .ref a3, .ref a4, .ref a5, .ref a6])), (a3, .inl (G 0, 10, .inl f3)), (sh, .inr (6, [.ref la, .ref si, .ref ce, .int x8, .int x9, .ref fi, .ref se])), (la, .inl (G 0, 4, .inl fl)), (si, .inl (G 0, 4, .inl fz))] sz) (va_Qi (fun (r : Int32) (u : Unit) => match u with | _ => (True) ∧ True) (fun _ _ => True) (fun q : Nat => sz ≤ q)) 0 0 (fun q : Nat => sz ≤ q) := by
  have tn416_ : nIT N := fun _ => nI_toInt (by omega)
  have tn417_ : nIT B := fun _ => nI_toInt (by omega)
  have tn418_ : nIT D := fun _ => nI_toInt (by omega)
  have tn419_ : nIT T := fun _ => nI_toInt (by omega)
  have tn420_ : nIT S := fun _ => nI_toInt (by omega)
  refine Met.ofW (cc := cX10_count) (maxL := 2) (ret := (some .int)) (by decide) rfl ?_
  intro p e s m args below meth c s₁ Bd hml hv
  obtain ⟨rfl, hsz, hP, hK⟩ := hv
  have hx := Bd.exec
  have hb := Bd.bytes
  have hr := Bd.returns
  have hg : ∀ w ∈ GT, w.before ([.ref h0, .int what] : List Value).toArray s = true := fun w h => atoms_spec (ws := Cond.code yX10_count cX10_count 2 (some .int) :: GT) Bd.pre w (List.mem_cons_of_mem _ h)
  have hown : s.vm.findClass RX10 = some m.cls := findClass_of_methodNamed Bd.named
  have hlocks := Bd.notSynchronized
  subst hsz
  have hA : ∀ q : Nat, s.heap.size ≤ q → (fun q : Nat => s.heap.size ≤ q) q := fun _ h => h
  have hS : va_S (fun q : Nat => s.heap.size ≤ q) s.heap s.heap [] := va_S.rf
  have hl := lv_entry ([.ref h0, .int what]) (n := 2) (Nat.le_of_ble_eq_true rfl)
  rw [lg_entry_eq]
  generalize (lg_sl ([.ref h0, .int what]) ++ List.replicate (2 - (lg_sl ([.ref h0, .int what])).length) Slot.unset).toArray = ls at hl ⊢
  have hl : lv_has ls 2 [(0, .ref h0), (1, .int what)] := hl
  refine lv_iload_n hx hb dX10_count_0 rfl (lv_at hl 1 rfl) ?_
  by_cases c1 : what = 0
  · skip
    refine lv_cg c1 ?_
    refine lv_tableIn (tgt := 40) hx hb dX10_count_1 (by decide) (by decide) rfl (by decide) ?_
    refine lv_aload_n hx hb dX10_count_40 rfl (lv_at hl 0 rfl) ?_
    refine va_get (D := (dC, dI)) (ci := 10) (v := .ref le) (C := RX10) (T := TX10) (N := 14) hx hb hg inG10 hown hK.1 hP 0 rfl rfl 8 (Nat.le_of_ble_eq_true rfl) (hg _ wt_310) (fun _ h9 => h9) rfl dX10_count_41 ?_
    refine va_getN (D := (dC, dI)) (ci := 2) (v := .int (nI S)) (C := RX2) (T := TX2) (N := 5) hx hb hg inG2 hown hK.1 hP 1 rfl rfl 0 (Nat.le_of_ble_eq_true rfl) (hK.nest wn_218) (fun _ h9 => h9) rfl dX10_count_44 ?_
    have hpost : True := by
      trivial
    refine W.widen (k := 0) (n := 0) (Nat.le_of_ble_eq_true rfl) (Nat.le_of_ble_eq_true rfl) ?_
    exact W.iret (v := nI S) hx hb hr (fun t ht hW => ⟨⟨nI S, (), rfl, ⟨hpost, trivial⟩, trivial⟩, hS.F ht⟩) hS.2.2 dX10_count_47
  · skip
    by_cases c2 : what = 1
    · skip
      refine lv_cg c2 ?_
      refine lv_tableIn (tgt := 48) hx hb dX10_count_1 (by decide) (by decide) rfl (by decide) ?_
      refine lv_aload_n hx hb dX10_count_48 rfl (lv_at hl 0 rfl) ?_
      refine va_get (D := (dC, dI)) (ci := 10) (v := .ref mk) (C := RX10) (T := TX10) (N := 14) hx hb hg inG10 hown hK.1 hP 0 rfl rfl 9 (Nat.le_of_ble_eq_true rfl) (hg _ wt_311) (fun _ h9 => h9) rfl dX10_count_49 ?_
      refine va_getN (D := (dC, dI)) (ci := 3) (v := .int (nI Sm)) (C := RX3) (T := TX3) (N := 3) hx hb hg inG3 hown hK.1 hP 2 rfl rfl 0 (Nat.le_of_ble_eq_true rfl) (hK.nest wn_241) (fun _ h9 => h9) rfl dX10_count_52 ?_
      have hpost : True := by
        trivial
      refine W.widen (k := 0) (n := 0) (Nat.le_of_ble_eq_true rfl) (Nat.le_of_ble_eq_true rfl) ?_
      exact W.iret (v := nI Sm) hx hb hr (fun t ht hW => ⟨⟨nI Sm, (), rfl, ⟨hpost, trivial⟩, trivial⟩, hS.F ht⟩) hS.2.2 dX10_count_55
    · skip
      by_cases c3 : what = 2
      · skip
        refine lv_cg c3 ?_
        refine lv_tableIn (tgt := 56) hx hb dX10_count_1 (by decide) (by decide) rfl (by decide) ?_
        refine lv_aload_n hx hb dX10_count_56 rfl (lv_at hl 0 rfl) ?_
        refine va_get (D := (dC, dI)) (ci := 10) (v := .ref kp) (C := RX10) (T := TX10) (N := 14) hx hb hg inG10 hown hK.1 hP 0 rfl rfl 4 (Nat.le_of_ble_eq_true rfl) (hg _ wt_306) (fun _ h9 => h9) rfl dX10_count_57 ?_
        refine lv_iconst (v := 0) hx hb dX10_count_60 rfl ?_
        refine va_zald hx hb hK.1 hP 3 2 rfl rfl (vp_in_iff.mpr ⟨by decide, by decide⟩) dX10_count_61 ?_
        refine lv_cg (y := fk 0) (by rfl) ?_
        refine lv_if_eq (tgt := 69) hx hb dX10_count_62 rfl (fun c4 => ?_) (fun c4 => ?_)
        · skip
          refine lv_iconst (v := 0) hx hb dX10_count_69 rfl ?_
          refine lv_aload_n hx hb dX10_count_70 rfl (lv_at hl 0 rfl) ?_
          refine va_get (D := (dC, dI)) (ci := 10) (v := .ref kp) (C := RX10) (T := TX10) (N := 14) hx hb hg inG10 hown hK.1 hP 0 rfl rfl 4 (Nat.le_of_ble_eq_true rfl) (hg _ wt_306) (fun _ h9 => h9) rfl dX10_count_71 ?_
          refine lv_iconst (v := 1) hx hb dX10_count_74 rfl ?_
          refine va_zald hx hb hK.1 hP 3 2 rfl rfl (vp_in_iff.mpr ⟨by decide, by decide⟩) dX10_count_75 ?_
          refine lv_cg (y := fk 1) (by rfl) ?_
          refine lv_if_eq (tgt := 83) hx hb dX10_count_76 rfl (fun c5 => ?_) (fun c5 => ?_)
          · skip
            refine lv_iconst (v := 0) hx hb dX10_count_83 rfl ?_
            refine lv_iadd hx hb dX10_count_84 ?_
            refine lv_cg (y := 0) (by decide) ?_
            have hpost : True := by
              trivial
            refine W.widen (k := 0) (n := 0) (Nat.le_of_ble_eq_true rfl) (Nat.le_of_ble_eq_true rfl) ?_
            exact W.iret (v := 0) hx hb hr (fun t ht hW => ⟨⟨0, (), rfl, ⟨hpost, trivial⟩, trivial⟩, hS.F ht⟩) hS.2.2 dX10_count_85
          · skip
            refine lv_iconst (v := 1) hx hb dX10_count_79 rfl ?_
            refine lv_goto (tgt := 84) hx hb dX10_count_80 rfl ?_
            refine lv_iadd hx hb dX10_count_84 ?_
            refine lv_cg (y := 1) (by decide) ?_
            have hpost : True := by
              trivial
            refine W.widen (k := 0) (n := 0) (Nat.le_of_ble_eq_true rfl) (Nat.le_of_ble_eq_true rfl) ?_
            exact W.iret (v := 1) hx hb hr (fun t ht hW => ⟨⟨1, (), rfl, ⟨hpost, trivial⟩, trivial⟩, hS.F ht⟩) hS.2.2 dX10_count_85
        · skip
          refine lv_iconst (v := 1) hx hb dX10_count_65 rfl ?_
          refine lv_goto (tgt := 70) hx hb dX10_count_66 rfl ?_
          refine lv_aload_n hx hb dX10_count_70 rfl (lv_at hl 0 rfl) ?_
          refine va_get (D := (dC, dI)) (ci := 10) (v := .ref kp) (C := RX10) (T := TX10) (N := 14) hx hb hg inG10 hown hK.1 hP 0 rfl rfl 4 (Nat.le_of_ble_eq_true rfl) (hg _ wt_306) (fun _ h9 => h9) rfl dX10_count_71 ?_
          refine lv_iconst (v := 1) hx hb dX10_count_74 rfl ?_
          refine va_zald hx hb hK.1 hP 3 2 rfl rfl (vp_in_iff.mpr ⟨by decide, by decide⟩) dX10_count_75 ?_
          refine lv_cg (y := fk 1) (by rfl) ?_
          refine lv_if_eq (tgt := 83) hx hb dX10_count_76 rfl (fun c6 => ?_) (fun c6 => ?_)
          · skip
            refine lv_iconst (v := 0) hx hb dX10_count_83 rfl ?_
            refine lv_iadd hx hb dX10_count_84 ?_
            refine lv_cg (y := 1) (by decide) ?_
            have hpost : True := by
              trivial
            refine W.widen (k := 0) (n := 0) (Nat.le_of_ble_eq_true rfl) (Nat.le_of_ble_eq_true rfl) ?_
            exact W.iret (v := 1) hx hb hr (fun t ht hW => ⟨⟨1, (), rfl, ⟨hpost, trivial⟩, trivial⟩, hS.F ht⟩) hS.2.2 dX10_count_85
          · skip
            refine lv_iconst (v := 1) hx hb dX10_count_79 rfl ?_
            refine lv_goto (tgt := 84) hx hb dX10_count_80 rfl ?_
            refine lv_iadd hx hb dX10_count_84 ?_
            refine lv_cg (y := 2) (by decide) ?_
            have hpost : True := by
              trivial
            refine W.widen (k := 0) (n := 0) (Nat.le_of_ble_eq_true rfl) (Nat.le_of_ble_eq_true rfl) ?_
            exact W.iret (v := 2) hx hb hr (fun t ht hW => ⟨⟨2, (), rfl, ⟨hpost, trivial⟩, trivial⟩, hS.F ht⟩) hS.2.2 dX10_count_85
      · skip
        by_cases c7 : what = 3
        · skip
          refine lv_cg c7 ?_
          refine lv_tableIn (tgt := 86) hx hb dX10_count_1 (by decide) (by decide) rfl (by decide) ?_
          refine lv_aload_n hx hb dX10_count_86 rfl (lv_at hl 0 rfl) ?_
          refine va_get (D := (dC, dI)) (ci := 10) (v := .ref rd) (C := RX10) (T := TX10) (N := 14) hx hb hg inG10 hown hK.1 hP 0 rfl rfl 0 (Nat.le_of_ble_eq_true rfl) (hg _ wt_302) (fun _ h9 => h9) rfl dX10_count_87 ?_
          refine va_getN (D := (dC, dI)) (ci := 5) (v := .ref tp) (C := RX5) (T := TX5) (N := 12) hx hb hg inG5 hown hK.1 hP 4 rfl rfl 0 (Nat.le_of_ble_eq_true rfl) (hK.nest wn_106) (fun _ h9 => h9) rfl dX10_count_90 ?_
          refine va_getN (D := (dC, dI)) (ci := 7) (v := .int (nI T)) (C := RX7) (T := TX7) (N := 2) hx hb hg inG7 hown hK.1 hP 5 rfl rfl 0 (Nat.le_of_ble_eq_true rfl) (hK.nest wn_42) (fun _ h9 => h9) rfl dX10_count_93 ?_
          have hpost : True := by
            trivial
          refine W.widen (k := 0) (n := 0) (Nat.le_of_ble_eq_true rfl) (Nat.le_of_ble_eq_true rfl) ?_
          exact W.iret (v := nI T) hx hb hr (fun t ht hW => ⟨⟨nI T, (), rfl, ⟨hpost, trivial⟩, trivial⟩, hS.F ht⟩) hS.2.2 dX10_count_96
        · skip
          by_cases c8 : what = 4
          · skip
            refine lv_cg c8 ?_
            refine lv_tableIn (tgt := 97) hx hb dX10_count_1 (by decide) (by decide) rfl (by decide) ?_
            refine lv_aload_n hx hb dX10_count_97 rfl (lv_at hl 0 rfl) ?_
            refine va_get (D := (dC, dI)) (ci := 10) (v := .ref sh) (C := RX10) (T := TX10) (N := 14) hx hb hg inG10 hown hK.1 hP 0 rfl rfl 11 (Nat.le_of_ble_eq_true rfl) (hg _ wt_313) (fun _ h9 => h9) rfl dX10_count_98 ?_
            refine lv_iconst (v := 0) hx hb dX10_count_101 rfl ?_
            have hPc := hP.sub (ws' := [(sh, .inr (6, [.ref la, .ref si, .ref ce, .int x8, .int x9, .ref fi, .ref se])), (la, .inl (G 0, 4, .inl fl)), (si, .inl (G 0, 4, .inl fz))]) [8, 9, 10] rfl
            have tn421_ : nIT Sm := fun _ => nI_toInt (by first | omega | (have t_c1 := neI c1; have t_c2 := neI c2; have t_c3 := neI c3; have t_c7 := neI c7; have t_c8 := eqI c8; have tqz_ := qz13_; omega))
            refine va_calli (va_runVN (As := [.int 0]) (rest := []) ⟨hx, hb, hml, hown, hg⟩ (c_X6_sizeOf l dC dI G _ sh la si ce fi se 0 x8 x9 fl fz (by first | omega | (have t_c1 := neI c1; have t_c2 := neI c2; have t_c3 := neI c3; have t_c7 := neI c7; have t_c8 := eqI c8; have tqz_ := qz13_; have tnb_ := nib6 tn420_ tn421_ tn419_ tn416_ tn417_ tn418_; have : (0 : Int32).toInt = 0 := qI_0; omega))) (kwVN hg hK mfX6_sizeOf wn_864 ⟨Nat.le_of_ble_eq_true rfl, Nat.le_of_ble_eq_true rfl⟩) (preVR hK hPc (ci := 6) (r := (RX6, TX6, 7)) rfl rfl) rfl rfl hl.1 rfl (lv_room (Nat.le_of_ble_eq_true rfl)) dX10_count_102 ⟨Nat.le_of_ble_eq_true rfl, Nat.le_of_ble_eq_true rfl⟩) hS (fun q h1 h2 => absurd h2 (Nat.not_le.mpr h1)) (fun q h => hA q (Nat.le_trans hS.1 h)) (fun r9 ur9 t H1 locs ht hvm w10 hB hz1 hk1 hS => ?_)
            have hP := keepR hP hk1
            obtain ⟨w10, w10x⟩ := w10
            have hpost : True := by
              trivial
            refine W.widen (k := 0) (n := 0) (Nat.le_of_ble_eq_true rfl) (Nat.le_of_ble_eq_true rfl) ?_
            exact W.iret (v := r9) hx hb hr (fun t ht hW => ⟨⟨r9, (), rfl, ⟨hpost, trivial⟩, trivial⟩, hS.F ht⟩) hS.2.2 dX10_count_105
          · skip
            by_cases c11 : what = 5
            · skip
              refine lv_cg c11 ?_
              refine lv_tableIn (tgt := 106) hx hb dX10_count_1 (by decide) (by decide) rfl (by decide) ?_
              refine lv_aload_n hx hb dX10_count_106 rfl (lv_at hl 0 rfl) ?_
              refine va_get (D := (dC, dI)) (ci := 10) (v := .ref wy) (C := RX10) (T := TX10) (N := 14) hx hb hg inG10 hown hK.1 hP 0 rfl rfl 1 (Nat.le_of_ble_eq_true rfl) (hg _ wt_303) (fun _ h9 => h9) rfl dX10_count_107 ?_
              have hPc := hP.sub (ws' := [(wy, .inr (9, [.int (nI N), .int (nI B), .int (nI D), .ref a1, .ref a2, .ref a3, .ref a4, .ref a5, .ref a6])), (a3, .inl (G 0, 10, .inl f3))]) [6, 7] rfl
              have tn422_ : nIT Sm := fun _ => nI_toInt (by first | omega | (have t_c1 := neI c1; have t_c2 := neI c2; have t_c3 := neI c3; have t_c7 := neI c7; have t_c8 := neI c8; have t_c11 := eqI c11; have tqz_ := qz14_; omega))
              refine va_calli (va_runVN (As := []) (rest := []) ⟨hx, hb, hml, hown, hg⟩ (c_X9_handOvers l dC dI G _ wy a1 a2 a3 a4 a5 a6 N B D f3 hN_N hB_B hD_D) (kwVN hg hK mfX9_handOvers wn_868 ⟨Nat.le_of_ble_eq_true rfl, Nat.le_of_ble_eq_true rfl⟩) (preVR hK hPc (ci := 9) (r := (RX9, TX9, 9)) rfl rfl) rfl rfl hl.1 rfl (lv_room (Nat.le_of_ble_eq_true rfl)) dX10_count_110 ⟨Nat.le_of_ble_eq_true rfl, Nat.le_of_ble_eq_true rfl⟩) hS (fun q h1 h2 => absurd h2 (Nat.not_le.mpr h1)) (fun q h => hA q (Nat.le_trans hS.1 h)) (fun r12 ur12 t H1 locs ht hvm w13 hB hz1 hk1 hS => ?_)
              have hP := keepR hP hk1
              obtain ⟨w13, w13x⟩ := w13
              have hpost : True := by
                trivial
              refine W.widen (k := 0) (n := 0) (Nat.le_of_ble_eq_true rfl) (Nat.le_of_ble_eq_true rfl) ?_
              exact W.iret (v := r12) hx hb hr (fun t ht hW => ⟨⟨r12, (), rfl, ⟨hpost, trivial⟩, trivial⟩, hS.F ht⟩) hS.2.2 dX10_count_113
            · skip
              have tn423_ : nIT Sm := fun _ => nI_toInt (by first | omega | (have t_c1 := neI c1; have t_c2 := neI c2; have t_c3 := neI c3; have t_c7 := neI c7; have t_c8 := neI c8; have t_c11 := neI c11; have tqz_ := qz14_; omega))
              refine lv_tableOut (tgt := 114) hx hb dX10_count_1 (by have t_c1 := neI c1; have t_c2 := neI c2; have t_c3 := neI c3; have t_c7 := neI c7; have t_c8 := neI c8; have t_c11 := neI c11; have tqz_ := qz14_; have tnb_ := nib6 tn420_ tn423_ tn419_ tn416_ tn417_ tn418_; omega) (by decide) ?_
              refine lv_iconst (v := (-1)) hx hb dX10_count_114 rfl ?_
              have hpost : True := by
                trivial
              refine W.widen (k := 0) (n := 0) (Nat.le_of_ble_eq_true rfl) (Nat.le_of_ble_eq_true rfl) ?_
              exact W.iret (v := (-1)) hx hb hr (fun t ht hW => ⟨⟨(-1), (), rfl, ⟨hpost, trivial⟩, trivial⟩, hS.F ht⟩) hS.2.2 dX10_count_115

set_option maxHeartbeats 1000000 in
set_option maxRecDepth 100000 in
theorem c_J0_coder_7d493 (l : Launch) (dC : Nat → ClassId) (dI : Nat → Nat → Nat) (G : Nat → ClassId) (sz : Nat) (i : Nat) (adK adV : Nat → Nat) (hi : i < 10) : Met l yJ0_coder_7d493 (Cond.code yJ0_coder_7d493 cJ0_coder_7d493 1 (some .byte) :: GT) ({ frames := 0, cells := 0, slots := 0, locals := 0 } : Room) (PcRS [.ref (adK i)] dC dI G [] adK adV sz) (va_Qi (fun (r : Int32) (u : Unit) => match u with | _ => (r = 0) ∧ True) (fun _ _ => True) (fun q : Nat => sz ≤ q)) 0 0 (fun q : Nat => sz ≤ q) := by
  refine va_MetF (cc := cJ0_coder_7d493) (maxL := 1) (ret := (some .byte)) (by decide +kernel) rfl ?_
  intro p e s m args below meth c s₁ Bd hml hv
  obtain ⟨rfl, hsz, hP, hK, hSS⟩ := hv
  have hx := Bd.exec
  have hb := Bd.bytes
  have hr := Bd.returns
  have hg : ∀ w ∈ GT, w.before ([.ref (adK i)] : List Value).toArray s = true := fun w h => atoms_spec (ws := Cond.code yJ0_coder_7d493 cJ0_coder_7d493 1 (some .byte) :: GT) Bd.pre w (List.mem_cons_of_mem _ h)
  have hown : s.vm.findClass RJ0 = some m.cls := findClass_of_methodNamed Bd.named
  have hlocks := Bd.notSynchronized
  subst hsz
  have hA : ∀ q : Nat, s.heap.size ≤ q → (fun q : Nat => s.heap.size ≤ q) q := fun _ h => h
  have hS : va_S (fun q : Nat => s.heap.size ≤ q) s.heap s.heap [] := va_S.rf
  have hl := lv_entry ([.ref (adK i)]) (n := 1) (Nat.le_of_ble_eq_true rfl)
  rw [lg_entry_eq]
  generalize (lg_sl ([.ref (adK i)]) ++ List.replicate (1 - (lg_sl ([.ref (adK i)])).length) Slot.unset).toArray = ls at hl ⊢
  have hl : lv_has ls 1 [(0, .ref (adK i))] := hl
  refine va_gets hx hb hSS.2.2.1 hS hown (hg _ wt_411) (fun _ h9 => h9) dJ0_coder_7d493_0 ?_
  refine lv_if_eq (tgt := 13) hx hb dJ0_coder_7d493_3 rfl (fun c1 => ?_) (fun c1 => ?_)
  · skip
    exact absurd c1 (by decide)
  · skip
    refine lv_aload_n hx hb dJ0_coder_7d493_6 rfl (lv_at hl 0 rfl) ?_
    refine va_getS hx hb (hSS.1.1 i (by omega)).2.1 hS hown (hg _ wt_1278) (fun _ h9 => h9) dJ0_coder_7d493_7 ?_
    refine lv_goto (tgt := 14) hx hb dJ0_coder_7d493_10 rfl ?_
    have hpost : (0 : Int32) = 0 := by
      have t_c1 := neI c1
      have : (0 : Int32).toInt = 0 := qI_0
      have : (1 : Int32).toInt = 1 := qI_1
      first | rfl | ((repeat' split) <;> first | rfl | omega)
    refine W.widen (k := 0) (n := 0) (Nat.le_of_ble_eq_true rfl) (Nat.le_of_ble_eq_true rfl) ?_
    exact W.zret (v := 0) hx hb hr (by first | rfl | decide | exact rfl) (fun t ht hW => ⟨⟨0, (), rfl, ⟨hpost, trivial⟩, trivial⟩, hS.F ht⟩) hS.2.2 dJ0_coder_7d493_14

set_option maxHeartbeats 1000000 in
set_option maxRecDepth 100000 in
theorem c_J0_length_8abf5 (l : Launch) (dC : Nat → ClassId) (dI : Nat → Nat → Nat) (G : Nat → ClassId) (sz : Nat) (i : Nat) (adK adV : Nat → Nat) (hi : i < 10) : Met l yJ0_length_8abf5 (Cond.code yJ0_length_8abf5 cJ0_length_8abf5 1 (some .int) :: GT) ({ frames := 1, cells := 0, slots := 0, locals := 20 } : Room) (PcRS [.ref (adK i)] dC dI G [] adK adV sz) (va_Qi (fun (r : Int32) (u : Unit) => match u with | _ => (r = nI (strLen.getD i 0)) ∧ True) (fun _ _ => True) (fun q : Nat => sz ≤ q)) 0 0 (fun q : Nat => sz ≤ q) := by
  refine va_MetF (cc := cJ0_length_8abf5) (maxL := 1) (ret := (some .int)) (by decide +kernel) rfl ?_
  intro p e s m args below meth c s₁ Bd hml hv
  obtain ⟨rfl, hsz, hP, hK, hSS⟩ := hv
  have hx := Bd.exec
  have hb := Bd.bytes
  have hr := Bd.returns
  have hg : ∀ w ∈ GT, w.before ([.ref (adK i)] : List Value).toArray s = true := fun w h => atoms_spec (ws := Cond.code yJ0_length_8abf5 cJ0_length_8abf5 1 (some .int) :: GT) Bd.pre w (List.mem_cons_of_mem _ h)
  have hown : s.vm.findClass RJ0 = some m.cls := findClass_of_methodNamed Bd.named
  have hlocks := Bd.notSynchronized
  subst hsz
  have hA : ∀ q : Nat, s.heap.size ≤ q → (fun q : Nat => s.heap.size ≤ q) q := fun _ h => h
  have hS : va_S (fun q : Nat => s.heap.size ≤ q) s.heap s.heap [] := va_S.rf
  have hl := lv_entry ([.ref (adK i)]) (n := 1) (Nat.le_of_ble_eq_true rfl)
  rw [lg_entry_eq]
  generalize (lg_sl ([.ref (adK i)]) ++ List.replicate (1 - (lg_sl ([.ref (adK i)])).length) Slot.unset).toArray = ls at hl ⊢
  have hl : lv_has ls 1 [(0, .ref (adK i))] := hl
  have hL := strLen_le i
  refine lv_aload_n hx hb dJ0_length_8abf5_0 rfl (lv_at hl 0 rfl) ?_
  refine va_getS hx hb (hSS.1.1 i (by omega)).2.2.1 hS hown (hg _ wt_1277) (fun _ h9 => h9) dJ0_length_8abf5_1 ?_
  refine va_tlen (v := nI (strLen.getD i 0)) hx hb (hSS.1.1 i (by omega)).2.2.2 hS rfl dJ0_length_8abf5_4 ?_
  refine lv_aload_n hx hb dJ0_length_8abf5_5 rfl (lv_at hl 0 rfl) ?_
  have hPc := hP.sub (ws' := []) [] rfl
  refine va_calli (va_runV (As := []) (rest := [.int (nI (strLen.getD i 0))]) ⟨hx, hb, hml, hown, hg⟩ (c_J0_coder_7d493 l dC dI G _ i adK adV hi) (kwV hg mfJ0_coder_7d493 wt_407 ⟨Nat.le_of_ble_eq_true rfl, Nat.le_of_ble_eq_true rfl⟩) (preVX hK hPc (i := i) (by omega) hSS hS (fun q h => hA q (Nat.le_trans hS.1 h))) rfl rfl hl.1 rfl (lv_room (Nat.le_of_ble_eq_true rfl)) dJ0_length_8abf5_6 ⟨Nat.le_of_ble_eq_true rfl, Nat.le_of_ble_eq_true rfl⟩) hS (fun q h1 h2 => absurd h2 (Nat.not_le.mpr h1)) (fun q h => hA q (Nat.le_trans hS.1 h)) (fun r1 ur1 t H1 locs ht hvm w2 hB hz1 hk1 hS => ?_)
  have hP := keepR hP hk1
  obtain ⟨w2, w2x⟩ := w2
  subst w2
  refine lv_ishr hx hb dJ0_length_8abf5_9 ?_
  refine lv_cg (y := nI (strLen.getD i 0)) (sc_shr0 (by omega)) ?_
  have hpost : (nI (strLen.getD i 0) : Int32) = nI (strLen.getD i 0) := by
    first | rfl | ((repeat' split) <;> first | rfl | omega)
  refine W.widen (k := 0) (n := 0) (Nat.le_of_ble_eq_true rfl) (Nat.le_of_ble_eq_true rfl) ?_
  exact W.iret (v := nI (strLen.getD i 0)) hx hb hr (fun t ht hW => ⟨⟨nI (strLen.getD i 0), (), rfl, ⟨hpost, trivial⟩, trivial⟩, hS.F ht⟩) hS.2.2 dJ0_length_8abf5_10

set_option maxHeartbeats 1000000 in
set_option maxRecDepth 100000 in
theorem c_J0_isLatin1_aae02 (l : Launch) (dC : Nat → ClassId) (dI : Nat → Nat → Nat) (G : Nat → ClassId) (sz : Nat) (i : Nat) (adK adV : Nat → Nat) (hi : i < 10) : Met l yJ0_isLatin1_aae02 (Cond.code yJ0_isLatin1_aae02 cJ0_isLatin1_aae02 1 (some .boolean) :: GT) ({ frames := 0, cells := 0, slots := 0, locals := 0 } : Room) (PcRS [.ref (adK i)] dC dI G [] adK adV sz) (va_Qi (fun (r : Int32) (u : Unit) => match u with | _ => (r = 1) ∧ True) (fun _ _ => True) (fun q : Nat => sz ≤ q)) 0 0 (fun q : Nat => sz ≤ q) := by
  refine va_MetF (cc := cJ0_isLatin1_aae02) (maxL := 1) (ret := (some .boolean)) (by decide +kernel) rfl ?_
  intro p e s m args below meth c s₁ Bd hml hv
  obtain ⟨rfl, hsz, hP, hK, hSS⟩ := hv
  have hx := Bd.exec
  have hb := Bd.bytes
  have hr := Bd.returns
  have hg : ∀ w ∈ GT, w.before ([.ref (adK i)] : List Value).toArray s = true := fun w h => atoms_spec (ws := Cond.code yJ0_isLatin1_aae02 cJ0_isLatin1_aae02 1 (some .boolean) :: GT) Bd.pre w (List.mem_cons_of_mem _ h)
  have hown : s.vm.findClass RJ0 = some m.cls := findClass_of_methodNamed Bd.named
  have hlocks := Bd.notSynchronized
  subst hsz
  have hA : ∀ q : Nat, s.heap.size ≤ q → (fun q : Nat => s.heap.size ≤ q) q := fun _ h => h
  have hS : va_S (fun q : Nat => s.heap.size ≤ q) s.heap s.heap [] := va_S.rf
  have hl := lv_entry ([.ref (adK i)]) (n := 1) (Nat.le_of_ble_eq_true rfl)
  rw [lg_entry_eq]
  generalize (lg_sl ([.ref (adK i)]) ++ List.replicate (1 - (lg_sl ([.ref (adK i)])).length) Slot.unset).toArray = ls at hl ⊢
  have hl : lv_has ls 1 [(0, .ref (adK i))] := hl
  refine va_gets hx hb hSS.2.2.1 hS hown (hg _ wt_411) (fun _ h9 => h9) dJ0_isLatin1_aae02_0 ?_
  refine lv_if_eq (tgt := 17) hx hb dJ0_isLatin1_aae02_3 rfl (fun c1 => ?_) (fun c1 => ?_)
  · skip
    exact absurd c1 (by decide)
  · skip
    refine lv_aload_n hx hb dJ0_isLatin1_aae02_6 rfl (lv_at hl 0 rfl) ?_
    refine va_getS hx hb (hSS.1.1 i (by omega)).2.1 hS hown (hg _ wt_1278) (fun _ h9 => h9) dJ0_isLatin1_aae02_7 ?_
    refine lv_if_ne (tgt := 17) hx hb dJ0_isLatin1_aae02_10 rfl (fun c2 => ?_) (fun c2 => ?_)
    · skip
      exact absurd c2 (by decide)
    · skip
      refine lv_iconst (v := 1) hx hb dJ0_isLatin1_aae02_13 rfl ?_
      refine lv_goto (tgt := 18) hx hb dJ0_isLatin1_aae02_14 rfl ?_
      have hpost : (1 : Int32) = 1 := by
        have t_c1 := neI c1
        have t_c2 := eqI c2
        have : (0 : Int32).toInt = 0 := qI_0
        have : (1 : Int32).toInt = 1 := qI_1
        first | rfl | ((repeat' split) <;> first | rfl | omega)
      refine W.widen (k := 0) (n := 0) (Nat.le_of_ble_eq_true rfl) (Nat.le_of_ble_eq_true rfl) ?_
      exact W.zret (v := 1) hx hb hr (by first | rfl | decide | exact rfl) (fun t ht hW => ⟨⟨1, (), rfl, ⟨hpost, trivial⟩, trivial⟩, hS.F ht⟩) hS.2.2 dJ0_isLatin1_aae02_18

set_option maxHeartbeats 1000000 in
set_option maxRecDepth 100000 in
theorem c_J3_checkIndex0 (l : Launch) (dC : Nat → ClassId) (dI : Nat → Nat → Nat) (G : Nat → ClassId) (sz : Nat) (k nn : Nat) (adK adV : Nat → Nat) (hk0 : k < nn) (hk1 : nn ≤ 8) : Met l yJ3_checkIndex_8e157 (Cond.code yJ3_checkIndex_8e157 cJ3_checkIndex_8e157 3 (some .int) :: GT) ({ frames := 0, cells := 0, slots := 0, locals := 0 } : Room) (PcRS [.int (nI k), .int (nI nn), .null] dC dI G [] adK adV sz) (va_Qi (fun (r : Int32) (u : Unit) => match u with | _ => (True) ∧ True) (fun _ _ => True) (fun q : Nat => sz ≤ q)) 0 0 (fun q : Nat => sz ≤ q) := by
  refine Met.ofW (cc := cJ3_checkIndex_8e157) (maxL := 3) (ret := (some .int)) (by decide) rfl ?_
  intro p e s m args below meth c s₁ Bd hml hv
  obtain ⟨rfl, hsz, hP, hK, hSS⟩ := hv
  have hx := Bd.exec
  have hb := Bd.bytes
  have hr := Bd.returns
  have hg : ∀ w ∈ GT, w.before ([.int (nI k), .int (nI nn), .null] : List Value).toArray s = true := fun w h => atoms_spec (ws := Cond.code yJ3_checkIndex_8e157 cJ3_checkIndex_8e157 3 (some .int) :: GT) Bd.pre w (List.mem_cons_of_mem _ h)
  have hown : s.vm.findClass RJ3 = some m.cls := findClass_of_methodNamed Bd.named
  have hlocks := Bd.notSynchronized
  subst hsz
  have hA : ∀ q : Nat, s.heap.size ≤ q → (fun q : Nat => s.heap.size ≤ q) q := fun _ h => h
  have hS : va_S (fun q : Nat => s.heap.size ≤ q) s.heap s.heap [] := va_S.rf
  have hl := lv_entry ([.int (nI k), .int (nI nn), .null]) (n := 3) (Nat.le_of_ble_eq_true rfl)
  rw [lg_entry_eq]
  generalize (lg_sl ([.int (nI k), .int (nI nn), .null]) ++ List.replicate (3 - (lg_sl ([.int (nI k), .int (nI nn), .null])).length) Slot.unset).toArray = ls at hl ⊢
  have hl : lv_has ls 3 [(0, .int (nI k)), (1, .int (nI nn)), (2, .null)] := hl
  refine lv_iload_n hx hb dJ3_checkIndex_8e157_0 rfl (lv_at hl 0 rfl) ?_
  refine lv_if_lt (tgt := 9) hx hb dJ3_checkIndex_8e157_1 rfl (fun c1 => ?_) (fun c1 => ?_)
  · skip
    have t_c1 := ltI c1
    have : (0 : Int32).toInt = 0 := qI_0
    have tn424_ : nIT k := fun _ => nI_toInt (by omega)
    have t_n0 : (nI k).toInt = (k : Int) := tn424_ ()
    have tn425_ : nIT nn := fun _ => nI_toInt (by omega)
    have t_n1 : (nI nn).toInt = (nn : Int) := tn425_ ()
    have t_n0 : (nI k).toInt = (k : Int) := tn424_ ()
    exfalso; omega
  · skip
    have tn426_ : nIT k := fun _ => nI_toInt (by first | omega | (have t := nltI c1; omega))
    have n2 : 0 ≤ k := by have t := nltI c1; rw [show (nI (k)).toInt = ((k : Nat) : Int) from tn426_ ()] at t; have : (0 : Int32).toInt = 0 := qI_0; omega
    refine lv_iload_n hx hb dJ3_checkIndex_8e157_4 rfl (lv_at hl 0 rfl) ?_
    refine lv_iload_n hx hb dJ3_checkIndex_8e157_5 rfl (lv_at hl 1 rfl) ?_
    refine lv_icmp_lt (tgt := 16) hx hb dJ3_checkIndex_8e157_6 rfl (fun c3 => ?_) (fun c3 => ?_)
    · skip
      have tn427_ : nIT nn := fun _ => nI_toInt (by omega)
      have n4 : k < nn := by have t := ltI c3; rw [show (nI (k)).toInt = ((k : Nat) : Int) from tn426_ ()] at t; rw [show (nI (nn)).toInt = ((nn : Nat) : Int) from tn427_ ()] at t; omega
      refine lv_iload_n hx hb dJ3_checkIndex_8e157_16 rfl (lv_at hl 0 rfl) ?_
      have hpost : True := by
        trivial
      refine W.widen (k := 0) (n := 0) (Nat.le_of_ble_eq_true rfl) (Nat.le_of_ble_eq_true rfl) ?_
      exact W.iret (v := nI k) hx hb hr (fun t ht hW => ⟨⟨nI k, (), rfl, ⟨hpost, trivial⟩, trivial⟩, hS.F ht⟩) hS.2.2 dJ3_checkIndex_8e157_17
    · skip
      have t_n2 := n2
      have t_c3 := nltI c3
      have t_n0 : (nI k).toInt = (k : Int) := tn426_ ()
      have tn428_ : nIT nn := fun _ => nI_toInt (by omega)
      have t_n1 : (nI nn).toInt = (nn : Int) := tn428_ ()
      have t_n0 : (nI k).toInt = (k : Int) := tn426_ ()
      exfalso; omega

set_option maxHeartbeats 1000000 in
set_option maxRecDepth 100000 in
theorem c_J3_checkIndex1 (l : Launch) (dC : Nat → ClassId) (dI : Nat → Nat → Nat) (G : Nat → ClassId) (sz : Nat) (k nn fm : Nat) (adK adV : Nat → Nat) (hk0 : k < nn) (hk1 : nn ≤ 8) : Met l yJ3_checkIndex_8e157 (Cond.code yJ3_checkIndex_8e157 cJ3_checkIndex_8e157 3 (some .int) :: GT) ({ frames := 0, cells := 0, slots := 0, locals := 0 } : Room) (PcRS [.int (nI k), .int (nI nn), .ref fm] dC dI G [] adK adV sz) (va_Qi (fun (r : Int32) (u : Unit) => match u with | _ => (True) ∧ True) (fun _ _ => True) (fun q : Nat => sz ≤ q)) 0 0 (fun q : Nat => sz ≤ q) := by
  refine Met.ofW (cc := cJ3_checkIndex_8e157) (maxL := 3) (ret := (some .int)) (by decide) rfl ?_
  intro p e s m args below meth c s₁ Bd hml hv
  obtain ⟨rfl, hsz, hP, hK, hSS⟩ := hv
  have hx := Bd.exec
  have hb := Bd.bytes
  have hr := Bd.returns
  have hg : ∀ w ∈ GT, w.before ([.int (nI k), .int (nI nn), .ref fm] : List Value).toArray s = true := fun w h => atoms_spec (ws := Cond.code yJ3_checkIndex_8e157 cJ3_checkIndex_8e157 3 (some .int) :: GT) Bd.pre w (List.mem_cons_of_mem _ h)
  have hown : s.vm.findClass RJ3 = some m.cls := findClass_of_methodNamed Bd.named
  have hlocks := Bd.notSynchronized
  subst hsz
  have hA : ∀ q : Nat, s.heap.size ≤ q → (fun q : Nat => s.heap.size ≤ q) q := fun _ h => h
  have hS : va_S (fun q : Nat => s.heap.size ≤ q) s.heap s.heap [] := va_S.rf
  have hl := lv_entry ([.int (nI k), .int (nI nn), .ref fm]) (n := 3) (Nat.le_of_ble_eq_true rfl)
  rw [lg_entry_eq]
  generalize (lg_sl ([.int (nI k), .int (nI nn), .ref fm]) ++ List.replicate (3 - (lg_sl ([.int (nI k), .int (nI nn), .ref fm])).length) Slot.unset).toArray = ls at hl ⊢
  have hl : lv_has ls 3 [(0, .int (nI k)), (1, .int (nI nn)), (2, .ref fm)] := hl
  refine lv_iload_n hx hb dJ3_checkIndex_8e157_0 rfl (lv_at hl 0 rfl) ?_
  refine lv_if_lt (tgt := 9) hx hb dJ3_checkIndex_8e157_1 rfl (fun c1 => ?_) (fun c1 => ?_)
  · skip
    have t_c1 := ltI c1
    have : (0 : Int32).toInt = 0 := qI_0
    have tn429_ : nIT k := fun _ => nI_toInt (by omega)
    have t_n0 : (nI k).toInt = (k : Int) := tn429_ ()
    have tn430_ : nIT nn := fun _ => nI_toInt (by omega)
    have t_n1 : (nI nn).toInt = (nn : Int) := tn430_ ()
    have t_n0 : (nI k).toInt = (k : Int) := tn429_ ()
    exfalso; omega
  · skip
    have tn431_ : nIT k := fun _ => nI_toInt (by first | omega | (have t := nltI c1; omega))
    have n2 : 0 ≤ k := by have t := nltI c1; rw [show (nI (k)).toInt = ((k : Nat) : Int) from tn431_ ()] at t; have : (0 : Int32).toInt = 0 := qI_0; omega
    refine lv_iload_n hx hb dJ3_checkIndex_8e157_4 rfl (lv_at hl 0 rfl) ?_
    refine lv_iload_n hx hb dJ3_checkIndex_8e157_5 rfl (lv_at hl 1 rfl) ?_
    refine lv_icmp_lt (tgt := 16) hx hb dJ3_checkIndex_8e157_6 rfl (fun c3 => ?_) (fun c3 => ?_)
    · skip
      have tn432_ : nIT nn := fun _ => nI_toInt (by omega)
      have n4 : k < nn := by have t := ltI c3; rw [show (nI (k)).toInt = ((k : Nat) : Int) from tn431_ ()] at t; rw [show (nI (nn)).toInt = ((nn : Nat) : Int) from tn432_ ()] at t; omega
      refine lv_iload_n hx hb dJ3_checkIndex_8e157_16 rfl (lv_at hl 0 rfl) ?_
      have hpost : True := by
        trivial
      refine W.widen (k := 0) (n := 0) (Nat.le_of_ble_eq_true rfl) (Nat.le_of_ble_eq_true rfl) ?_
      exact W.iret (v := nI k) hx hb hr (fun t ht hW => ⟨⟨nI k, (), rfl, ⟨hpost, trivial⟩, trivial⟩, hS.F ht⟩) hS.2.2 dJ3_checkIndex_8e157_17
    · skip
      have t_n2 := n2
      have t_c3 := nltI c3
      have t_n0 : (nI k).toInt = (k : Int) := tn431_ ()
      have tn433_ : nIT nn := fun _ => nI_toInt (by omega)
      have t_n1 : (nI nn).toInt = (nn : Int) := tn433_ ()
      have t_n0 : (nI k).toInt = (k : Int) := tn431_ ()
      exfalso; omega

set_option maxHeartbeats 1000000 in
set_option maxRecDepth 100000 in
theorem c_J0_checkIndex_df160 (l : Launch) (dC : Nat → ClassId) (dI : Nat → Nat → Nat) (G : Nat → ClassId) (sz : Nat) (k nn : Nat) (adK adV : Nat → Nat) (hk0 : k < nn) (hk1 : nn ≤ 8) : Met l yJ0_checkIndex_df160 (Cond.code yJ0_checkIndex_df160 cJ0_checkIndex_df160 2 none :: GT) ({ frames := 1, cells := 0, slots := 0, locals := 22 } : Room) (PcRS [.int (nI k), .int (nI nn)] dC dI G [] adK adV sz) (va_Qv (fun (u : Unit) => match u with | _ => True) (fun _ _ => True) (fun q : Nat => sz ≤ q)) 0 0 (fun q : Nat => sz ≤ q) := by
  refine va_MetF (cc := cJ0_checkIndex_df160) (maxL := 2) (ret := none) (by decide +kernel) rfl ?_
  intro p e s m args below meth c s₁ Bd hml hv
  obtain ⟨rfl, hsz, hP, hK, hSS⟩ := hv
  have hx := Bd.exec
  have hb := Bd.bytes
  have hr := Bd.returns
  have hg : ∀ w ∈ GT, w.before ([.int (nI k), .int (nI nn)] : List Value).toArray s = true := fun w h => atoms_spec (ws := Cond.code yJ0_checkIndex_df160 cJ0_checkIndex_df160 2 none :: GT) Bd.pre w (List.mem_cons_of_mem _ h)
  have hown : s.vm.findClass RJ0 = some m.cls := findClass_of_methodNamed Bd.named
  have hlocks := Bd.notSynchronized
  subst hsz
  have hA : ∀ q : Nat, s.heap.size ≤ q → (fun q : Nat => s.heap.size ≤ q) q := fun _ h => h
  have hS : va_S (fun q : Nat => s.heap.size ≤ q) s.heap s.heap [] := va_S.rf
  have hl := lv_entry ([.int (nI k), .int (nI nn)]) (n := 2) (Nat.le_of_ble_eq_true rfl)
  rw [lg_entry_eq]
  generalize (lg_sl ([.int (nI k), .int (nI nn)]) ++ List.replicate (2 - (lg_sl ([.int (nI k), .int (nI nn)])).length) Slot.unset).toArray = ls at hl ⊢
  have hl : lv_has ls 2 [(0, .int (nI k)), (1, .int (nI nn))] := hl
  refine lv_iload_n hx hb dJ0_checkIndex_df160_0 rfl (lv_at hl 0 rfl) ?_
  refine lv_iload_n hx hb dJ0_checkIndex_df160_1 rfl (lv_at hl 1 rfl) ?_
  rcases hSS.2.2.2 with hZ9 | ⟨fm, hZ9⟩
  · skip
    refine va_gets hx hb hZ9 hS hown (hg _ wt_427) (fun _ h9 => h9) dJ0_checkIndex_df160_2 ?_
    have hPc := hP.sub (ws' := []) [] rfl
    have tn434_ : nIT k := fun _ => nI_toInt (by omega)
    have tn435_ : nIT nn := fun _ => nI_toInt (by omega)
    refine va_calli (va_runS (As := [.int (nI k), .int (nI nn), .null]) (rest := []) ⟨hx, hb, hml, hown, hg⟩ (c_J3_checkIndex0 l dC dI G _ k nn adK adV hk0 hk1) (kwS hg mfJ3_checkIndex_8e157 wt_429 ⟨Nat.le_of_ble_eq_true rfl, Nat.le_of_ble_eq_true rfl⟩) (preSRS hK hPc hSS hS (fun q h => hA q (Nat.le_trans hS.1 h))) rfl rfl hl.1 rfl (lv_room (Nat.le_of_ble_eq_true rfl)) dJ0_checkIndex_df160_5 ⟨Nat.le_of_ble_eq_true rfl, Nat.le_of_ble_eq_true rfl⟩) hS (fun q h1 h2 => absurd h2 (Nat.not_le.mpr h1)) (fun q h => hA q (Nat.le_trans hS.1 h)) (fun r1 ur1 t H1 locs ht hvm w2 hB hz1 hk1 hS => ?_)
    have hP := keepR hP hk1
    obtain ⟨w2, w2x⟩ := w2
    refine lv_pop hx hb dJ0_checkIndex_df160_8 rfl ?_
    refine W.widen (k := 0) (n := 0) (Nat.le_of_ble_eq_true rfl) (Nat.le_of_ble_eq_true rfl) ?_
    exact W.vret hx hb hr (fun t ht hW => ⟨⟨(), rfl, trivial, trivial⟩, hS.F ht⟩) hS.2.2 dJ0_checkIndex_df160_9
  · skip
    refine va_gets hx hb hZ9 hS hown (hg _ wt_427) (fun _ h9 => h9) dJ0_checkIndex_df160_2 ?_
    have hPc := hP.sub (ws' := []) [] rfl
    have tn436_ : nIT k := fun _ => nI_toInt (by omega)
    have tn437_ : nIT nn := fun _ => nI_toInt (by omega)
    refine va_calli (va_runS (As := [.int (nI k), .int (nI nn), .ref fm]) (rest := []) ⟨hx, hb, hml, hown, hg⟩ (c_J3_checkIndex1 l dC dI G _ k nn fm adK adV hk0 hk1) (kwS hg mfJ3_checkIndex_8e157 wt_429 ⟨Nat.le_of_ble_eq_true rfl, Nat.le_of_ble_eq_true rfl⟩) (preSRS hK hPc hSS hS (fun q h => hA q (Nat.le_trans hS.1 h))) rfl rfl hl.1 rfl (lv_room (Nat.le_of_ble_eq_true rfl)) dJ0_checkIndex_df160_5 ⟨Nat.le_of_ble_eq_true rfl, Nat.le_of_ble_eq_true rfl⟩) hS (fun q h1 h2 => absurd h2 (Nat.not_le.mpr h1)) (fun q h => hA q (Nat.le_trans hS.1 h)) (fun r3 ur3 t H1 locs ht hvm w4 hB hz1 hk1 hS => ?_)
    have hP := keepR hP hk1
    obtain ⟨w4, w4x⟩ := w4
    refine lv_pop hx hb dJ0_checkIndex_df160_8 rfl ?_
    refine W.widen (k := 0) (n := 0) (Nat.le_of_ble_eq_true rfl) (Nat.le_of_ble_eq_true rfl) ?_
    exact W.vret hx hb hr (fun t ht hW => ⟨⟨(), rfl, trivial, trivial⟩, hS.F ht⟩) hS.2.2 dJ0_checkIndex_df160_9


set_option maxHeartbeats 1000000 in
set_option maxRecDepth 100000 in
theorem c_X5_value (l : Launch) (dC : Nat → ClassId) (dI : Nat → Nat → Nat) (G : Nat → ClassId) (sz : Nat) (h0 tp td ta T F P : Nat) (x0 x1 x2 x3 x6 x7 x8 x9 : Int32) (f : Nat → Int32) (hT : T ≤ 320) (hF : F ≤ P) (hP0 : P ≤ T) : Met l yX5_value (Cond.code yX5_value cX5_value 3 (some .int) :: GT) ({ frames := 1, cells := 0, slots := 0, locals := 21 } : Room) (PcR [.ref h0] dC dI G [(h0, .inr (5, [.ref tp, .ref td, .int x0, .int x1, .int x2, .int x3, .int (nI F), .int (nI P), .int x6, .int x7, .int x8, .int x9])), (tp, .inr (7, [.int (nI T), .ref ta])), (ta, .inl (G 0, 320, .inl f))] sz) (va_Qi (fun (r : Int32) (u : Unit) => match u with | _ => (r = valN f T F (P - F)) ∧ True) (fun _ _ => True) (fun q : Nat => sz ≤ q)) 0 0 (fun q : Nat => sz ≤ q) := by
  have hT_ := hT
  have tn447_ : nIT T := fun _ => nI_toInt (by omega)
  refine Met.ofW (cc := cX5_value) (maxL := 3) (ret := (some .int)) (by decide) rfl ?_
  intro p e s m args below meth c s₁ Bd hml hv
  obtain ⟨rfl, hsz, hP, hK⟩ := hv
  have hx := Bd.exec
  have hb := Bd.bytes
  have hr := Bd.returns
  have hg : ∀ w ∈ GT, w.before ([.ref h0] : List Value).toArray s = true := fun w h => atoms_spec (ws := Cond.code yX5_value cX5_value 3 (some .int) :: GT) Bd.pre w (List.mem_cons_of_mem _ h)
  have hown : s.vm.findClass RX5 = some m.cls := findClass_of_methodNamed Bd.named
  have hlocks := Bd.notSynchronized
  subst hsz
  have hA : ∀ q : Nat, s.heap.size ≤ q → (fun q : Nat => s.heap.size ≤ q) q := fun _ h => h
  have hS : va_S (fun q : Nat => s.heap.size ≤ q) s.heap s.heap [] := va_S.rf
  have hl := lv_entry ([.ref h0]) (n := 3) (Nat.le_of_ble_eq_true rfl)
  rw [lg_entry_eq]
  generalize (lg_sl ([.ref h0]) ++ List.replicate (3 - (lg_sl ([.ref h0])).length) Slot.unset).toArray = ls at hl ⊢
  have hl : lv_has ls 3 [(0, .ref h0)] := hl
  refine lv_iconst (v := 0) hx hb dX5_value_0 rfl ?_
  refine lv_istore_n (lv' := [(1, .int 0), (0, .ref h0)]) hx hb dX5_value_1 rfl hl (by decide) rfl (fun ls hl => ?_)
  refine lv_aload_n hx hb dX5_value_2 rfl (lv_at hl 1 rfl) ?_
  refine va_get (D := (dC, dI)) (ci := 5) (v := .int (nI F)) (C := RX5) (T := TX5) (N := 12) hx hb hg inG5 hown hK.1 hP 0 rfl rfl 6 (Nat.le_of_ble_eq_true rfl) (hg _ wt_116) (fun _ h9 => h9) rfl dX5_value_3 ?_
  refine lv_istore_n (lv' := [(2, .int (nI F)), (1, .int 0), (0, .ref h0)]) hx hb dX5_value_6 rfl hl (by decide) rfl (fun ls hl => ?_)
  have loop7_3 : ∀ (nf j1 : Nat), P + 1 ≤ j1 + nf → j1 ≤ P → F ≤ j1 → ∀ (y2 : Int32) (H : Heap) (locs : List Loc), y2 = valN f T F (j1 - F) → va_P (dC, dI) vwCl [(h0, .inr (5, [.ref tp, .ref td, .int x0, .int x1, .int x2, .int x3, .int (nI F), .int (nI P), .int x6, .int x7, .int x8, .int x9])), (tp, .inr (7, [.int (nI T), .ref ta])), (ta, .inl (G 0, 320, .inl f))] H → va_S (fun q : Nat => s.heap.size ≤ q) s.heap H locs → ∀ (ls : Array Slot), lv_has ls 3 [(2, .int (nI j1)), (1, .int y2), (0, .ref h0)] → W p l e (headSpec (Cond.code yX5_value cX5_value 3 (some .int) :: GT) ({ frames := 1, cells := 0, slots := 0, locals := 21 } : Room)).room s m ([.ref h0] : List Value).toArray below meth c H locs 0 0 (MQ below (va_Qi (fun (r : Int32) (u : Unit) => match u with | _ => (r = valN f T F (P - F)) ∧ True) (fun _ _ => True) (fun q : Nat => s.heap.size ≤ q)) ([.ref h0] : List Value).toArray s 0 0 (fun q : Nat => s.heap.size ≤ q)) (F0 m 7 ls []) := by
    intro nf
    induction nf with
    | zero => intro j1 h1 h2; exact absurd h1 (by omega)
    | succ nf ih7_3 =>
      intro j1 hn4 hj5 hlo_j1 y2 H locs hinv hP hS ls hl
      refine lv_iload_n hx hb dX5_value_7 rfl (lv_at hl 0 rfl) ?_
      refine lv_aload_n hx hb dX5_value_8 rfl (lv_at hl 2 rfl) ?_
      refine va_get (D := (dC, dI)) (ci := 5) (v := .int (nI P)) (C := RX5) (T := TX5) (N := 12) hx hb hg inG5 hown hK.1 hP 0 rfl rfl 7 (Nat.le_of_ble_eq_true rfl) (hg _ wt_117) (fun _ h9 => h9) rfl dX5_value_9 ?_
      refine lv_icmp_ge (tgt := 38) hx hb dX5_value_12 rfl (fun c6 => ?_) (fun c6 => ?_)
      · skip
        have tn448_ : nIT j1 := fun _ => nI_toInt (by first | omega | (have t := leI c6; omega))
        have tn449_ : nIT P := fun _ => nI_toInt (by omega)
        have n7 : P ≤ j1 := by have t := leI c6; rw [show (nI (j1)).toInt = ((j1 : Nat) : Int) from tn448_ ()] at t; rw [show (nI (P)).toInt = ((P : Nat) : Int) from tn449_ ()] at t; omega
        refine lv_iload_n hx hb dX5_value_38 rfl (lv_at hl 1 rfl) ?_
        have hpost : (y2 : Int32) = valN f T F (P - F) := by
          rw [hinv, show j1 = P from (by omega)]
        refine W.widen (k := 0) (n := 0) (Nat.le_of_ble_eq_true rfl) (Nat.le_of_ble_eq_true rfl) ?_
        exact W.iret (v := y2) hx hb hr (fun t ht hW => ⟨⟨y2, (), rfl, ⟨hpost, trivial⟩, trivial⟩, hS.F ht⟩) hS.2.2 dX5_value_39
      · skip
        have tn450_ : nIT j1 := fun _ => nI_toInt (by first | omega | (have t := nleI c6; omega))
        have tn451_ : nIT P := fun _ => nI_toInt (by omega)
        have n8 : j1 < P := by have t := nleI c6; rw [show (nI (j1)).toInt = ((j1 : Nat) : Int) from tn450_ ()] at t; rw [show (nI (P)).toInt = ((P : Nat) : Int) from tn451_ ()] at t; omega
        refine lv_iload_n hx hb dX5_value_15 rfl (lv_at hl 1 rfl) ?_
        refine lv_bipush (v := 10) hx hb dX5_value_16 rfl ?_
        refine lv_imul hx hb dX5_value_18 ?_
        refine lv_aload_n hx hb dX5_value_19 rfl (lv_at hl 2 rfl) ?_
        refine va_get (D := (dC, dI)) (ci := 5) (v := .ref tp) (C := RX5) (T := TX5) (N := 12) hx hb hg inG5 hown hK.1 hP 0 rfl rfl 0 (Nat.le_of_ble_eq_true rfl) (hg _ wt_105) (fun _ h9 => h9) rfl dX5_value_20 ?_
        refine lv_iload_n hx hb dX5_value_23 rfl (lv_at hl 0 rfl) ?_
        have hPc := hP.sub (ws' := [(tp, .inr (7, [.int (nI T), .ref ta])), (ta, .inl (G 0, 320, .inl f))]) [1, 2] rfl
        have tn452_ : nIT F := fun _ => nI_toInt (by first | omega | (have t_hj5 := hj5; have t_hlo_j1 := hlo_j1; have t_n8 := n8; omega))
        refine va_calli (va_runVN (As := [.int (nI j1)]) (rest := [.int (y2 * 10)]) ⟨hx, hb, hml, hown, hg⟩ (c_X7_byteAt l dC dI G _ tp ta T (nI j1) f hT_) (kwVN hg hK mfX7_byteAt wn_382 ⟨Nat.le_of_ble_eq_true rfl, Nat.le_of_ble_eq_true rfl⟩) (preVR hK hPc (ci := 7) (r := (RX7, TX7, 2)) rfl rfl) rfl rfl hl.1 rfl (lv_room (Nat.le_of_ble_eq_true rfl)) dX5_value_24 ⟨Nat.le_of_ble_eq_true rfl, Nat.le_of_ble_eq_true rfl⟩) hS (fun q h1 h2 => absurd h2 (Nat.not_le.mpr h1)) (fun q h => hA q (Nat.le_trans hS.1 h)) (fun r9 ur9 t H1 locs ht hvm w10 hB hz1 hk1 hS => ?_)
        have hP := keepR hP hk1
        obtain ⟨w10, w10x⟩ := w10
        refine lv_iadd hx hb dX5_value_27 ?_
        refine lv_bipush (v := 48) hx hb dX5_value_28 rfl ?_
        refine lv_isub hx hb dX5_value_30 ?_
        refine lv_istore_n (lv' := [(1, .int (((y2 * 10) + r9) - 48)), (2, .int (nI j1)), (0, .ref h0)]) hx hb dX5_value_31 rfl hl (by decide) rfl (fun ls hl => ?_)
        refine lv_iinc (v := nI (j1 + 1)) (lv' := [(2, .int (nI (j1 + 1))), (1, .int (((y2 * 10) + r9) - 48)), (0, .ref h0)]) hx hb dX5_value_32 hl (k := 1) rfl (by rw [show Int32.ofInt 1 = nI 1 from by decide]; exact nI_add _ _) (by decide) rfl (fun ls hl => ?_)
        refine lv_goto (tgt := 7) hx hb dX5_value_35 rfl ?_
        exact ih7_3 (j1 + 1) (by omega) (by omega) (by omega) (((y2 * 10) + r9) - 48) _ _ (by have e9 : j1 + 1 - F = (j1 - F) + 1 := (by omega); rw [e9]; show _ = valN f T F (j1 - F) * 10 + byF f T (nI (F + (j1 - F))) - 48; rw [show F + (j1 - F) = j1 from (by omega), ← hinv, w10]; rfl) hP hS ls (lv_sub hl [0, 1, 2] rfl)
  exact loop7_3 (P + 1) F (by omega) (by omega) (by omega) 0 _ _ (by rw [Nat.sub_self]; rfl) hP hS ls (lv_sub hl [0, 1, 2] rfl)


def okS (q : Nat) (x : Int32) : Prop := (q % 49 < 38 → 0 ≤ x.toInt ∧ x.toInt ≤ 9) ∧ (38 ≤ q % 49 → q % 49 < 48 → 0 ≤ x.toInt ∧ x.toInt ≤ 5) ∧ (q % 49 = 48 → -4 ≤ x.toInt ∧ x.toInt ≤ 4)
def OKS (fs : Nat → Int32) : Prop := ∀ q : Nat, q < 196 → okS q (fs q)
def OKP (fs : Nat → Int32) : Prop := ∀ q : Nat, q < 49 → okS q (fs q)
theorem OKS.upd {fs : Nat → Int32} (h : OKS fs) {k : Nat} {x : Int32} (hx : okS k x) : OKS (upd fs k x) := by
  intro q hq
  show okS q (if q = k then x else fs q)
  split
  · rename_i e; rw [e]; exact hx
  · exact h q hq
theorem OKP.upd {fs : Nat → Int32} (h : OKP fs) {k : Nat} {x : Int32} (hx : okS k x) : OKP (upd fs k x) := by
  intro q hq
  show okS q (if q = k then x else fs q)
  split
  · rename_i e; rw [e]; exact hx
  · exact h q hq
set_option maxHeartbeats 1000000 in
set_option maxRecDepth 100000 in
theorem c_X11_in (l : Launch) (dC : Nat → ClassId) (dI : Nat → Nat → Nat) (G : Nat → ClassId) (sz : Nat) (v lo xh : Int64)  : Met l yX11_in (Cond.code yX11_in cX11_in 6 (some .boolean) :: GT) ({ frames := 0, cells := 0, slots := 0, locals := 0 } : Room) (PcR [.long v, .long lo, .long xh] dC dI G [] sz) (va_Qi (fun (r : Int32) (u : Unit) => match u with | _ => (r = if lo.toInt ≤ v.toInt ∧ v.toInt ≤ xh.toInt then 1 else 0) ∧ True) (fun _ _ => True) (fun q : Nat => sz ≤ q)) 0 0 (fun q : Nat => sz ≤ q) := by
  refine Met.ofW (cc := cX11_in) (maxL := 6) (ret := (some .boolean)) (by decide) rfl ?_
  intro p e s m args below meth c s₁ Bd hml hv
  obtain ⟨rfl, hsz, hP, hK⟩ := hv
  have hx := Bd.exec
  have hb := Bd.bytes
  have hr := Bd.returns
  have hg : ∀ w ∈ GT, w.before ([.long v, .long lo, .long xh] : List Value).toArray s = true := fun w h => atoms_spec (ws := Cond.code yX11_in cX11_in 6 (some .boolean) :: GT) Bd.pre w (List.mem_cons_of_mem _ h)
  have hown : s.vm.findClass RX11 = some m.cls := findClass_of_methodNamed Bd.named
  have hlocks := Bd.notSynchronized
  subst hsz
  have hA : ∀ q : Nat, s.heap.size ≤ q → (fun q : Nat => s.heap.size ≤ q) q := fun _ h => h
  have hS : va_S (fun q : Nat => s.heap.size ≤ q) s.heap s.heap [] := va_S.rf
  have hl := lv_entry ([.long v, .long lo, .long xh]) (n := 6) (Nat.le_of_ble_eq_true rfl)
  rw [lg_entry_eq]
  generalize (lg_sl ([.long v, .long lo, .long xh]) ++ List.replicate (6 - (lg_sl ([.long v, .long lo, .long xh])).length) Slot.unset).toArray = ls at hl ⊢
  have hl : lv_has ls 6 [(0, .long v), (2, .long lo), (4, .long xh)] := hl
  refine lv_lload_n hx hb dX11_in_0 rfl (lv_at hl 0 rfl) ?_
  refine lv_lload_n hx hb dX11_in_1 rfl (lv_at hl 1 rfl) ?_
  refine W.lcmp hx hb dX11_in_2 ?_
  refine lv_if_lt (tgt := 17) hx hb dX11_in_3 rfl (fun c1 => ?_) (fun c1 => ?_)
  · skip
    refine lv_iconst (v := 0) hx hb dX11_in_17 rfl ?_
    have hpost : (0 : Int32) = if lo.toInt ≤ v.toInt ∧ v.toInt ≤ xh.toInt then 1 else 0 := by
      have t_c1 := lcm_lt_t c1
      first | rfl | ((repeat' split) <;> first | rfl | omega)
    refine W.widen (k := 0) (n := 0) (Nat.le_of_ble_eq_true rfl) (Nat.le_of_ble_eq_true rfl) ?_
    exact W.zret (v := 0) hx hb hr (by first | rfl | decide | exact rfl) (fun t ht hW => ⟨⟨0, (), rfl, ⟨hpost, trivial⟩, trivial⟩, hS.F ht⟩) hS.2.2 dX11_in_18
  · skip
    refine lv_lload_n hx hb dX11_in_6 rfl (lv_at hl 0 rfl) ?_
    refine lv_lload hx hb dX11_in_7 (lv_at hl 2 rfl) ?_
    refine W.lcmp hx hb dX11_in_9 ?_
    refine lv_if_gt (tgt := 17) hx hb dX11_in_10 rfl (fun c2 => ?_) (fun c2 => ?_)
    · skip
      refine lv_iconst (v := 0) hx hb dX11_in_17 rfl ?_
      have hpost : (0 : Int32) = if lo.toInt ≤ v.toInt ∧ v.toInt ≤ xh.toInt then 1 else 0 := by
        have t_c1 := lcm_lt_f c1
        have t_c2 := lcm_gt_t c2
        first | rfl | ((repeat' split) <;> first | rfl | omega)
      refine W.widen (k := 0) (n := 0) (Nat.le_of_ble_eq_true rfl) (Nat.le_of_ble_eq_true rfl) ?_
      exact W.zret (v := 0) hx hb hr (by first | rfl | decide | exact rfl) (fun t ht hW => ⟨⟨0, (), rfl, ⟨hpost, trivial⟩, trivial⟩, hS.F ht⟩) hS.2.2 dX11_in_18
    · skip
      refine lv_iconst (v := 1) hx hb dX11_in_13 rfl ?_
      refine lv_goto (tgt := 18) hx hb dX11_in_14 rfl ?_
      have hpost : (1 : Int32) = if lo.toInt ≤ v.toInt ∧ v.toInt ≤ xh.toInt then 1 else 0 := by
        have t_c1 := lcm_lt_f c1
        have t_c2 := lcm_gt_f c2
        first | rfl | ((repeat' split) <;> first | rfl | omega)
      refine W.widen (k := 0) (n := 0) (Nat.le_of_ble_eq_true rfl) (Nat.le_of_ble_eq_true rfl) ?_
      exact W.zret (v := 1) hx hb hr (by first | rfl | decide | exact rfl) (fun t ht hW => ⟨⟨1, (), rfl, ⟨hpost, trivial⟩, trivial⟩, hS.F ht⟩) hS.2.2 dX11_in_18

set_option maxHeartbeats 1000000 in
set_option maxRecDepth 100000 in
theorem c_X11_byteAt (l : Launch) (dC : Nat → ClassId) (dI : Nat → Nat → Nat) (G : Nat → ClassId) (sz : Nat) (h0 k st N B rp tp T cu lt od th be ln S ma M ah bh ik la lg ce : Nat) (vrs vrb vhs vca vxs vxb vfa vbr vba vsp vhe vtk vva vto : Int32) (ftp : Nat → Int32) (hN : N ≤ 10) (hB : B ≤ 6) (hT : T ≤ 320) (hS0 : S ≤ 8) (hM : M ≤ 6) (hk : k < 1000) : Met l yX11_byteAt (Cond.code yX11_byteAt cX11_byteAt 2 (some .int) :: GT) ({ frames := 0, cells := 0, slots := 0, locals := 0 } : Room) (PcR [.ref h0, .int (nI k)] dC dI G [(h0, .inr (11, [.ref st, .int (nI N), .int (nI B), .ref rp, .int vrs, .int vrb, .int vhs, .int vca, .int vxs, .int vxb, .ref tp, .int (nI T), .int vfa, .int vbr, .int vba, .int vsp, .int vhe, .int vtk, .int vva, .ref cu, .ref lt, .ref od, .ref th, .ref be, .ref ln, .int (nI S), .ref ma, .int (nI M), .ref ah, .ref bh, .ref ik, .ref la, .ref lg, .ref ce, .int vto])), (tp, .inl (G 0, 320, .inl ftp))] sz) (va_Qi (fun (r : Int32) (u : Unit) => match u with | _ => ((k < T ∧ r = ftp k) ∨ (T ≤ k ∧ r = -4)) ∧ True) (fun _ _ => True) (fun q : Nat => sz ≤ q)) 0 0 (fun q : Nat => sz ≤ q) := by
  have tn547_ : nIT N := fun _ => nI_toInt (by omega)
  have tn548_ : nIT B := fun _ => nI_toInt (by omega)
  have tn549_ : nIT T := fun _ => nI_toInt (by omega)
  have tn550_ : nIT S := fun _ => nI_toInt (by omega)
  have tn551_ : nIT M := fun _ => nI_toInt (by omega)
  refine Met.ofW (cc := cX11_byteAt) (maxL := 2) (ret := (some .int)) (by decide) rfl ?_
  intro p e s m args below meth c s₁ Bd hml hv
  obtain ⟨rfl, hsz, hP, hK⟩ := hv
  have hx := Bd.exec
  have hb := Bd.bytes
  have hr := Bd.returns
  have hg : ∀ w ∈ GT, w.before ([.ref h0, .int (nI k)] : List Value).toArray s = true := fun w h => atoms_spec (ws := Cond.code yX11_byteAt cX11_byteAt 2 (some .int) :: GT) Bd.pre w (List.mem_cons_of_mem _ h)
  have hown : s.vm.findClass RX11 = some m.cls := findClass_of_methodNamed Bd.named
  have hlocks := Bd.notSynchronized
  subst hsz
  have hA : ∀ q : Nat, s.heap.size ≤ q → (fun q : Nat => s.heap.size ≤ q) q := fun _ h => h
  have hS : va_S (fun q : Nat => s.heap.size ≤ q) s.heap s.heap [] := va_S.rf
  have hl := lv_entry ([.ref h0, .int (nI k)]) (n := 2) (Nat.le_of_ble_eq_true rfl)
  rw [lg_entry_eq]
  generalize (lg_sl ([.ref h0, .int (nI k)]) ++ List.replicate (2 - (lg_sl ([.ref h0, .int (nI k)])).length) Slot.unset).toArray = ls at hl ⊢
  have hl : lv_has ls 2 [(0, .ref h0), (1, .int (nI k))] := hl
  refine lv_iload_n hx hb dX11_byteAt_0 rfl (lv_at hl 1 rfl) ?_
  refine lv_aload_n hx hb dX11_byteAt_1 rfl (lv_at hl 0 rfl) ?_
  refine va_get (D := (dC, dI)) (ci := 11) (v := .int (nI T)) (C := RX11) (T := TX11) (N := 35) hx hb hg inG11 hown hK.1 hP 0 rfl rfl 11 (Nat.le_of_ble_eq_true rfl) (hg _ wt_889) (fun _ h9 => h9) rfl dX11_byteAt_2 ?_
  refine lv_icmp_ge (tgt := 17) hx hb dX11_byteAt_5 rfl (fun c1 => ?_) (fun c1 => ?_)
  · skip
    have tn552_ : nIT k := fun _ => nI_toInt (by first | omega | (have t := leI c1; omega))
    have n2 : T ≤ k := by have t := leI c1; rw [show (nI (k)).toInt = ((k : Nat) : Int) from tn552_ ()] at t; rw [show (nI (T)).toInt = ((T : Nat) : Int) from tn549_ ()] at t; omega
    refine lv_bipush (v := (-4)) hx hb dX11_byteAt_17 rfl ?_
    have hpost : (k < T ∧ ((-4) : Int32) = ftp k) ∨ (T ≤ k ∧ ((-4) : Int32) = -4) := by
      have t_n2 := n2
      have t_n0 : (nI k).toInt = (k : Int) := tn552_ ()
      have t_n1 : (nI N).toInt = (N : Int) := tn547_ ()
      have t_n2 : (nI B).toInt = (B : Int) := tn548_ ()
      have t_n3 : (nI T).toInt = (T : Int) := tn549_ ()
      have t_n4 : (nI S).toInt = (S : Int) := tn550_ ()
      have t_n5 : (nI M).toInt = (M : Int) := tn551_ ()
      exact Or.inr ⟨by omega, rfl⟩
    refine W.widen (k := 0) (n := 0) (Nat.le_of_ble_eq_true rfl) (Nat.le_of_ble_eq_true rfl) ?_
    exact W.iret (v := (-4)) hx hb hr (fun t ht hW => ⟨⟨(-4), (), rfl, ⟨hpost, trivial⟩, trivial⟩, hS.F ht⟩) hS.2.2 dX11_byteAt_19
  · skip
    have tn553_ : nIT k := fun _ => nI_toInt (by first | omega | (have t := nleI c1; omega))
    have n3 : k < T := by have t := nleI c1; rw [show (nI (k)).toInt = ((k : Nat) : Int) from tn553_ ()] at t; rw [show (nI (T)).toInt = ((T : Nat) : Int) from tn549_ ()] at t; omega
    refine lv_aload_n hx hb dX11_byteAt_8 rfl (lv_at hl 0 rfl) ?_
    refine va_get (D := (dC, dI)) (ci := 11) (v := .ref tp) (C := RX11) (T := TX11) (N := 35) hx hb hg inG11 hown hK.1 hP 0 rfl rfl 10 (Nat.le_of_ble_eq_true rfl) (hg _ wt_888) (fun _ h9 => h9) rfl dX11_byteAt_9 ?_
    refine lv_iload_n hx hb dX11_byteAt_12 rfl (lv_at hl 1 rfl) ?_
    refine va_iald hx hb hK.1 hP 1 0 rfl rfl (vp_in_nI (by first | omega | (have t_n3 := n3; have tnb_ := nib6 tn553_ tn547_ tn548_ tn549_ tn550_ tn551_; omega)) (by decide)) dX11_byteAt_13 ?_
    refine lv_cg (y := ftp k) (by rw [nI_clamp (by omega)]) ?_
    refine lv_goto (tgt := 19) hx hb dX11_byteAt_14 rfl ?_
    have hpost : (k < T ∧ (ftp k : Int32) = ftp k) ∨ (T ≤ k ∧ (ftp k : Int32) = -4) := by
      have t_n3 := n3
      have t_n0 : (nI k).toInt = (k : Int) := tn553_ ()
      have t_n1 : (nI N).toInt = (N : Int) := tn547_ ()
      have t_n2 : (nI B).toInt = (B : Int) := tn548_ ()
      have t_n3 : (nI T).toInt = (T : Int) := tn549_ ()
      have t_n4 : (nI S).toInt = (S : Int) := tn550_ ()
      have t_n5 : (nI M).toInt = (M : Int) := tn551_ ()
      exact Or.inl ⟨by omega, rfl⟩
    refine W.widen (k := 0) (n := 0) (Nat.le_of_ble_eq_true rfl) (Nat.le_of_ble_eq_true rfl) ?_
    exact W.iret (v := ftp k) hx hb hr (fun t ht hW => ⟨⟨ftp k, (), rfl, ⟨hpost, trivial⟩, trivial⟩, hS.F ht⟩) hS.2.2 dX11_byteAt_19


theorem nIm1 {n : Nat} (h : n ≤ 1000) : (nI n - 1).toInt = (n : Int) - 1 := by
  cases n with
  | zero => decide
  | succ k => rw [show nI (k + 1) - 1 = nI k from nI_pred k, nI_toInt (by omega)]; omega
theorem start_nat {x : Int32} (h : okS 48 x) : ∃ k : Nat, x + 5 = nI k ∧ 1 ≤ k ∧ k ≤ 9 := by
  have h1 := h.2.2 (by decide)
  have e : (x + 5).toInt = x.toInt + 5 := by
    have e0 : (x + 5).toInt = (x.toInt + (5 : Int32).toInt).bmod (2 ^ 32) := Int32.toInt_add x 5
    have e1 : (5 : Int32).toInt = 5 := by decide
    rw [e1, Int.bmod_eq_of_le (by omega) (by omega)] at e0
    exact e0
  obtain ⟨j, hj, ej⟩ := i32_nat (x := x + 5) (n := 10) (by omega) (by omega)
  refine ⟨j, ej, ?_, by omega⟩
  have t := congrArg Int32.toInt ej
  rw [nI_toInt (by omega)] at t
  omega
theorem okS_lo {q : Nat} {x : Int32} (h : q < 38) (h0 : 0 ≤ x.toInt) (h1 : x.toInt ≤ 9) : okS q x := ⟨fun _ => ⟨h0, h1⟩, fun h2 => absurd h2 (by omega), fun h2 => absurd h2 (by omega)⟩
theorem okS_or {q : Nat} {x : Int32} (h : 38 ≤ q) (h' : q < 48) (h0 : 0 ≤ x.toInt) (h1 : x.toInt ≤ 5) : okS q x := ⟨fun h2 => absurd h2 (by omega), fun _ _ => ⟨h0, h1⟩, fun h2 => absurd h2 (by omega)⟩
theorem okS_sd {x : Int32} (h0 : 1 ≤ x.toInt) (h1 : x.toInt ≤ 9) : okS 48 (x - 5) := by
  have e0 : (x - 5).toInt = (x.toInt - (5 : Int32).toInt).bmod (2 ^ 32) := Int32.toInt_sub x 5
  have e1 : (5 : Int32).toInt = 5 := by decide
  rw [e1, Int.bmod_eq_of_le (by omega) (by omega)] at e0
  exact ⟨fun h2 => absurd h2 (by decide), fun _ h2 => absurd h2 (by decide), fun _ => ⟨by omega, by omega⟩⟩
theorem ord_nat {fs : Nat → Int32} (h : OKS fs) {q : Nat} (hq : q < 196) (h1 : 38 ≤ q % 49) (h2 : q % 49 < 48) : ∃ j : Nat, j < 6 ∧ fs q = nI j := by
  have k := (h q hq).2.1 h1 h2
  exact i32_nat (by omega) (by omega)
def powF : Nat → Int64
  | 0 => 1
  | n + 1 => powF n * 20
theorem powF_ne {n : Nat} (h : n ≤ 10) : (powF n).toInt ≠ 0 := by
  rcases (show n = 0 ∨ n = 1 ∨ n = 2 ∨ n = 3 ∨ n = 4 ∨ n = 5 ∨ n = 6 ∨ n = 7 ∨ n = 8 ∨ n = 9 ∨ n = 10 by omega) with h|h|h|h|h|h|h|h|h|h|h <;> subst h <;> decide
theorem rem_lt {a b : Int64} (hb : b.toInt ≠ 0) : (a - a / b * b).toInt.natAbs < b.toInt.natAbs := by
  have e1 : (a - a / b * b).toInt = (a.toInt - (a / b * b).toInt).bmod (2 ^ 64) := Int64.toInt_sub a (a / b * b)
  have e2 : (a / b * b).toInt = ((a / b).toInt * b.toInt).bmod (2 ^ 64) := Int64.toInt_mul (a / b) b
  have e3 : (a / b).toInt = (a.toInt.tdiv b.toInt).bmod (2 ^ 64) := Int64.toInt_div a b
  have e4 : (a - a / b * b).toInt = (a.toInt - a.toInt.tdiv b.toInt * b.toInt).bmod (2 ^ 64) := by
    rw [e1, e2, e3]
    simp only [Int.sub_bmod_bmod, Int.bmod_mul_bmod]
  have e5 : a.toInt - a.toInt.tdiv b.toInt * b.toInt = a.toInt.tmod b.toInt := by
    have := Int.tmod_add_mul_tdiv a.toInt b.toInt
    have c := Int.mul_comm b.toInt (a.toInt.tdiv b.toInt)
    omega
  have hl := b.toInt_lt
  have hg := b.le_toInt
  have hlt : (a.toInt.tmod b.toInt).natAbs < b.toInt.natAbs := by
    rw [Int.natAbs_tmod]
    exact Nat.mod_lt _ (by omega)
  rw [e4, e5, Int.bmod_eq_of_le (by omega) (by omega)]
  exact hlt
def hQt (fs : Nat → Int32) (i : Nat) (q : Int32) : Int32 := if q = 0 then fs (2 * i) else 0
def hK' (x : Int32) : Int32 := if x = 1 then 2 else if x = 3 then 1 else 0
def hPos (x : Int32) : Int32 := if x ≤ 0 then 0 else x
def hTr (k c : Int32) : Int32 := if k = 2 ∧ ¬ c < 5 then 1 else 0
def hAbs (x : Int32) : Int32 := if 0 ≤ x then x else -x
def hJo (k x : Int32) : Int32 := if k = 5 then x / 2 else x
def hTop (x : Int32) : Int32 := if x ≤ 20 then x else 20
def rhS (fs : Nat → Int32) (i b : Nat) (q : Int32) : Int32 := hPos (hQt fs i q - hK' (fs (20 + 3 * b))) + hPos (fs (2 * i + 1) - fs (20 + 3 * b + 2)) + hTr (fs (20 + 3 * b)) (fs (2 * i + 1))
def rhN (fs : Nat → Int32) (i b : Nat) (q : Int32) : Int32 := hTop (rhS fs i b q)
def rhB (fs : Nat → Int32) (i a b : Nat) (q : Int32) : Int32 := hTop (if a = b ∨ (fs (20 + 3 * b) = 4 ∧ fs (20 + 3 * a) = 4) then rhS fs i b q else rhS fs i b q + hJo (fs (20 + 3 * b)) (hAbs (fs (20 + 3 * a + 1) - fs (20 + 3 * b + 1))))
set_option maxHeartbeats 1000000 in
set_option maxRecDepth 100000 in
theorem c_X11_end (l : Launch) (dC : Nat → ClassId) (dI : Nat → Nat → Nat) (G : Nat → ClassId) (sz : Nat) (h0 st N B rp tp T cu lt od th be ln S ma M ah bh ik la lg ce : Nat) (n vrs vrb vhs vca vxs vxb vfa vbr vba vsp vhe vtk vva vto : Int32) (hN : N ≤ 10) (hB : B ≤ 6) (hT : T ≤ 320) (hS0 : S ≤ 8) (hM : M ≤ 6) : Met l yX11_end (Cond.code yX11_end cX11_end 3 (some .int) :: GT) ({ frames := 1, cells := 0, slots := 0, locals := 25 } : Room) (PcW [.ref h0, .int n] dC dI G [(h0, .inr (11, [.ref st, .int (nI N), .int (nI B), .ref rp, .int vrs, .int vrb, .int vhs, .int vca, .int vxs, .int vxb, .ref tp, .int (nI T), .int vfa, .int vbr, .int vba, .int vsp, .int vhe, .int vtk, .int vva, .ref cu, .ref lt, .ref od, .ref th, .ref be, .ref ln, .int (nI S), .ref ma, .int (nI M), .ref ah, .ref bh, .ref ik, .ref la, .ref lg, .ref ce, .int vto]))] sz) (va_Qi (fun (r : Int32) (u : Nat) => match u with | oT => (r = if 0 ≤ n.toInt ∧ n.toInt ≤ ((T : Nat) : Int) then nI T else -1) ∧ oT = (if 0 ≤ n.toInt ∧ n.toInt ≤ ((T : Nat) : Int) then n.toNatClampNeg else T) ∧ oT ≤ 320) (fun (u : Nat) (t : State) => match u with | oT => va_P (dC, dI) vwCl [(h0, .inr (11, [.ref st, .int (nI N), .int (nI B), .ref rp, .int vrs, .int vrb, .int vhs, .int vca, .int vxs, .int vxb, .ref tp, .int (nI oT), .int vfa, .int vbr, .int vba, .int vsp, .int vhe, .int vtk, .int vva, .ref cu, .ref lt, .ref od, .ref th, .ref be, .ref ln, .int (nI S), .ref ma, .int (nI M), .ref ah, .ref bh, .ref ik, .ref la, .ref lg, .ref ce, .int vto]))] t.heap ∧ va_D (va_A [(h0, .inr (11, [.ref st, .int (nI N), .int (nI B), .ref rp, .int vrs, .int vrb, .int vhs, .int vca, .int vxs, .int vxb, .ref tp, .int (nI T), .int vfa, .int vbr, .int vba, .int vsp, .int vhe, .int vtk, .int vva, .ref cu, .ref lt, .ref od, .ref th, .ref be, .ref ln, .int (nI S), .ref ma, .int (nI M), .ref ah, .ref bh, .ref ik, .ref la, .ref lg, .ref ce, .int vto]))] sz) [(h0, .inr (11, [.ref st, .int (nI N), .int (nI B), .ref rp, .int vrs, .int vrb, .int vhs, .int vca, .int vxs, .int vxb, .ref tp, .int (nI oT), .int vfa, .int vbr, .int vba, .int vsp, .int vhe, .int vtk, .int vva, .ref cu, .ref lt, .ref od, .ref th, .ref be, .ref ln, .int (nI S), .ref ma, .int (nI M), .ref ah, .ref bh, .ref ik, .ref la, .ref lg, .ref ce, .int vto]))]) (va_A [(h0, .inr (11, [.ref st, .int (nI N), .int (nI B), .ref rp, .int vrs, .int vrb, .int vhs, .int vca, .int vxs, .int vxb, .ref tp, .int (nI T), .int vfa, .int vbr, .int vba, .int vsp, .int vhe, .int vtk, .int vva, .ref cu, .ref lt, .ref od, .ref th, .ref be, .ref ln, .int (nI S), .ref ma, .int (nI M), .ref ah, .ref bh, .ref ik, .ref la, .ref lg, .ref ce, .int vto]))] sz)) 0 0 (va_A [(h0, .inr (11, [.ref st, .int (nI N), .int (nI B), .ref rp, .int vrs, .int vrb, .int vhs, .int vca, .int vxs, .int vxb, .ref tp, .int (nI T), .int vfa, .int vbr, .int vba, .int vsp, .int vhe, .int vtk, .int vva, .ref cu, .ref lt, .ref od, .ref th, .ref be, .ref ln, .int (nI S), .ref ma, .int (nI M), .ref ah, .ref bh, .ref ik, .ref la, .ref lg, .ref ce, .int vto]))] sz) := by
  have tn584_ : nIT N := fun _ => nI_toInt (by omega)
  have tn585_ : nIT B := fun _ => nI_toInt (by omega)
  have tn586_ : nIT T := fun _ => nI_toInt (by omega)
  have tn587_ : nIT S := fun _ => nI_toInt (by omega)
  have tn588_ : nIT M := fun _ => nI_toInt (by omega)
  refine Met.ofW (cc := cX11_end) (maxL := 3) (ret := (some .int)) (by decide) rfl ?_
  intro p e s m args below meth c s₁ Bd hml hv
  obtain ⟨rfl, hsz, hP, hK, hD0⟩ := hv
  have hx := Bd.exec
  have hb := Bd.bytes
  have hr := Bd.returns
  have hg : ∀ w ∈ GT, w.before ([.ref h0, .int n] : List Value).toArray s = true := fun w h => atoms_spec (ws := Cond.code yX11_end cX11_end 3 (some .int) :: GT) Bd.pre w (List.mem_cons_of_mem _ h)
  have hown : s.vm.findClass RX11 = some m.cls := findClass_of_methodNamed Bd.named
  have hlocks := Bd.notSynchronized
  subst hsz
  have hD := hD0.self (sz := s.heap.size)
  generalize hAe : va_A [(h0, .inr (11, [.ref st, .int (nI N), .int (nI B), .ref rp, .int vrs, .int vrb, .int vhs, .int vca, .int vxs, .int vxb, .ref tp, .int (nI T), .int vfa, .int vbr, .int vba, .int vsp, .int vhe, .int vtk, .int vva, .ref cu, .ref lt, .ref od, .ref th, .ref be, .ref ln, .int (nI S), .ref ma, .int (nI M), .ref ah, .ref bh, .ref ik, .ref la, .ref lg, .ref ce, .int vto]))] s.heap.size = A at hD ⊢
  have hA : ∀ q : Nat, s.heap.size ≤ q → A q := fun q h => by rw [← hAe]; exact Or.inr h
  have hS : va_S A s.heap s.heap [] := va_S.rf
  have hl := lv_entry ([.ref h0, .int n]) (n := 3) (Nat.le_of_ble_eq_true rfl)
  rw [lg_entry_eq]
  generalize (lg_sl ([.ref h0, .int n]) ++ List.replicate (3 - (lg_sl ([.ref h0, .int n])).length) Slot.unset).toArray = ls at hl ⊢
  have hl : lv_has ls 3 [(0, .ref h0), (1, .int n)] := hl
  refine lv_iload_n hx hb dX11_end_0 rfl (lv_at hl 1 rfl) ?_
  refine lv_i2l (v := n.toInt64) hx hb dX11_end_1 rfl ?_
  refine lv_lconst (v := 0) hx hb dX11_end_2 (by decide) ?_
  refine lv_aload_n hx hb dX11_end_3 rfl (lv_at hl 0 rfl) ?_
  refine va_get (D := (dC, dI)) (ci := 11) (v := .int (nI T)) (C := RX11) (T := TX11) (N := 35) hx hb hg inG11 hown hK.1 hP 0 rfl rfl 11 (Nat.le_of_ble_eq_true rfl) (hg _ wt_889) (fun _ h9 => h9) rfl dX11_end_4 ?_
  refine lv_i2l (v := (nI T).toInt64) hx hb dX11_end_7 rfl ?_
  have hPc := hP.sub (ws' := []) [] rfl
  refine va_calli (va_runS (As := [.long n.toInt64, .long 0, .long ((nI T).toInt64)]) (rest := []) ⟨hx, hb, hml, hown, hg⟩ (c_X11_in l dC dI G _ n.toInt64 0 ((nI T).toInt64)) (kwS hg mfX11_in wt_992 ⟨Nat.le_of_ble_eq_true rfl, Nat.le_of_ble_eq_true rfl⟩) (preSR hK hPc) rfl rfl hl.1 rfl (lv_room (Nat.le_of_ble_eq_true rfl)) dX11_end_8 ⟨Nat.le_of_ble_eq_true rfl, Nat.le_of_ble_eq_true rfl⟩) hS (fun q h1 h2 => absurd h2 (Nat.not_le.mpr h1)) (fun q h => hA q (Nat.le_trans hS.1 h)) (fun r1 ur1 t H1 locs ht hvm w2 hB hz1 hk1 hS => ?_)
  have hP := keepR hP hk1
  obtain ⟨w2, w2x⟩ := w2
  try simp only [l_ii, show (0 : Int64).toInt = 0 from by decide] at w2
  subst w2
  refine lv_if_ne (tgt := 16) hx hb dX11_end_11 rfl (fun c3 => ?_) (fun c3 => ?_)
  · skip
    have b4 := if10_p c3
    obtain ⟨nn, hnn, rfl⟩ : ∃ j : Nat, j < 321 ∧ n = nI j := by
      have t_b4 := b4
      have t_n0 : (nI N).toInt = (N : Int) := tn584_ ()
      have t_n1 : (nI B).toInt = (B : Int) := tn585_ ()
      have t_n2 : (nI T).toInt = (T : Int) := tn586_ ()
      have t_n3 : (nI S).toInt = (S : Int) := tn587_ ()
      have t_n4 : (nI M).toInt = (M : Int) := tn588_ ()
      exact i32_nat (by omega) (by omega)
    refine lv_aload_n hx hb dX11_end_16 rfl (lv_at hl 0 rfl) ?_
    refine va_get (D := (dC, dI)) (ci := 11) (v := .int (nI T)) (C := RX11) (T := TX11) (N := 35) hx hb hg inG11 hown hK.1 hP 0 rfl rfl 11 (Nat.le_of_ble_eq_true rfl) (hg _ wt_889) (fun _ h9 => h9) rfl dX11_end_17 ?_
    refine lv_istore_n (lv' := [(2, .int (nI T)), (0, .ref h0), (1, .int (nI nn))]) hx hb dX11_end_20 rfl hl (by decide) rfl (fun ls hl => ?_)
    refine lv_aload_n hx hb dX11_end_21 rfl (lv_at hl 1 rfl) ?_
    refine lv_iload_n hx hb dX11_end_22 rfl (lv_at hl 2 rfl) ?_
    refine va_put (D := (dC, dI)) (ci := 11) (v := .int (nI nn)) (ty := .int) (C := RX11) (T := TX11) (N := 35) hx hb hg inG11 tyX11 tyX11_ok nmX11 hown hK.1 hP hD hS 0 rfl rfl 11 (Nat.le_of_ble_eq_true rfl) (hg _ wt_889) (fun _ h9 => h9) rfl (by decide +kernel) rfl rfl (Nat.le_of_ble_eq_true rfl) dX11_end_23 (fun H locs hP hD hS => ?_)
    refine lv_iload_n hx hb dX11_end_26 rfl (lv_at hl 0 rfl) ?_
    have hpost : (nI T : Int32) = if 0 ≤ (nI nn).toInt ∧ (nI nn).toInt ≤ ((T : Nat) : Int) then nI T else -1 := by
      have t_b4 := b4
      have t_hnn := hnn
      have t_n0 : (nI N).toInt = (N : Int) := tn584_ ()
      have t_n1 : (nI B).toInt = (B : Int) := tn585_ ()
      have t_n2 : (nI T).toInt = (T : Int) := tn586_ ()
      have t_n3 : (nI S).toInt = (S : Int) := tn587_ ()
      have t_n4 : (nI M).toInt = (M : Int) := tn588_ ()
      have tn589_ : nIT nn := fun _ => nI_toInt (by omega)
      have t_n5 : (nI nn).toInt = (nn : Int) := tn589_ ()
      have t_n0 : (nI N).toInt = (N : Int) := tn584_ ()
      have t_n1 : (nI B).toInt = (B : Int) := tn585_ ()
      have t_n2 : (nI T).toInt = (T : Int) := tn586_ ()
      have t_n3 : (nI S).toInt = (S : Int) := tn587_ ()
      have t_n4 : (nI M).toInt = (M : Int) := tn588_ ()
      first | rfl | ((repeat' split) <;> first | rfl | omega)
    obtain ⟨hP9, hD9⟩ := va_sub2 (ws' := [(h0, .inr (11, [.ref st, .int (nI N), .int (nI B), .ref rp, .int vrs, .int vrb, .int vhs, .int vca, .int vxs, .int vxb, .ref tp, .int (nI nn), .int vfa, .int vbr, .int vba, .int vsp, .int vhe, .int vtk, .int vva, .ref cu, .ref lt, .ref od, .ref th, .ref be, .ref ln, .int (nI S), .ref ma, .int (nI M), .ref ah, .ref bh, .ref ik, .ref la, .ref lg, .ref ce, .int vto]))]) hP hD [0] (by decide +kernel) rfl
    refine W.widen (k := 0) (n := 0) (Nat.le_of_ble_eq_true rfl) (Nat.le_of_ble_eq_true rfl) ?_
    have tn590_ : nIT nn := fun _ => nI_toInt (by first | omega | (have t_b4 := b4; have t_hnn := hnn; omega))
    exact W.iret (v := nI T) hx hb hr (fun t ht hW => ⟨⟨nI T, nn, rfl, ⟨hpost, (by have t_b4 := b4; have t_hnn := hnn; have tnb_ := nib6 tn584_ tn585_ tn586_ tn587_ tn588_ tn590_; refine ⟨?_, by omega⟩; split <;> first | exact (nI_clamp (by omega)).symm | rfl | omega)⟩, ⟨by rw [ht]; exact hP9, hD9⟩⟩, hS.F ht⟩) hS.2.2 dX11_end_27
  · skip
    have b5 := if10_n c3
    refine lv_iconst (v := (-1)) hx hb dX11_end_14 rfl ?_
    have hpost : ((-1) : Int32) = if 0 ≤ n.toInt ∧ n.toInt ≤ ((T : Nat) : Int) then nI T else -1 := by
      have t_b5 := b5
      have t_n0 : (nI N).toInt = (N : Int) := tn584_ ()
      have t_n1 : (nI B).toInt = (B : Int) := tn585_ ()
      have t_n2 : (nI T).toInt = (T : Int) := tn586_ ()
      have t_n3 : (nI S).toInt = (S : Int) := tn587_ ()
      have t_n4 : (nI M).toInt = (M : Int) := tn588_ ()
      first | rfl | ((repeat' split) <;> first | rfl | omega)
    obtain ⟨hP9, hD9⟩ := va_sub2 (ws' := [(h0, .inr (11, [.ref st, .int (nI N), .int (nI B), .ref rp, .int vrs, .int vrb, .int vhs, .int vca, .int vxs, .int vxb, .ref tp, .int (nI T), .int vfa, .int vbr, .int vba, .int vsp, .int vhe, .int vtk, .int vva, .ref cu, .ref lt, .ref od, .ref th, .ref be, .ref ln, .int (nI S), .ref ma, .int (nI M), .ref ah, .ref bh, .ref ik, .ref la, .ref lg, .ref ce, .int vto]))]) hP hD [0] (by decide +kernel) rfl
    refine W.widen (k := 0) (n := 0) (Nat.le_of_ble_eq_true rfl) (Nat.le_of_ble_eq_true rfl) ?_
    exact W.iret (v := (-1)) hx hb hr (fun t ht hW => ⟨⟨(-1), T, rfl, ⟨hpost, (by have t_b5 := b5; have tnb_ := nib5 tn584_ tn585_ tn586_ tn587_ tn588_; refine ⟨?_, by omega⟩; split <;> first | exact (nI_clamp (by omega)).symm | rfl | omega)⟩, ⟨by rw [ht]; exact hP9, hD9⟩⟩, hS.F ht⟩) hS.2.2 dX11_end_15

set_option maxHeartbeats 1000000 in
set_option maxRecDepth 100000 in
theorem c_X11_torn (l : Launch) (dC : Nat → ClassId) (dI : Nat → Nat → Nat) (G : Nat → ClassId) (sz : Nat) (h0 st N B rp tp T cu lt od th be ln S ma M ah bh ik la lg ce : Nat) (vrs vrb vhs vca vxs vxb vfa vbr vba vsp vhe vtk vva vto : Int32) (hN : N ≤ 10) (hB : B ≤ 6) (hT : T ≤ 320) (hS0 : S ≤ 8) (hM : M ≤ 6) : Met l yX11_torn (Cond.code yX11_torn cX11_torn 1 (some .int) :: GT) ({ frames := 0, cells := 0, slots := 0, locals := 0 } : Room) (PcR [.ref h0] dC dI G [(h0, .inr (11, [.ref st, .int (nI N), .int (nI B), .ref rp, .int vrs, .int vrb, .int vhs, .int vca, .int vxs, .int vxb, .ref tp, .int (nI T), .int vfa, .int vbr, .int vba, .int vsp, .int vhe, .int vtk, .int vva, .ref cu, .ref lt, .ref od, .ref th, .ref be, .ref ln, .int (nI S), .ref ma, .int (nI M), .ref ah, .ref bh, .ref ik, .ref la, .ref lg, .ref ce, .int vto]))] sz) (va_Qi (fun (r : Int32) (u : Unit) => match u with | _ => (True) ∧ True) (fun _ _ => True) (fun q : Nat => sz ≤ q)) 0 0 (fun q : Nat => sz ≤ q) := by
  refine Met.ofW (cc := cX11_torn) (maxL := 1) (ret := (some .int)) (by decide) rfl ?_
  intro p e s m args below meth c s₁ Bd hml hv
  obtain ⟨rfl, hsz, hP, hK⟩ := hv
  have hx := Bd.exec
  have hb := Bd.bytes
  have hr := Bd.returns
  have hg : ∀ w ∈ GT, w.before ([.ref h0] : List Value).toArray s = true := fun w h => atoms_spec (ws := Cond.code yX11_torn cX11_torn 1 (some .int) :: GT) Bd.pre w (List.mem_cons_of_mem _ h)
  have hown : s.vm.findClass RX11 = some m.cls := findClass_of_methodNamed Bd.named
  have hlocks := Bd.notSynchronized
  subst hsz
  have hA : ∀ q : Nat, s.heap.size ≤ q → (fun q : Nat => s.heap.size ≤ q) q := fun _ h => h
  have hS : va_S (fun q : Nat => s.heap.size ≤ q) s.heap s.heap [] := va_S.rf
  have hl := lv_entry ([.ref h0]) (n := 1) (Nat.le_of_ble_eq_true rfl)
  rw [lg_entry_eq]
  generalize (lg_sl ([.ref h0]) ++ List.replicate (1 - (lg_sl ([.ref h0])).length) Slot.unset).toArray = ls at hl ⊢
  have hl : lv_has ls 1 [(0, .ref h0)] := hl
  refine lv_aload_n hx hb dX11_torn_0 rfl (lv_at hl 0 rfl) ?_
  refine va_get (D := (dC, dI)) (ci := 11) (v := .int vto) (C := RX11) (T := TX11) (N := 35) hx hb hg inG11 hown hK.1 hP 0 rfl rfl 34 (Nat.le_of_ble_eq_true rfl) (hg _ wt_912) (fun _ h9 => h9) rfl dX11_torn_1 ?_
  have hpost : True := by
    trivial
  refine W.widen (k := 0) (n := 0) (Nat.le_of_ble_eq_true rfl) (Nat.le_of_ble_eq_true rfl) ?_
  exact W.iret (v := vto) hx hb hr (fun t ht hW => ⟨⟨vto, (), rfl, ⟨hpost, trivial⟩, trivial⟩, hS.F ht⟩) hS.2.2 dX11_torn_4

set_option maxHeartbeats 1000000 in
set_option maxRecDepth 100000 in
theorem c_X11_isStretch (l : Launch) (dC : Nat → ClassId) (dI : Nat → Nat → Nat) (G : Nat → ClassId) (sz : Nat) (h0 st N B rp tp T cu lt od th be ln S ma M ah bh ik la lg ce : Nat) (i vrs vrb vhs vca vxs vxb vfa vbr vba vsp vhe vtk vva vto : Int32) (hN : N ≤ 10) (hB : B ≤ 6) (hT : T ≤ 320) (hS0 : S ≤ 8) (hM : M ≤ 6) : Met l yX11_isStretch (Cond.code yX11_isStretch cX11_isStretch 2 (some .boolean) :: GT) ({ frames := 1, cells := 0, slots := 0, locals := 25 } : Room) (PcR [.ref h0, .int i] dC dI G [(h0, .inr (11, [.ref st, .int (nI N), .int (nI B), .ref rp, .int vrs, .int vrb, .int vhs, .int vca, .int vxs, .int vxb, .ref tp, .int (nI T), .int vfa, .int vbr, .int vba, .int vsp, .int vhe, .int vtk, .int vva, .ref cu, .ref lt, .ref od, .ref th, .ref be, .ref ln, .int (nI S), .ref ma, .int (nI M), .ref ah, .ref bh, .ref ik, .ref la, .ref lg, .ref ce, .int vto]))] sz) (va_Qi (fun (r : Int32) (u : Unit) => match u with | _ => (r = if 0 ≤ i.toInt ∧ i.toInt < ((N : Nat) : Int) then 1 else 0) ∧ True) (fun _ _ => True) (fun q : Nat => sz ≤ q)) 0 0 (fun q : Nat => sz ≤ q) := by
  refine Met.ofW (cc := cX11_isStretch) (maxL := 2) (ret := (some .boolean)) (by decide) rfl ?_
  intro p e s m args below meth c s₁ Bd hml hv
  obtain ⟨rfl, hsz, hP, hK⟩ := hv
  have hx := Bd.exec
  have hb := Bd.bytes
  have hr := Bd.returns
  have hg : ∀ w ∈ GT, w.before ([.ref h0, .int i] : List Value).toArray s = true := fun w h => atoms_spec (ws := Cond.code yX11_isStretch cX11_isStretch 2 (some .boolean) :: GT) Bd.pre w (List.mem_cons_of_mem _ h)
  have hown : s.vm.findClass RX11 = some m.cls := findClass_of_methodNamed Bd.named
  have hlocks := Bd.notSynchronized
  subst hsz
  have hA : ∀ q : Nat, s.heap.size ≤ q → (fun q : Nat => s.heap.size ≤ q) q := fun _ h => h
  have hS : va_S (fun q : Nat => s.heap.size ≤ q) s.heap s.heap [] := va_S.rf
  have hl := lv_entry ([.ref h0, .int i]) (n := 2) (Nat.le_of_ble_eq_true rfl)
  rw [lg_entry_eq]
  generalize (lg_sl ([.ref h0, .int i]) ++ List.replicate (2 - (lg_sl ([.ref h0, .int i])).length) Slot.unset).toArray = ls at hl ⊢
  have hl : lv_has ls 2 [(0, .ref h0), (1, .int i)] := hl
  refine lv_iload_n hx hb dX11_isStretch_0 rfl (lv_at hl 1 rfl) ?_
  refine lv_i2l (v := i.toInt64) hx hb dX11_isStretch_1 rfl ?_
  refine lv_lconst (v := 0) hx hb dX11_isStretch_2 (by decide) ?_
  refine lv_aload_n hx hb dX11_isStretch_3 rfl (lv_at hl 0 rfl) ?_
  refine va_get (D := (dC, dI)) (ci := 11) (v := .int (nI N)) (C := RX11) (T := TX11) (N := 35) hx hb hg inG11 hown hK.1 hP 0 rfl rfl 1 (Nat.le_of_ble_eq_true rfl) (hg _ wt_879) (fun _ h9 => h9) rfl dX11_isStretch_4 ?_
  refine lv_iconst (v := 1) hx hb dX11_isStretch_7 rfl ?_
  refine lv_isub hx hb dX11_isStretch_8 ?_
  refine lv_i2l (v := ((nI N) - 1).toInt64) hx hb dX11_isStretch_9 rfl ?_
  have hPc := hP.sub (ws' := []) [] rfl
  refine va_calli (va_runS (As := [.long i.toInt64, .long 0, .long (((nI N) - 1).toInt64)]) (rest := []) ⟨hx, hb, hml, hown, hg⟩ (c_X11_in l dC dI G _ i.toInt64 0 (((nI N) - 1).toInt64)) (kwS hg mfX11_in wt_992 ⟨Nat.le_of_ble_eq_true rfl, Nat.le_of_ble_eq_true rfl⟩) (preSR hK hPc) rfl rfl hl.1 rfl (lv_room (Nat.le_of_ble_eq_true rfl)) dX11_isStretch_10 ⟨Nat.le_of_ble_eq_true rfl, Nat.le_of_ble_eq_true rfl⟩) hS (fun q h1 h2 => absurd h2 (Nat.not_le.mpr h1)) (fun q h => hA q (Nat.le_trans hS.1 h)) (fun r1 ur1 t H1 locs ht hvm w2 hB hz1 hk1 hS => ?_)
  have hP := keepR hP hk1
  obtain ⟨w2, w2x⟩ := w2
  try simp only [l_ii, show (0 : Int64).toInt = 0 from by decide] at w2
  subst w2
  have hpost : (if 0 ≤ i.toInt ∧ i.toInt ≤ ((nI N) - 1).toInt then 1 else 0 : Int32) = if 0 ≤ i.toInt ∧ i.toInt < ((N : Nat) : Int) then 1 else 0 := by
    have e9 := nIm1 (n := N) (by omega)
    (repeat' split) <;> first | rfl | omega
  refine W.widen (k := 0) (n := 0) (Nat.le_of_ble_eq_true rfl) (Nat.le_of_ble_eq_true rfl) ?_
  exact W.zret (v := if 0 ≤ i.toInt ∧ i.toInt ≤ ((nI N) - 1).toInt then 1 else 0) hx hb hr (by first | rfl | decide | exact zn01 (by split <;> simp)) (fun t ht hW => ⟨⟨if 0 ≤ i.toInt ∧ i.toInt ≤ ((nI N) - 1).toInt then 1 else 0, (), rfl, ⟨hpost, trivial⟩, trivial⟩, hS.F ht⟩) hS.2.2 dX11_isStretch_13

set_option maxHeartbeats 1000000 in
set_option maxRecDepth 100000 in
theorem c_X11_isBearer (l : Launch) (dC : Nat → ClassId) (dI : Nat → Nat → Nat) (G : Nat → ClassId) (sz : Nat) (h0 st N B rp tp T cu lt od th be ln S ma M ah bh ik la lg ce : Nat) (i vrs vrb vhs vca vxs vxb vfa vbr vba vsp vhe vtk vva vto : Int32) (hN : N ≤ 10) (hB : B ≤ 6) (hT : T ≤ 320) (hS0 : S ≤ 8) (hM : M ≤ 6) : Met l yX11_isBearer (Cond.code yX11_isBearer cX11_isBearer 2 (some .boolean) :: GT) ({ frames := 1, cells := 0, slots := 0, locals := 25 } : Room) (PcR [.ref h0, .int i] dC dI G [(h0, .inr (11, [.ref st, .int (nI N), .int (nI B), .ref rp, .int vrs, .int vrb, .int vhs, .int vca, .int vxs, .int vxb, .ref tp, .int (nI T), .int vfa, .int vbr, .int vba, .int vsp, .int vhe, .int vtk, .int vva, .ref cu, .ref lt, .ref od, .ref th, .ref be, .ref ln, .int (nI S), .ref ma, .int (nI M), .ref ah, .ref bh, .ref ik, .ref la, .ref lg, .ref ce, .int vto]))] sz) (va_Qi (fun (r : Int32) (u : Unit) => match u with | _ => (r = if 0 ≤ i.toInt ∧ i.toInt < ((B : Nat) : Int) then 1 else 0) ∧ True) (fun _ _ => True) (fun q : Nat => sz ≤ q)) 0 0 (fun q : Nat => sz ≤ q) := by
  refine Met.ofW (cc := cX11_isBearer) (maxL := 2) (ret := (some .boolean)) (by decide) rfl ?_
  intro p e s m args below meth c s₁ Bd hml hv
  obtain ⟨rfl, hsz, hP, hK⟩ := hv
  have hx := Bd.exec
  have hb := Bd.bytes
  have hr := Bd.returns
  have hg : ∀ w ∈ GT, w.before ([.ref h0, .int i] : List Value).toArray s = true := fun w h => atoms_spec (ws := Cond.code yX11_isBearer cX11_isBearer 2 (some .boolean) :: GT) Bd.pre w (List.mem_cons_of_mem _ h)
  have hown : s.vm.findClass RX11 = some m.cls := findClass_of_methodNamed Bd.named
  have hlocks := Bd.notSynchronized
  subst hsz
  have hA : ∀ q : Nat, s.heap.size ≤ q → (fun q : Nat => s.heap.size ≤ q) q := fun _ h => h
  have hS : va_S (fun q : Nat => s.heap.size ≤ q) s.heap s.heap [] := va_S.rf
  have hl := lv_entry ([.ref h0, .int i]) (n := 2) (Nat.le_of_ble_eq_true rfl)
  rw [lg_entry_eq]
  generalize (lg_sl ([.ref h0, .int i]) ++ List.replicate (2 - (lg_sl ([.ref h0, .int i])).length) Slot.unset).toArray = ls at hl ⊢
  have hl : lv_has ls 2 [(0, .ref h0), (1, .int i)] := hl
  refine lv_iload_n hx hb dX11_isBearer_0 rfl (lv_at hl 1 rfl) ?_
  refine lv_i2l (v := i.toInt64) hx hb dX11_isBearer_1 rfl ?_
  refine lv_lconst (v := 0) hx hb dX11_isBearer_2 (by decide) ?_
  refine lv_aload_n hx hb dX11_isBearer_3 rfl (lv_at hl 0 rfl) ?_
  refine va_get (D := (dC, dI)) (ci := 11) (v := .int (nI B)) (C := RX11) (T := TX11) (N := 35) hx hb hg inG11 hown hK.1 hP 0 rfl rfl 2 (Nat.le_of_ble_eq_true rfl) (hg _ wt_880) (fun _ h9 => h9) rfl dX11_isBearer_4 ?_
  refine lv_iconst (v := 1) hx hb dX11_isBearer_7 rfl ?_
  refine lv_isub hx hb dX11_isBearer_8 ?_
  refine lv_i2l (v := ((nI B) - 1).toInt64) hx hb dX11_isBearer_9 rfl ?_
  have hPc := hP.sub (ws' := []) [] rfl
  refine va_calli (va_runS (As := [.long i.toInt64, .long 0, .long (((nI B) - 1).toInt64)]) (rest := []) ⟨hx, hb, hml, hown, hg⟩ (c_X11_in l dC dI G _ i.toInt64 0 (((nI B) - 1).toInt64)) (kwS hg mfX11_in wt_992 ⟨Nat.le_of_ble_eq_true rfl, Nat.le_of_ble_eq_true rfl⟩) (preSR hK hPc) rfl rfl hl.1 rfl (lv_room (Nat.le_of_ble_eq_true rfl)) dX11_isBearer_10 ⟨Nat.le_of_ble_eq_true rfl, Nat.le_of_ble_eq_true rfl⟩) hS (fun q h1 h2 => absurd h2 (Nat.not_le.mpr h1)) (fun q h => hA q (Nat.le_trans hS.1 h)) (fun r1 ur1 t H1 locs ht hvm w2 hB hz1 hk1 hS => ?_)
  have hP := keepR hP hk1
  obtain ⟨w2, w2x⟩ := w2
  try simp only [l_ii, show (0 : Int64).toInt = 0 from by decide] at w2
  subst w2
  have hpost : (if 0 ≤ i.toInt ∧ i.toInt ≤ ((nI B) - 1).toInt then 1 else 0 : Int32) = if 0 ≤ i.toInt ∧ i.toInt < ((B : Nat) : Int) then 1 else 0 := by
    have e9 := nIm1 (n := B) (by omega)
    (repeat' split) <;> first | rfl | omega
  refine W.widen (k := 0) (n := 0) (Nat.le_of_ble_eq_true rfl) (Nat.le_of_ble_eq_true rfl) ?_
  exact W.zret (v := if 0 ≤ i.toInt ∧ i.toInt ≤ ((nI B) - 1).toInt then 1 else 0) hx hb hr (by first | rfl | decide | exact zn01 (by split <;> simp)) (fun t ht hW => ⟨⟨if 0 ≤ i.toInt ∧ i.toInt ≤ ((nI B) - 1).toInt then 1 else 0, (), rfl, ⟨hpost, trivial⟩, trivial⟩, hS.F ht⟩) hS.2.2 dX11_isBearer_13

set_option maxHeartbeats 1000000 in
set_option maxRecDepth 100000 in
theorem c_X11_startNow (l : Launch) (dC : Nat → ClassId) (dI : Nat → Nat → Nat) (G : Nat → ClassId) (sz : Nat) (h0 st N B rp tp T cu lt od th be ln S ma M ah bh ik la lg ce : Nat) (vrs vrb vhs vca vxs vxb vfa vbr vba vsp vhe vtk vva vto : Int32) (fst : Nat → Int32) (hN : N ≤ 10) (hB : B ≤ 6) (hT : T ≤ 320) (hS0 : S ≤ 8) (hM : M ≤ 6) (hst : OKS fst) : Met l yX11_startNow (Cond.code yX11_startNow cX11_startNow 1 (some .int) :: GT) ({ frames := 0, cells := 0, slots := 0, locals := 0 } : Room) (PcR [.ref h0] dC dI G [(h0, .inr (11, [.ref st, .int (nI N), .int (nI B), .ref rp, .int vrs, .int vrb, .int vhs, .int vca, .int vxs, .int vxb, .ref tp, .int (nI T), .int vfa, .int vbr, .int vba, .int vsp, .int vhe, .int vtk, .int vva, .ref cu, .ref lt, .ref od, .ref th, .ref be, .ref ln, .int (nI S), .ref ma, .int (nI M), .ref ah, .ref bh, .ref ik, .ref la, .ref lg, .ref ce, .int vto])), (st, .inl (G 0, 196, .inl fst))] sz) (va_Qi (fun (r : Int32) (u : Unit) => match u with | _ => (∃ k : Nat, r = nI k ∧ 1 ≤ k ∧ k ≤ 9) ∧ True) (fun _ _ => True) (fun q : Nat => sz ≤ q)) 0 0 (fun q : Nat => sz ≤ q) := by
  refine Met.ofW (cc := cX11_startNow) (maxL := 1) (ret := (some .int)) (by decide) rfl ?_
  intro p e s m args below meth c s₁ Bd hml hv
  obtain ⟨rfl, hsz, hP, hK⟩ := hv
  have hx := Bd.exec
  have hb := Bd.bytes
  have hr := Bd.returns
  have hg : ∀ w ∈ GT, w.before ([.ref h0] : List Value).toArray s = true := fun w h => atoms_spec (ws := Cond.code yX11_startNow cX11_startNow 1 (some .int) :: GT) Bd.pre w (List.mem_cons_of_mem _ h)
  have hown : s.vm.findClass RX11 = some m.cls := findClass_of_methodNamed Bd.named
  have hlocks := Bd.notSynchronized
  subst hsz
  have hA : ∀ q : Nat, s.heap.size ≤ q → (fun q : Nat => s.heap.size ≤ q) q := fun _ h => h
  have hS : va_S (fun q : Nat => s.heap.size ≤ q) s.heap s.heap [] := va_S.rf
  have hl := lv_entry ([.ref h0]) (n := 1) (Nat.le_of_ble_eq_true rfl)
  rw [lg_entry_eq]
  generalize (lg_sl ([.ref h0]) ++ List.replicate (1 - (lg_sl ([.ref h0])).length) Slot.unset).toArray = ls at hl ⊢
  have hl : lv_has ls 1 [(0, .ref h0)] := hl
  refine lv_aload_n hx hb dX11_startNow_0 rfl (lv_at hl 0 rfl) ?_
  refine va_get (D := (dC, dI)) (ci := 11) (v := .ref st) (C := RX11) (T := TX11) (N := 35) hx hb hg inG11 hown hK.1 hP 0 rfl rfl 0 (Nat.le_of_ble_eq_true rfl) (hg _ wt_878) (fun _ h9 => h9) rfl dX11_startNow_1 ?_
  refine lv_bipush (v := 48) hx hb dX11_startNow_4 rfl ?_
  refine va_iald hx hb hK.1 hP 1 0 rfl rfl (vp_in_iff.mpr ⟨by decide, by decide⟩) dX11_startNow_6 ?_
  refine lv_cg (y := fst 48) (by rfl) ?_
  refine lv_iconst (v := 5) hx hb dX11_startNow_7 rfl ?_
  refine lv_iadd hx hb dX11_startNow_8 ?_
  have hpost : ∃ k : Nat, ((fst 48) + 5 : Int32) = nI k ∧ 1 ≤ k ∧ k ≤ 9 := by
    exact start_nat (hst 48 (by omega))
  refine W.widen (k := 0) (n := 0) (Nat.le_of_ble_eq_true rfl) (Nat.le_of_ble_eq_true rfl) ?_
  exact W.iret (v := (fst 48) + 5) hx hb hr (fun t ht hW => ⟨⟨(fst 48) + 5, (), rfl, ⟨hpost, trivial⟩, trivial⟩, hS.F ht⟩) hS.2.2 dX11_startNow_9

set_option maxHeartbeats 1000000 in
set_option maxRecDepth 100000 in
theorem c_X11_stretch (l : Launch) (dC : Nat → ClassId) (dI : Nat → Nat → Nat) (G : Nat → ClassId) (sz : Nat) (h0 st N B rp tp T cu lt od th be ln S ma M ah bh ik la lg ce : Nat) (i what vrs vrb vhs vca vxs vxb vfa vbr vba vsp vhe vtk vva vto : Int32) (fst : Nat → Int32) (hN : N ≤ 10) (hB : B ≤ 6) (hT : T ≤ 320) (hS0 : S ≤ 8) (hM : M ≤ 6) : Met l yX11_stretch (Cond.code yX11_stretch cX11_stretch 3 (some .int) :: GT) ({ frames := 2, cells := 0, slots := 0, locals := 46 } : Room) (PcR [.ref h0, .int i, .int what] dC dI G [(h0, .inr (11, [.ref st, .int (nI N), .int (nI B), .ref rp, .int vrs, .int vrb, .int vhs, .int vca, .int vxs, .int vxb, .ref tp, .int (nI T), .int vfa, .int vbr, .int vba, .int vsp, .int vhe, .int vtk, .int vva, .ref cu, .ref lt, .ref od, .ref th, .ref be, .ref ln, .int (nI S), .ref ma, .int (nI M), .ref ah, .ref bh, .ref ik, .ref la, .ref lg, .ref ce, .int vto])), (st, .inl (G 0, 196, .inl fst))] sz) (va_Qi (fun (r : Int32) (u : Unit) => match u with | _ => (True) ∧ True) (fun _ _ => True) (fun q : Nat => sz ≤ q)) 0 0 (fun q : Nat => sz ≤ q) := by
  have hB_ := hB
  have hM_ := hM
  have hT_ := hT
  have tn596_ : nIT N := fun _ => nI_toInt (by omega)
  have tn597_ : nIT B := fun _ => nI_toInt (by omega)
  have tn598_ : nIT T := fun _ => nI_toInt (by omega)
  have tn599_ : nIT S := fun _ => nI_toInt (by omega)
  have tn600_ : nIT M := fun _ => nI_toInt (by omega)
  refine Met.ofW (cc := cX11_stretch) (maxL := 3) (ret := (some .int)) (by decide) rfl ?_
  intro p e s m args below meth c s₁ Bd hml hv
  obtain ⟨rfl, hsz, hP, hK⟩ := hv
  have hx := Bd.exec
  have hb := Bd.bytes
  have hr := Bd.returns
  have hg : ∀ w ∈ GT, w.before ([.ref h0, .int i, .int what] : List Value).toArray s = true := fun w h => atoms_spec (ws := Cond.code yX11_stretch cX11_stretch 3 (some .int) :: GT) Bd.pre w (List.mem_cons_of_mem _ h)
  have hown : s.vm.findClass RX11 = some m.cls := findClass_of_methodNamed Bd.named
  have hlocks := Bd.notSynchronized
  subst hsz
  have hA : ∀ q : Nat, s.heap.size ≤ q → (fun q : Nat => s.heap.size ≤ q) q := fun _ h => h
  have hS : va_S (fun q : Nat => s.heap.size ≤ q) s.heap s.heap [] := va_S.rf
  have hl := lv_entry ([.ref h0, .int i, .int what]) (n := 3) (Nat.le_of_ble_eq_true rfl)
  rw [lg_entry_eq]
  generalize (lg_sl ([.ref h0, .int i, .int what]) ++ List.replicate (3 - (lg_sl ([.ref h0, .int i, .int what])).length) Slot.unset).toArray = ls at hl ⊢
  have hl : lv_has ls 3 [(0, .ref h0), (1, .int i), (2, .int what)] := hl
  refine lv_aload_n hx hb dX11_stretch_0 rfl (lv_at hl 0 rfl) ?_
  refine lv_iload_n hx hb dX11_stretch_1 rfl (lv_at hl 1 rfl) ?_
  have hPc := hP.sub (ws' := [(h0, .inr (11, [.ref st, .int (nI N), .int (nI B), .ref rp, .int vrs, .int vrb, .int vhs, .int vca, .int vxs, .int vxb, .ref tp, .int (nI T), .int vfa, .int vbr, .int vba, .int vsp, .int vhe, .int vtk, .int vva, .ref cu, .ref lt, .ref od, .ref th, .ref be, .ref ln, .int (nI S), .ref ma, .int (nI M), .ref ah, .ref bh, .ref ik, .ref la, .ref lg, .ref ce, .int vto]))]) [0] rfl
  refine va_calli (va_runV (As := [.int i]) (rest := []) ⟨hx, hb, hml, hown, hg⟩ (c_X11_isStretch l dC dI G _ h0 st N B rp tp T cu lt od th be ln S ma M ah bh ik la lg ce i vrs vrb vhs vca vxs vxb vfa vbr vba vsp vhe vtk vva vto hN hB_ hT_ hS0 hM_) (kwV hg mfX11_isStretch wt_1052 ⟨Nat.le_of_ble_eq_true rfl, Nat.le_of_ble_eq_true rfl⟩) (preVR hK hPc (ci := 11) (r := (RX11, TX11, 35)) rfl rfl) rfl rfl hl.1 rfl (lv_room (Nat.le_of_ble_eq_true rfl)) dX11_stretch_2 ⟨Nat.le_of_ble_eq_true rfl, Nat.le_of_ble_eq_true rfl⟩) hS (fun q h1 h2 => absurd h2 (Nat.not_le.mpr h1)) (fun q h => hA q (Nat.le_trans hS.1 h)) (fun r1 ur1 t H1 locs ht hvm w2 hB hz1 hk1 hS => ?_)
  have hP := keepR hP hk1
  obtain ⟨w2, w2x⟩ := w2
  try simp only [l_ii, show (0 : Int32).toInt = 0 from by decide] at w2
  try rw [show (nI (N)).toInt = ((N : Nat) : Int) from tn596_ ()] at w2
  subst w2
  refine lv_if_eq (tgt := 20) hx hb dX11_stretch_5 rfl (fun c3 => ?_) (fun c3 => ?_)
  · skip
    have b4 := if10_n c3
    refine lv_iconst (v := (-1)) hx hb dX11_stretch_20 rfl ?_
    have hpost : True := by
      trivial
    refine W.widen (k := 0) (n := 0) (Nat.le_of_ble_eq_true rfl) (Nat.le_of_ble_eq_true rfl) ?_
    exact W.iret (v := (-1)) hx hb hr (fun t ht hW => ⟨⟨(-1), (), rfl, ⟨hpost, trivial⟩, trivial⟩, hS.F ht⟩) hS.2.2 dX11_stretch_21
  · skip
    have b5 := if10_p c3
    refine lv_iload_n hx hb dX11_stretch_8 rfl (lv_at hl 2 rfl) ?_
    refine lv_i2l (v := what.toInt64) hx hb dX11_stretch_9 rfl ?_
    refine lv_lconst (v := 0) hx hb dX11_stretch_10 (by decide) ?_
    refine lv_ldc2 (v := 2) hx hb hown (hg _ wt_1056) dX11_stretch_11 ?_
    have hPc := hP.sub (ws' := []) [] rfl
    refine va_calli (va_runS (As := [.long what.toInt64, .long 0, .long 2]) (rest := []) ⟨hx, hb, hml, hown, hg⟩ (c_X11_in l dC dI G _ what.toInt64 0 2) (kwS hg mfX11_in wt_992 ⟨Nat.le_of_ble_eq_true rfl, Nat.le_of_ble_eq_true rfl⟩) (preSR hK hPc) rfl rfl hl.1 rfl (lv_room (Nat.le_of_ble_eq_true rfl)) dX11_stretch_14 ⟨Nat.le_of_ble_eq_true rfl, Nat.le_of_ble_eq_true rfl⟩) hS (fun q h1 h2 => absurd h2 (Nat.not_le.mpr h1)) (fun q h => hA q (Nat.le_trans hS.1 h)) (fun r6 ur6 t H1 locs ht hvm w7 hB hz1 hk1 hS => ?_)
    have hP := keepR hP hk1
    obtain ⟨w7, w7x⟩ := w7
    try simp only [l_ii, show (0 : Int64).toInt = 0 from by decide, show (2 : Int64).toInt = 2 from by decide] at w7
    subst w7
    refine lv_if_ne (tgt := 22) hx hb dX11_stretch_17 rfl (fun c8 => ?_) (fun c8 => ?_)
    · skip
      have b9 := if10_p c8
      obtain ⟨ii, hii, rfl⟩ : ∃ j : Nat, j < 10 ∧ i = nI j := by
        have t_b5 := b5
        have t_b9 := b9
        have t_n0 : (nI N).toInt = (N : Int) := tn596_ ()
        have t_n1 : (nI B).toInt = (B : Int) := tn597_ ()
        have t_n2 : (nI T).toInt = (T : Int) := tn598_ ()
        have t_n3 : (nI S).toInt = (S : Int) := tn599_ ()
        have t_n4 : (nI M).toInt = (M : Int) := tn600_ ()
        exact i32_nat (by omega) (by omega)
      obtain ⟨wh, hwh, rfl⟩ : ∃ j : Nat, j < 3 ∧ what = nI j := by
        have t_b5 := b5
        have t_b9 := b9
        have t_hii := hii
        have t_n0 : (nI N).toInt = (N : Int) := tn596_ ()
        have t_n1 : (nI B).toInt = (B : Int) := tn597_ ()
        have t_n2 : (nI T).toInt = (T : Int) := tn598_ ()
        have t_n3 : (nI S).toInt = (S : Int) := tn599_ ()
        have t_n4 : (nI M).toInt = (M : Int) := tn600_ ()
        have tn601_ : nIT ii := fun _ => nI_toInt (by omega)
        have t_n5 : (nI ii).toInt = (ii : Int) := tn601_ ()
        exact i32_nat (by omega) (by omega)
      refine lv_iload_n hx hb dX11_stretch_22 rfl (lv_at hl 2 rfl) ?_
      refine lv_iconst (v := 2) hx hb dX11_stretch_23 rfl ?_
      refine lv_icmp_ne (tgt := 39) hx hb dX11_stretch_24 rfl (fun c10 => ?_) (fun c10 => ?_)
      · skip
        have tn602_ : nIT wh := fun _ => nI_toInt (by first | omega | (have t := neI c10; omega))
        have n11 : wh ≠ 2 := by have t := neI c10; rw [show (nI (wh)).toInt = ((wh : Nat) : Int) from tn602_ ()] at t; have : (2 : Int32).toInt = 2 := qI_2; omega
        refine lv_aload_n hx hb dX11_stretch_39 rfl (lv_at hl 0 rfl) ?_
        refine va_get (D := (dC, dI)) (ci := 11) (v := .ref st) (C := RX11) (T := TX11) (N := 35) hx hb hg inG11 hown hK.1 hP 0 rfl rfl 0 (Nat.le_of_ble_eq_true rfl) (hg _ wt_878) (fun _ h9 => h9) rfl dX11_stretch_40 ?_
        refine lv_iconst (v := 2) hx hb dX11_stretch_43 rfl ?_
        refine lv_iload_n hx hb dX11_stretch_44 rfl (lv_at hl 1 rfl) ?_
        refine lv_imul hx hb dX11_stretch_45 ?_
        refine lv_cg (y := nI (2 * ii)) (by rw [show (2 : Int32) = nI 2 from rfl]; exact pk_mul _ _) ?_
        refine lv_iload_n hx hb dX11_stretch_46 rfl (lv_at hl 2 rfl) ?_
        refine lv_iadd hx hb dX11_stretch_47 ?_
        refine lv_cg (y := nI ((2 * ii) + wh)) (by exact nI_add _ _) ?_
        have tn603_ : nIT ii := fun _ => nI_toInt (by first | omega | (have t_b5 := b5; have t_b9 := b9; have t_hii := hii; have t_hwh := hwh; have t_n11 := n11; omega))
        refine va_iald hx hb hK.1 hP 1 0 rfl rfl (vp_in_nI (by first | omega | (have t_b5 := b5; have t_b9 := b9; have t_hii := hii; have t_hwh := hwh; have t_n11 := n11; have tnb_ := nib7 tn596_ tn597_ tn598_ tn599_ tn600_ tn603_ tn602_; omega)) (by decide)) dX11_stretch_48 ?_
        refine lv_cg (y := fst ((2 * ii) + wh)) (by rw [nI_clamp (by omega)]) ?_
        have hpost : True := by
          trivial
        refine W.widen (k := 0) (n := 0) (Nat.le_of_ble_eq_true rfl) (Nat.le_of_ble_eq_true rfl) ?_
        exact W.iret (v := fst ((2 * ii) + wh)) hx hb hr (fun t ht hW => ⟨⟨fst ((2 * ii) + wh), (), rfl, ⟨hpost, trivial⟩, trivial⟩, hS.F ht⟩) hS.2.2 dX11_stretch_49
      · skip
        have tn604_ : nIT wh := fun _ => nI_toInt (by first | omega | (have t := eqI c10; omega))
        have n12 : wh = 2 := by have t := eqI c10; rw [show (nI (wh)).toInt = ((wh : Nat) : Int) from tn604_ ()] at t; have : (2 : Int32).toInt = 2 := qI_2; omega
        refine lv_aload_n hx hb dX11_stretch_27 rfl (lv_at hl 0 rfl) ?_
        refine va_get (D := (dC, dI)) (ci := 11) (v := .ref st) (C := RX11) (T := TX11) (N := 35) hx hb hg inG11 hown hK.1 hP 0 rfl rfl 0 (Nat.le_of_ble_eq_true rfl) (hg _ wt_878) (fun _ h9 => h9) rfl dX11_stretch_28 ?_
        refine lv_bipush (v := 38) hx hb dX11_stretch_31 rfl ?_
        refine lv_iload_n hx hb dX11_stretch_33 rfl (lv_at hl 1 rfl) ?_
        refine lv_iadd hx hb dX11_stretch_34 ?_
        refine lv_cg (y := nI (38 + ii)) (by rw [show (38 : Int32) = nI 38 from rfl]; exact nI_add _ _) ?_
        have tn605_ : nIT ii := fun _ => nI_toInt (by first | omega | (have t_b5 := b5; have t_b9 := b9; have t_hii := hii; have t_hwh := hwh; have t_n12 := n12; omega))
        refine va_iald hx hb hK.1 hP 1 0 rfl rfl (vp_in_nI (by first | omega | (have t_b5 := b5; have t_b9 := b9; have t_hii := hii; have t_hwh := hwh; have t_n12 := n12; have tnb_ := nib7 tn596_ tn597_ tn598_ tn599_ tn600_ tn605_ tn604_; omega)) (by decide)) dX11_stretch_35 ?_
        refine lv_cg (y := fst (38 + ii)) (by rw [nI_clamp (by omega)]) ?_
        refine lv_goto (tgt := 49) hx hb dX11_stretch_36 rfl ?_
        have hpost : True := by
          trivial
        refine W.widen (k := 0) (n := 0) (Nat.le_of_ble_eq_true rfl) (Nat.le_of_ble_eq_true rfl) ?_
        exact W.iret (v := fst (38 + ii)) hx hb hr (fun t ht hW => ⟨⟨fst (38 + ii), (), rfl, ⟨hpost, trivial⟩, trivial⟩, hS.F ht⟩) hS.2.2 dX11_stretch_49
    · skip
      have b13 := if10_n c8
      refine lv_iconst (v := (-1)) hx hb dX11_stretch_20 rfl ?_
      have hpost : True := by
        trivial
      refine W.widen (k := 0) (n := 0) (Nat.le_of_ble_eq_true rfl) (Nat.le_of_ble_eq_true rfl) ?_
      exact W.iret (v := (-1)) hx hb hr (fun t ht hW => ⟨⟨(-1), (), rfl, ⟨hpost, trivial⟩, trivial⟩, hS.F ht⟩) hS.2.2 dX11_stretch_21

set_option maxHeartbeats 1000000 in
set_option maxRecDepth 100000 in
theorem c_X11_kindOf (l : Launch) (dC : Nat → ClassId) (dI : Nat → Nat → Nat) (G : Nat → ClassId) (sz : Nat) (h0 b st N B rp tp T cu lt od th be ln S ma M ah bh ik la lg ce : Nat) (vrs vrb vhs vca vxs vxb vfa vbr vba vsp vhe vtk vva vto : Int32) (fst : Nat → Int32) (hN : N ≤ 10) (hB : B ≤ 6) (hT : T ≤ 320) (hS0 : S ≤ 8) (hM : M ≤ 6) (hkb : b < 6) : Met l yX11_kindOf (Cond.code yX11_kindOf cX11_kindOf 2 (some .int) :: GT) ({ frames := 0, cells := 0, slots := 0, locals := 0 } : Room) (PcR [.ref h0, .int (nI b)] dC dI G [(h0, .inr (11, [.ref st, .int (nI N), .int (nI B), .ref rp, .int vrs, .int vrb, .int vhs, .int vca, .int vxs, .int vxb, .ref tp, .int (nI T), .int vfa, .int vbr, .int vba, .int vsp, .int vhe, .int vtk, .int vva, .ref cu, .ref lt, .ref od, .ref th, .ref be, .ref ln, .int (nI S), .ref ma, .int (nI M), .ref ah, .ref bh, .ref ik, .ref la, .ref lg, .ref ce, .int vto])), (st, .inl (G 0, 196, .inl fst))] sz) (va_Qi (fun (r : Int32) (u : Unit) => match u with | _ => (r = fst (20 + 3 * b)) ∧ True) (fun _ _ => True) (fun q : Nat => sz ≤ q)) 0 0 (fun q : Nat => sz ≤ q) := by
  have tn660_ : nIT N := fun _ => nI_toInt (by omega)
  have tn661_ : nIT B := fun _ => nI_toInt (by omega)
  have tn662_ : nIT T := fun _ => nI_toInt (by omega)
  have tn663_ : nIT S := fun _ => nI_toInt (by omega)
  have tn664_ : nIT M := fun _ => nI_toInt (by omega)
  refine Met.ofW (cc := cX11_kindOf) (maxL := 2) (ret := (some .int)) (by decide) rfl ?_
  intro p e s m args below meth c s₁ Bd hml hv
  obtain ⟨rfl, hsz, hP, hK⟩ := hv
  have hx := Bd.exec
  have hb := Bd.bytes
  have hr := Bd.returns
  have hg : ∀ w ∈ GT, w.before ([.ref h0, .int (nI b)] : List Value).toArray s = true := fun w h => atoms_spec (ws := Cond.code yX11_kindOf cX11_kindOf 2 (some .int) :: GT) Bd.pre w (List.mem_cons_of_mem _ h)
  have hown : s.vm.findClass RX11 = some m.cls := findClass_of_methodNamed Bd.named
  have hlocks := Bd.notSynchronized
  subst hsz
  have hA : ∀ q : Nat, s.heap.size ≤ q → (fun q : Nat => s.heap.size ≤ q) q := fun _ h => h
  have hS : va_S (fun q : Nat => s.heap.size ≤ q) s.heap s.heap [] := va_S.rf
  have hl := lv_entry ([.ref h0, .int (nI b)]) (n := 2) (Nat.le_of_ble_eq_true rfl)
  rw [lg_entry_eq]
  generalize (lg_sl ([.ref h0, .int (nI b)]) ++ List.replicate (2 - (lg_sl ([.ref h0, .int (nI b)])).length) Slot.unset).toArray = ls at hl ⊢
  have hl : lv_has ls 2 [(0, .ref h0), (1, .int (nI b))] := hl
  refine lv_aload_n hx hb dX11_kindOf_0 rfl (lv_at hl 0 rfl) ?_
  refine va_get (D := (dC, dI)) (ci := 11) (v := .ref st) (C := RX11) (T := TX11) (N := 35) hx hb hg inG11 hown hK.1 hP 0 rfl rfl 0 (Nat.le_of_ble_eq_true rfl) (hg _ wt_878) (fun _ h9 => h9) rfl dX11_kindOf_1 ?_
  refine lv_bipush (v := 20) hx hb dX11_kindOf_4 rfl ?_
  refine lv_iconst (v := 3) hx hb dX11_kindOf_6 rfl ?_
  refine lv_iload_n hx hb dX11_kindOf_7 rfl (lv_at hl 1 rfl) ?_
  refine lv_imul hx hb dX11_kindOf_8 ?_
  refine lv_cg (y := nI (3 * b)) (by rw [show (3 : Int32) = nI 3 from rfl]; exact pk_mul _ _) ?_
  refine lv_iadd hx hb dX11_kindOf_9 ?_
  refine lv_cg (y := nI (20 + (3 * b))) (by rw [show (20 : Int32) = nI 20 from rfl]; exact nI_add _ _) ?_
  have tn665_ : nIT b := fun _ => nI_toInt (by omega)
  refine va_iald hx hb hK.1 hP 1 0 rfl rfl (vp_in_nI (by first | omega | (have tnb_ := nib6 tn665_ tn660_ tn661_ tn662_ tn663_ tn664_; omega)) (by decide)) dX11_kindOf_10 ?_
  refine lv_cg (y := fst (20 + (3 * b))) (by rw [nI_clamp (by omega)]) ?_
  have hpost : (fst (20 + (3 * b)) : Int32) = fst (20 + 3 * b) := by
    have t_n0 : (nI b).toInt = (b : Int) := tn665_ ()
    have t_n1 : (nI N).toInt = (N : Int) := tn660_ ()
    have t_n2 : (nI B).toInt = (B : Int) := tn661_ ()
    have t_n3 : (nI T).toInt = (T : Int) := tn662_ ()
    have t_n4 : (nI S).toInt = (S : Int) := tn663_ ()
    have t_n5 : (nI M).toInt = (M : Int) := tn664_ ()
    first | rfl | ((repeat' split) <;> first | rfl | omega)
  refine W.widen (k := 0) (n := 0) (Nat.le_of_ble_eq_true rfl) (Nat.le_of_ble_eq_true rfl) ?_
  exact W.iret (v := fst (20 + (3 * b))) hx hb hr (fun t ht hW => ⟨⟨fst (20 + (3 * b)), (), rfl, ⟨hpost, trivial⟩, trivial⟩, hS.F ht⟩) hS.2.2 dX11_kindOf_11

set_option maxHeartbeats 1000000 in
set_option maxRecDepth 100000 in
theorem c_X11_canHarm (l : Launch) (dC : Nat → ClassId) (dI : Nat → Nat → Nat) (G : Nat → ClassId) (sz : Nat) (h0 st N B rp tp T cu lt od th be ln S ma M ah bh ik la lg ce : Nat) (i g k vrs vrb vhs vca vxs vxb vfa vbr vba vsp vhe vtk vva vto : Int32) (hN : N ≤ 10) (hB : B ≤ 6) (hT : T ≤ 320) (hS0 : S ≤ 8) (hM : M ≤ 6) : Met l yX11_canHarm (Cond.code yX11_canHarm cX11_canHarm 4 (some .boolean) :: GT) ({ frames := 2, cells := 0, slots := 0, locals := 46 } : Room) (PcR [.ref h0, .int i, .int g, .int k] dC dI G [(h0, .inr (11, [.ref st, .int (nI N), .int (nI B), .ref rp, .int vrs, .int vrb, .int vhs, .int vca, .int vxs, .int vxb, .ref tp, .int (nI T), .int vfa, .int vbr, .int vba, .int vsp, .int vhe, .int vtk, .int vva, .ref cu, .ref lt, .ref od, .ref th, .ref be, .ref ln, .int (nI S), .ref ma, .int (nI M), .ref ah, .ref bh, .ref ik, .ref la, .ref lg, .ref ce, .int vto]))] sz) (va_Qi (fun (r : Int32) (u : Unit) => match u with | _ => (r = if (0 ≤ i.toInt ∧ i.toInt < ((N : Nat) : Int)) ∧ (0 ≤ k.toInt ∧ k.toInt < ((B : Nat) : Int)) ∧ (g.toInt = -4 ∨ (0 ≤ g.toInt ∧ g.toInt < ((B : Nat) : Int))) then 1 else 0) ∧ True) (fun _ _ => True) (fun q : Nat => sz ≤ q)) 0 0 (fun q : Nat => sz ≤ q) := by
  have hB_ := hB
  have hM_ := hM
  have hT_ := hT
  have tn666_ : nIT N := fun _ => nI_toInt (by omega)
  have tn667_ : nIT B := fun _ => nI_toInt (by omega)
  have tn668_ : nIT T := fun _ => nI_toInt (by omega)
  have tn669_ : nIT S := fun _ => nI_toInt (by omega)
  have tn670_ : nIT M := fun _ => nI_toInt (by omega)
  refine Met.ofW (cc := cX11_canHarm) (maxL := 4) (ret := (some .boolean)) (by decide) rfl ?_
  intro p e s m args below meth c s₁ Bd hml hv
  obtain ⟨rfl, hsz, hP, hK⟩ := hv
  have hx := Bd.exec
  have hb := Bd.bytes
  have hr := Bd.returns
  have hg : ∀ w ∈ GT, w.before ([.ref h0, .int i, .int g, .int k] : List Value).toArray s = true := fun w h => atoms_spec (ws := Cond.code yX11_canHarm cX11_canHarm 4 (some .boolean) :: GT) Bd.pre w (List.mem_cons_of_mem _ h)
  have hown : s.vm.findClass RX11 = some m.cls := findClass_of_methodNamed Bd.named
  have hlocks := Bd.notSynchronized
  subst hsz
  have hA : ∀ q : Nat, s.heap.size ≤ q → (fun q : Nat => s.heap.size ≤ q) q := fun _ h => h
  have hS : va_S (fun q : Nat => s.heap.size ≤ q) s.heap s.heap [] := va_S.rf
  have hl := lv_entry ([.ref h0, .int i, .int g, .int k]) (n := 4) (Nat.le_of_ble_eq_true rfl)
  rw [lg_entry_eq]
  generalize (lg_sl ([.ref h0, .int i, .int g, .int k]) ++ List.replicate (4 - (lg_sl ([.ref h0, .int i, .int g, .int k])).length) Slot.unset).toArray = ls at hl ⊢
  have hl : lv_has ls 4 [(0, .ref h0), (1, .int i), (2, .int g), (3, .int k)] := hl
  refine lv_aload_n hx hb dX11_canHarm_0 rfl (lv_at hl 0 rfl) ?_
  refine lv_iload_n hx hb dX11_canHarm_1 rfl (lv_at hl 1 rfl) ?_
  have hPc := hP.sub (ws' := [(h0, .inr (11, [.ref st, .int (nI N), .int (nI B), .ref rp, .int vrs, .int vrb, .int vhs, .int vca, .int vxs, .int vxb, .ref tp, .int (nI T), .int vfa, .int vbr, .int vba, .int vsp, .int vhe, .int vtk, .int vva, .ref cu, .ref lt, .ref od, .ref th, .ref be, .ref ln, .int (nI S), .ref ma, .int (nI M), .ref ah, .ref bh, .ref ik, .ref la, .ref lg, .ref ce, .int vto]))]) [0] rfl
  refine va_calli (va_runV (As := [.int i]) (rest := []) ⟨hx, hb, hml, hown, hg⟩ (c_X11_isStretch l dC dI G _ h0 st N B rp tp T cu lt od th be ln S ma M ah bh ik la lg ce i vrs vrb vhs vca vxs vxb vfa vbr vba vsp vhe vtk vva vto hN hB_ hT_ hS0 hM_) (kwV hg mfX11_isStretch wt_1052 ⟨Nat.le_of_ble_eq_true rfl, Nat.le_of_ble_eq_true rfl⟩) (preVR hK hPc (ci := 11) (r := (RX11, TX11, 35)) rfl rfl) rfl rfl hl.1 rfl (lv_room (Nat.le_of_ble_eq_true rfl)) dX11_canHarm_2 ⟨Nat.le_of_ble_eq_true rfl, Nat.le_of_ble_eq_true rfl⟩) hS (fun q h1 h2 => absurd h2 (Nat.not_le.mpr h1)) (fun q h => hA q (Nat.le_trans hS.1 h)) (fun r1 ur1 t H1 locs ht hvm w2 hB hz1 hk1 hS => ?_)
  have hP := keepR hP hk1
  obtain ⟨w2, w2x⟩ := w2
  try simp only [l_ii, show (0 : Int32).toInt = 0 from by decide] at w2
  try rw [show (nI (N)).toInt = ((N : Nat) : Int) from tn666_ ()] at w2
  subst w2
  refine lv_if_eq (tgt := 34) hx hb dX11_canHarm_5 rfl (fun c3 => ?_) (fun c3 => ?_)
  · skip
    have b4 := if10_n c3
    refine lv_iconst (v := 0) hx hb dX11_canHarm_34 rfl ?_
    have hpost : (0 : Int32) = if (0 ≤ i.toInt ∧ i.toInt < ((N : Nat) : Int)) ∧ (0 ≤ k.toInt ∧ k.toInt < ((B : Nat) : Int)) ∧ (g.toInt = -4 ∨ (0 ≤ g.toInt ∧ g.toInt < ((B : Nat) : Int))) then 1 else 0 := by
      have t_b4 := b4
      have t_n0 : (nI N).toInt = (N : Int) := tn666_ ()
      have t_n1 : (nI B).toInt = (B : Int) := tn667_ ()
      have t_n2 : (nI T).toInt = (T : Int) := tn668_ ()
      have t_n3 : (nI S).toInt = (S : Int) := tn669_ ()
      have t_n4 : (nI M).toInt = (M : Int) := tn670_ ()
      first | rfl | ((repeat' split) <;> first | rfl | omega)
    refine W.widen (k := 0) (n := 0) (Nat.le_of_ble_eq_true rfl) (Nat.le_of_ble_eq_true rfl) ?_
    exact W.zret (v := 0) hx hb hr (by first | rfl | decide | exact rfl) (fun t ht hW => ⟨⟨0, (), rfl, ⟨hpost, trivial⟩, trivial⟩, hS.F ht⟩) hS.2.2 dX11_canHarm_35
  · skip
    have b5 := if10_p c3
    refine lv_aload_n hx hb dX11_canHarm_8 rfl (lv_at hl 0 rfl) ?_
    refine lv_iload_n hx hb dX11_canHarm_9 rfl (lv_at hl 3 rfl) ?_
    have hPc := hP.sub (ws' := [(h0, .inr (11, [.ref st, .int (nI N), .int (nI B), .ref rp, .int vrs, .int vrb, .int vhs, .int vca, .int vxs, .int vxb, .ref tp, .int (nI T), .int vfa, .int vbr, .int vba, .int vsp, .int vhe, .int vtk, .int vva, .ref cu, .ref lt, .ref od, .ref th, .ref be, .ref ln, .int (nI S), .ref ma, .int (nI M), .ref ah, .ref bh, .ref ik, .ref la, .ref lg, .ref ce, .int vto]))]) [0] rfl
    refine va_calli (va_runV (As := [.int k]) (rest := []) ⟨hx, hb, hml, hown, hg⟩ (c_X11_isBearer l dC dI G _ h0 st N B rp tp T cu lt od th be ln S ma M ah bh ik la lg ce k vrs vrb vhs vca vxs vxb vfa vbr vba vsp vhe vtk vva vto hN hB_ hT_ hS0 hM_) (kwV hg mfX11_isBearer wt_1061 ⟨Nat.le_of_ble_eq_true rfl, Nat.le_of_ble_eq_true rfl⟩) (preVR hK hPc (ci := 11) (r := (RX11, TX11, 35)) rfl rfl) rfl rfl hl.1 rfl (lv_room (Nat.le_of_ble_eq_true rfl)) dX11_canHarm_10 ⟨Nat.le_of_ble_eq_true rfl, Nat.le_of_ble_eq_true rfl⟩) hS (fun q h1 h2 => absurd h2 (Nat.not_le.mpr h1)) (fun q h => hA q (Nat.le_trans hS.1 h)) (fun r6 ur6 t H1 locs ht hvm w7 hB hz1 hk1 hS => ?_)
    have hP := keepR hP hk1
    obtain ⟨w7, w7x⟩ := w7
    try simp only [l_ii, show (0 : Int32).toInt = 0 from by decide] at w7
    try rw [show (nI (B)).toInt = ((B : Nat) : Int) from tn667_ ()] at w7
    subst w7
    refine lv_if_eq (tgt := 34) hx hb dX11_canHarm_13 rfl (fun c8 => ?_) (fun c8 => ?_)
    · skip
      have b9 := if10_n c8
      refine lv_iconst (v := 0) hx hb dX11_canHarm_34 rfl ?_
      have hpost : (0 : Int32) = if (0 ≤ i.toInt ∧ i.toInt < ((N : Nat) : Int)) ∧ (0 ≤ k.toInt ∧ k.toInt < ((B : Nat) : Int)) ∧ (g.toInt = -4 ∨ (0 ≤ g.toInt ∧ g.toInt < ((B : Nat) : Int))) then 1 else 0 := by
        have t_b5 := b5
        have t_b9 := b9
        have t_n0 : (nI N).toInt = (N : Int) := tn666_ ()
        have t_n1 : (nI B).toInt = (B : Int) := tn667_ ()
        have t_n2 : (nI T).toInt = (T : Int) := tn668_ ()
        have t_n3 : (nI S).toInt = (S : Int) := tn669_ ()
        have t_n4 : (nI M).toInt = (M : Int) := tn670_ ()
        first | rfl | ((repeat' split) <;> first | rfl | omega)
      refine W.widen (k := 0) (n := 0) (Nat.le_of_ble_eq_true rfl) (Nat.le_of_ble_eq_true rfl) ?_
      exact W.zret (v := 0) hx hb hr (by first | rfl | decide | exact rfl) (fun t ht hW => ⟨⟨0, (), rfl, ⟨hpost, trivial⟩, trivial⟩, hS.F ht⟩) hS.2.2 dX11_canHarm_35
    · skip
      have b10 := if10_p c8
      refine lv_iload_n hx hb dX11_canHarm_16 rfl (lv_at hl 2 rfl) ?_
      refine lv_bipush (v := (-4)) hx hb dX11_canHarm_17 rfl ?_
      refine lv_icmp_eq (tgt := 30) hx hb dX11_canHarm_19 rfl (fun c11 => ?_) (fun c11 => ?_)
      · skip
        refine lv_iconst (v := 1) hx hb dX11_canHarm_30 rfl ?_
        refine lv_goto (tgt := 35) hx hb dX11_canHarm_31 rfl ?_
        have hpost : (1 : Int32) = if (0 ≤ i.toInt ∧ i.toInt < ((N : Nat) : Int)) ∧ (0 ≤ k.toInt ∧ k.toInt < ((B : Nat) : Int)) ∧ (g.toInt = -4 ∨ (0 ≤ g.toInt ∧ g.toInt < ((B : Nat) : Int))) then 1 else 0 := by
          have t_b5 := b5
          have t_b10 := b10
          have t_c11 := eqI c11
          have : ((-4) : Int32).toInt = -4 := qI_m4
          have t_n0 : (nI N).toInt = (N : Int) := tn666_ ()
          have t_n1 : (nI B).toInt = (B : Int) := tn667_ ()
          have t_n2 : (nI T).toInt = (T : Int) := tn668_ ()
          have t_n3 : (nI S).toInt = (S : Int) := tn669_ ()
          have t_n4 : (nI M).toInt = (M : Int) := tn670_ ()
          first | rfl | ((repeat' split) <;> first | rfl | omega)
        refine W.widen (k := 0) (n := 0) (Nat.le_of_ble_eq_true rfl) (Nat.le_of_ble_eq_true rfl) ?_
        exact W.zret (v := 1) hx hb hr (by first | rfl | decide | exact rfl) (fun t ht hW => ⟨⟨1, (), rfl, ⟨hpost, trivial⟩, trivial⟩, hS.F ht⟩) hS.2.2 dX11_canHarm_35
      · skip
        refine lv_aload_n hx hb dX11_canHarm_22 rfl (lv_at hl 0 rfl) ?_
        refine lv_iload_n hx hb dX11_canHarm_23 rfl (lv_at hl 2 rfl) ?_
        have hPc := hP.sub (ws' := [(h0, .inr (11, [.ref st, .int (nI N), .int (nI B), .ref rp, .int vrs, .int vrb, .int vhs, .int vca, .int vxs, .int vxb, .ref tp, .int (nI T), .int vfa, .int vbr, .int vba, .int vsp, .int vhe, .int vtk, .int vva, .ref cu, .ref lt, .ref od, .ref th, .ref be, .ref ln, .int (nI S), .ref ma, .int (nI M), .ref ah, .ref bh, .ref ik, .ref la, .ref lg, .ref ce, .int vto]))]) [0] rfl
        refine va_calli (va_runV (As := [.int g]) (rest := []) ⟨hx, hb, hml, hown, hg⟩ (c_X11_isBearer l dC dI G _ h0 st N B rp tp T cu lt od th be ln S ma M ah bh ik la lg ce g vrs vrb vhs vca vxs vxb vfa vbr vba vsp vhe vtk vva vto hN hB_ hT_ hS0 hM_) (kwV hg mfX11_isBearer wt_1061 ⟨Nat.le_of_ble_eq_true rfl, Nat.le_of_ble_eq_true rfl⟩) (preVR hK hPc (ci := 11) (r := (RX11, TX11, 35)) rfl rfl) rfl rfl hl.1 rfl (lv_room (Nat.le_of_ble_eq_true rfl)) dX11_canHarm_24 ⟨Nat.le_of_ble_eq_true rfl, Nat.le_of_ble_eq_true rfl⟩) hS (fun q h1 h2 => absurd h2 (Nat.not_le.mpr h1)) (fun q h => hA q (Nat.le_trans hS.1 h)) (fun r12 ur12 t H1 locs ht hvm w13 hB hz1 hk1 hS => ?_)
        have hP := keepR hP hk1
        obtain ⟨w13, w13x⟩ := w13
        try simp only [l_ii, show (0 : Int32).toInt = 0 from by decide] at w13
        try rw [show (nI (B)).toInt = ((B : Nat) : Int) from tn667_ ()] at w13
        subst w13
        refine lv_if_eq (tgt := 34) hx hb dX11_canHarm_27 rfl (fun c14 => ?_) (fun c14 => ?_)
        · skip
          have b15 := if10_n c14
          refine lv_iconst (v := 0) hx hb dX11_canHarm_34 rfl ?_
          have hpost : (0 : Int32) = if (0 ≤ i.toInt ∧ i.toInt < ((N : Nat) : Int)) ∧ (0 ≤ k.toInt ∧ k.toInt < ((B : Nat) : Int)) ∧ (g.toInt = -4 ∨ (0 ≤ g.toInt ∧ g.toInt < ((B : Nat) : Int))) then 1 else 0 := by
            have t_b5 := b5
            have t_b10 := b10
            have t_c11 := neI c11
            have t_b15 := b15
            have : ((-4) : Int32).toInt = -4 := qI_m4
            have t_n0 : (nI N).toInt = (N : Int) := tn666_ ()
            have t_n1 : (nI B).toInt = (B : Int) := tn667_ ()
            have t_n2 : (nI T).toInt = (T : Int) := tn668_ ()
            have t_n3 : (nI S).toInt = (S : Int) := tn669_ ()
            have t_n4 : (nI M).toInt = (M : Int) := tn670_ ()
            first | rfl | ((repeat' split) <;> first | rfl | omega)
          refine W.widen (k := 0) (n := 0) (Nat.le_of_ble_eq_true rfl) (Nat.le_of_ble_eq_true rfl) ?_
          exact W.zret (v := 0) hx hb hr (by first | rfl | decide | exact rfl) (fun t ht hW => ⟨⟨0, (), rfl, ⟨hpost, trivial⟩, trivial⟩, hS.F ht⟩) hS.2.2 dX11_canHarm_35
        · skip
          have b16 := if10_p c14
          refine lv_iconst (v := 1) hx hb dX11_canHarm_30 rfl ?_
          refine lv_goto (tgt := 35) hx hb dX11_canHarm_31 rfl ?_
          have hpost : (1 : Int32) = if (0 ≤ i.toInt ∧ i.toInt < ((N : Nat) : Int)) ∧ (0 ≤ k.toInt ∧ k.toInt < ((B : Nat) : Int)) ∧ (g.toInt = -4 ∨ (0 ≤ g.toInt ∧ g.toInt < ((B : Nat) : Int))) then 1 else 0 := by
            have t_b5 := b5
            have t_b10 := b10
            have t_c11 := neI c11
            have t_b16 := b16
            have : ((-4) : Int32).toInt = -4 := qI_m4
            have t_n0 : (nI N).toInt = (N : Int) := tn666_ ()
            have t_n1 : (nI B).toInt = (B : Int) := tn667_ ()
            have t_n2 : (nI T).toInt = (T : Int) := tn668_ ()
            have t_n3 : (nI S).toInt = (S : Int) := tn669_ ()
            have t_n4 : (nI M).toInt = (M : Int) := tn670_ ()
            first | rfl | ((repeat' split) <;> first | rfl | omega)
          refine W.widen (k := 0) (n := 0) (Nat.le_of_ble_eq_true rfl) (Nat.le_of_ble_eq_true rfl) ?_
          exact W.zret (v := 1) hx hb hr (by first | rfl | decide | exact rfl) (fun t ht hW => ⟨⟨1, (), rfl, ⟨hpost, trivial⟩, trivial⟩, hS.F ht⟩) hS.2.2 dX11_canHarm_35

set_option maxHeartbeats 1000000 in
set_option maxRecDepth 100000 in
theorem c_X11_harmOfN (l : Launch) (dC : Nat → ClassId) (dI : Nat → Nat → Nat) (G : Nat → ClassId) (sz : Nat) (h0 i b st N B rp tp T cu lt od th be ln S ma M ah bh ik la lg ce : Nat) (q vrs vrb vhs vca vxs vxb vfa vbr vba vsp vhe vtk vva vto : Int32) (fst : Nat → Int32) (hN : N ≤ 10) (hB : B ≤ 6) (hT : T ≤ 320) (hS0 : S ≤ 8) (hM : M ≤ 6) (hi : i < 10) (hkb : b < 6) : Met l yX11_harmOf (Cond.code yX11_harmOf cX11_harmOf 10 (some .int) :: GT) ({ frames := 1, cells := 0, slots := 0, locals := 21 } : Room) (PcR [.ref h0, .int (nI i), .int (-4), .int (nI b), .int q] dC dI G [(h0, .inr (11, [.ref st, .int (nI N), .int (nI B), .ref rp, .int vrs, .int vrb, .int vhs, .int vca, .int vxs, .int vxb, .ref tp, .int (nI T), .int vfa, .int vbr, .int vba, .int vsp, .int vhe, .int vtk, .int vva, .ref cu, .ref lt, .ref od, .ref th, .ref be, .ref ln, .int (nI S), .ref ma, .int (nI M), .ref ah, .ref bh, .ref ik, .ref la, .ref lg, .ref ce, .int vto])), (st, .inl (G 0, 196, .inl fst))] sz) (va_Qi (fun (r : Int32) (u : Unit) => match u with | _ => (r = rhN fst i b q) ∧ True) (fun _ _ => True) (fun q : Nat => sz ≤ q)) 0 0 (fun q : Nat => sz ≤ q) := by
  have hB_ := hB
  have hM_ := hM
  have hT_ := hT
  have tn671_ : nIT N := fun _ => nI_toInt (by omega)
  have tn672_ : nIT B := fun _ => nI_toInt (by omega)
  have tn673_ : nIT T := fun _ => nI_toInt (by omega)
  have tn674_ : nIT S := fun _ => nI_toInt (by omega)
  have tn675_ : nIT M := fun _ => nI_toInt (by omega)
  refine Met.ofW (cc := cX11_harmOf) (maxL := 10) (ret := (some .int)) (by decide) rfl ?_
  intro p e s m args below meth c s₁ Bd hml hv
  obtain ⟨rfl, hsz, hP, hK⟩ := hv
  have hx := Bd.exec
  have hb := Bd.bytes
  have hr := Bd.returns
  have hg : ∀ w ∈ GT, w.before ([.ref h0, .int (nI i), .int (-4), .int (nI b), .int q] : List Value).toArray s = true := fun w h => atoms_spec (ws := Cond.code yX11_harmOf cX11_harmOf 10 (some .int) :: GT) Bd.pre w (List.mem_cons_of_mem _ h)
  have hown : s.vm.findClass RX11 = some m.cls := findClass_of_methodNamed Bd.named
  have hlocks := Bd.notSynchronized
  subst hsz
  have hA : ∀ q : Nat, s.heap.size ≤ q → (fun q : Nat => s.heap.size ≤ q) q := fun _ h => h
  have hS : va_S (fun q : Nat => s.heap.size ≤ q) s.heap s.heap [] := va_S.rf
  have hl := lv_entry ([.ref h0, .int (nI i), .int (-4), .int (nI b), .int q]) (n := 10) (Nat.le_of_ble_eq_true rfl)
  rw [lg_entry_eq]
  generalize (lg_sl ([.ref h0, .int (nI i), .int (-4), .int (nI b), .int q]) ++ List.replicate (10 - (lg_sl ([.ref h0, .int (nI i), .int (-4), .int (nI b), .int q])).length) Slot.unset).toArray = ls at hl ⊢
  have hl : lv_has ls 10 [(0, .ref h0), (1, .int (nI i)), (2, .int (-4)), (3, .int (nI b)), (4, .int q)] := hl
  refine lv_aload_n hx hb dX11_harmOf_0 rfl (lv_at hl 0 rfl) ?_
  refine lv_iload_n hx hb dX11_harmOf_1 rfl (lv_at hl 3 rfl) ?_
  have hPc := hP.sub (ws' := [(h0, .inr (11, [.ref st, .int (nI N), .int (nI B), .ref rp, .int vrs, .int vrb, .int vhs, .int vca, .int vxs, .int vxb, .ref tp, .int (nI T), .int vfa, .int vbr, .int vba, .int vsp, .int vhe, .int vtk, .int vva, .ref cu, .ref lt, .ref od, .ref th, .ref be, .ref ln, .int (nI S), .ref ma, .int (nI M), .ref ah, .ref bh, .ref ik, .ref la, .ref lg, .ref ce, .int vto])), (st, .inl (G 0, 196, .inl fst))]) [0, 1] rfl
  have tn676_ : nIT i := fun _ => nI_toInt (by omega)
  have tn677_ : nIT b := fun _ => nI_toInt (by omega)
  refine va_calli (va_runV (As := [.int (nI b)]) (rest := []) ⟨hx, hb, hml, hown, hg⟩ (c_X11_kindOf l dC dI G _ h0 b st N B rp tp T cu lt od th be ln S ma M ah bh ik la lg ce vrs vrb vhs vca vxs vxb vfa vbr vba vsp vhe vtk vva vto fst hN hB_ hT_ hS0 hM_ hkb) (kwV hg mfX11_kindOf wt_1110 ⟨Nat.le_of_ble_eq_true rfl, Nat.le_of_ble_eq_true rfl⟩) (preVR hK hPc (ci := 11) (r := (RX11, TX11, 35)) rfl rfl) rfl rfl hl.1 rfl (lv_room (Nat.le_of_ble_eq_true rfl)) dX11_harmOf_2 ⟨Nat.le_of_ble_eq_true rfl, Nat.le_of_ble_eq_true rfl⟩) hS (fun q h1 h2 => absurd h2 (Nat.not_le.mpr h1)) (fun q h => hA q (Nat.le_trans hS.1 h)) (fun r1 ur1 t H1 locs ht hvm w2 hB hz1 hk1 hS => ?_)
  have hP := keepR hP hk1
  obtain ⟨w2, w2x⟩ := w2
  subst w2
  refine lv_istore (lv' := [(5, .int (fst (20 + 3 * b))), (0, .ref h0), (1, .int (nI i)), (2, .int (-4)), (3, .int (nI b)), (4, .int q)]) hx hb dX11_harmOf_5 hl (by decide) rfl (fun ls hl => ?_)
  refine lv_iload hx hb dX11_harmOf_7 (lv_at hl 5 rfl) ?_
  have cut24_4 : ∀ (y3 : Int32) (H : Heap) (locs : List Loc), y3 = hQt fst i q → va_P (dC, dI) vwCl [(h0, .inr (11, [.ref st, .int (nI N), .int (nI B), .ref rp, .int vrs, .int vrb, .int vhs, .int vca, .int vxs, .int vxb, .ref tp, .int (nI T), .int vfa, .int vbr, .int vba, .int vsp, .int vhe, .int vtk, .int vva, .ref cu, .ref lt, .ref od, .ref th, .ref be, .ref ln, .int (nI S), .ref ma, .int (nI M), .ref ah, .ref bh, .ref ik, .ref la, .ref lg, .ref ce, .int vto])), (st, .inl (G 0, 196, .inl fst))] H → va_S (fun q : Nat => s.heap.size ≤ q) s.heap H locs → ∀ (ls : Array Slot), lv_has ls 10 [(5, .int (fst (20 + 3 * b))), (0, .ref h0), (1, .int (nI i)), (2, .int (-4)), (3, .int (nI b)), (4, .int q)] → W p l e (headSpec (Cond.code yX11_harmOf cX11_harmOf 10 (some .int) :: GT) ({ frames := 1, cells := 0, slots := 0, locals := 21 } : Room)).room s m ([.ref h0, .int (nI i), .int (-4), .int (nI b), .int q] : List Value).toArray below meth c H locs 0 0 (MQ below (va_Qi (fun (r : Int32) (u : Unit) => match u with | _ => (r = rhN fst i b q) ∧ True) (fun _ _ => True) (fun q : Nat => s.heap.size ≤ q)) ([.ref h0, .int (nI i), .int (-4), .int (nI b), .int q] : List Value).toArray s 0 0 (fun q : Nat => s.heap.size ≤ q)) (F0 m 24 ls [.int y3]) := by
    intro y3 H locs hcut hP hS ls hl
    subst hcut
    refine lv_istore (lv' := [(6, .int (hQt fst i q)), (5, .int (fst (20 + 3 * b))), (0, .ref h0), (1, .int (nI i)), (2, .int (-4)), (3, .int (nI b)), (4, .int q)]) hx hb dX11_harmOf_24 hl (by decide) rfl (fun ls hl => ?_)
    refine lv_iload hx hb dX11_harmOf_26 (lv_at hl 0 rfl) ?_
    refine lv_iload hx hb dX11_harmOf_28 (lv_at hl 1 rfl) ?_
    refine lv_iconst (v := 1) hx hb dX11_harmOf_30 rfl ?_
    have cut49_6 : ∀ (y5 : Int32) (H : Heap) (locs : List Loc), y5 = hK' (fst (20 + 3 * b)) → va_P (dC, dI) vwCl [(h0, .inr (11, [.ref st, .int (nI N), .int (nI B), .ref rp, .int vrs, .int vrb, .int vhs, .int vca, .int vxs, .int vxb, .ref tp, .int (nI T), .int vfa, .int vbr, .int vba, .int vsp, .int vhe, .int vtk, .int vva, .ref cu, .ref lt, .ref od, .ref th, .ref be, .ref ln, .int (nI S), .ref ma, .int (nI M), .ref ah, .ref bh, .ref ik, .ref la, .ref lg, .ref ce, .int vto])), (st, .inl (G 0, 196, .inl fst))] H → va_S (fun q : Nat => s.heap.size ≤ q) s.heap H locs → ∀ (ls : Array Slot), lv_has ls 10 [(6, .int (hQt fst i q)), (5, .int (fst (20 + 3 * b))), (0, .ref h0), (1, .int (nI i)), (2, .int (-4)), (3, .int (nI b)), (4, .int q)] → W p l e (headSpec (Cond.code yX11_harmOf cX11_harmOf 10 (some .int) :: GT) ({ frames := 1, cells := 0, slots := 0, locals := 21 } : Room)).room s m ([.ref h0, .int (nI i), .int (-4), .int (nI b), .int q] : List Value).toArray below meth c H locs 0 0 (MQ below (va_Qi (fun (r : Int32) (u : Unit) => match u with | _ => (r = rhN fst i b q) ∧ True) (fun _ _ => True) (fun q : Nat => s.heap.size ≤ q)) ([.ref h0, .int (nI i), .int (-4), .int (nI b), .int q] : List Value).toArray s 0 0 (fun q : Nat => s.heap.size ≤ q)) (F0 m 49 ls [.int y5, .int (hQt fst i q)]) := by
      intro y5 H locs hcut hP hS ls hl
      subst hcut
      refine lv_isub hx hb dX11_harmOf_49 ?_
      refine lv_istore (lv' := [(6, .int ((hQt fst i q) - (hK' (fst (20 + 3 * b))))), (5, .int (fst (20 + 3 * b))), (0, .ref h0), (1, .int (nI i)), (2, .int (-4)), (3, .int (nI b)), (4, .int q)]) hx hb dX11_harmOf_50 hl (by decide) rfl (fun ls hl => ?_)
      refine lv_aload_n hx hb dX11_harmOf_52 rfl (lv_at hl 2 rfl) ?_
      refine va_get (D := (dC, dI)) (ci := 11) (v := .ref st) (C := RX11) (T := TX11) (N := 35) hx hb hg inG11 hown hK.1 hP 0 rfl rfl 0 (Nat.le_of_ble_eq_true rfl) (hg _ wt_878) (fun _ h9 => h9) rfl dX11_harmOf_53 ?_
      refine lv_iconst (v := 2) hx hb dX11_harmOf_56 rfl ?_
      refine lv_iload_n hx hb dX11_harmOf_57 rfl (lv_at hl 3 rfl) ?_
      refine lv_imul hx hb dX11_harmOf_58 ?_
      refine lv_cg (y := nI (2 * i)) (by rw [show (2 : Int32) = nI 2 from rfl]; exact pk_mul _ _) ?_
      refine lv_iconst (v := 1) hx hb dX11_harmOf_59 rfl ?_
      refine lv_iadd hx hb dX11_harmOf_60 ?_
      refine lv_cg (y := nI ((2 * i) + 1)) (by rw [show (1 : Int32) = nI 1 from rfl]; exact nI_add _ _) ?_
      refine va_iald hx hb hK.1 hP 1 0 rfl rfl (vp_in_nI (by first | omega | (have tnb_ := nib7 tn676_ tn677_ tn671_ tn672_ tn673_ tn674_ tn675_; omega)) (by decide)) dX11_harmOf_61 ?_
      refine lv_cg (y := fst ((2 * i) + 1)) (by rw [nI_clamp (by omega)]) ?_
      refine lv_aload_n hx hb dX11_harmOf_62 rfl (lv_at hl 2 rfl) ?_
      refine va_get (D := (dC, dI)) (ci := 11) (v := .ref st) (C := RX11) (T := TX11) (N := 35) hx hb hg inG11 hown hK.1 hP 0 rfl rfl 0 (Nat.le_of_ble_eq_true rfl) (hg _ wt_878) (fun _ h9 => h9) rfl dX11_harmOf_63 ?_
      refine lv_bipush (v := 20) hx hb dX11_harmOf_66 rfl ?_
      refine lv_iconst (v := 3) hx hb dX11_harmOf_68 rfl ?_
      refine lv_iload_n hx hb dX11_harmOf_69 rfl (lv_at hl 5 rfl) ?_
      refine lv_imul hx hb dX11_harmOf_70 ?_
      refine lv_cg (y := nI (3 * b)) (by rw [show (3 : Int32) = nI 3 from rfl]; exact pk_mul _ _) ?_
      refine lv_iadd hx hb dX11_harmOf_71 ?_
      refine lv_cg (y := nI (20 + (3 * b))) (by rw [show (20 : Int32) = nI 20 from rfl]; exact nI_add _ _) ?_
      refine lv_iconst (v := 2) hx hb dX11_harmOf_72 rfl ?_
      refine lv_iadd hx hb dX11_harmOf_73 ?_
      refine lv_cg (y := nI ((20 + (3 * b)) + 2)) (by rw [show (2 : Int32) = nI 2 from rfl]; exact nI_add _ _) ?_
      refine va_iald hx hb hK.1 hP 1 0 rfl rfl (vp_in_nI (by first | omega | (have tnb_ := nib7 tn676_ tn677_ tn671_ tn672_ tn673_ tn674_ tn675_; omega)) (by decide)) dX11_harmOf_74 ?_
      refine lv_cg (y := fst ((20 + (3 * b)) + 2)) (by rw [nI_clamp (by omega)]) ?_
      refine lv_isub hx hb dX11_harmOf_75 ?_
      refine lv_istore (lv' := [(7, .int ((fst ((2 * i) + 1)) - (fst ((20 + (3 * b)) + 2)))), (6, .int ((hQt fst i q) - (hK' (fst (20 + 3 * b))))), (5, .int (fst (20 + 3 * b))), (0, .ref h0), (1, .int (nI i)), (2, .int (-4)), (3, .int (nI b)), (4, .int q)]) hx hb dX11_harmOf_76 hl (by decide) rfl (fun ls hl => ?_)
      refine lv_iload hx hb dX11_harmOf_78 (lv_at hl 1 rfl) ?_
      have cut89_8 : ∀ (y7 : Int32) (H : Heap) (locs : List Loc), y7 = hPos ((hQt fst i q) - (hK' (fst (20 + 3 * b)))) → va_P (dC, dI) vwCl [(h0, .inr (11, [.ref st, .int (nI N), .int (nI B), .ref rp, .int vrs, .int vrb, .int vhs, .int vca, .int vxs, .int vxb, .ref tp, .int (nI T), .int vfa, .int vbr, .int vba, .int vsp, .int vhe, .int vtk, .int vva, .ref cu, .ref lt, .ref od, .ref th, .ref be, .ref ln, .int (nI S), .ref ma, .int (nI M), .ref ah, .ref bh, .ref ik, .ref la, .ref lg, .ref ce, .int vto])), (st, .inl (G 0, 196, .inl fst))] H → va_S (fun q : Nat => s.heap.size ≤ q) s.heap H locs → ∀ (ls : Array Slot), lv_has ls 10 [(7, .int ((fst ((2 * i) + 1)) - (fst ((20 + (3 * b)) + 2)))), (6, .int ((hQt fst i q) - (hK' (fst (20 + 3 * b))))), (5, .int (fst (20 + 3 * b))), (0, .ref h0), (1, .int (nI i)), (2, .int (-4)), (3, .int (nI b)), (4, .int q)] → W p l e (headSpec (Cond.code yX11_harmOf cX11_harmOf 10 (some .int) :: GT) ({ frames := 1, cells := 0, slots := 0, locals := 21 } : Room)).room s m ([.ref h0, .int (nI i), .int (-4), .int (nI b), .int q] : List Value).toArray below meth c H locs 0 0 (MQ below (va_Qi (fun (r : Int32) (u : Unit) => match u with | _ => (r = rhN fst i b q) ∧ True) (fun _ _ => True) (fun q : Nat => s.heap.size ≤ q)) ([.ref h0, .int (nI i), .int (-4), .int (nI b), .int q] : List Value).toArray s 0 0 (fun q : Nat => s.heap.size ≤ q)) (F0 m 89 ls [.int y7]) := by
        intro y7 H locs hcut hP hS ls hl
        subst hcut
        refine lv_iload hx hb dX11_harmOf_89 (lv_at hl 0 rfl) ?_
        have cut100_10 : ∀ (y9 : Int32) (H : Heap) (locs : List Loc), y9 = hPos ((fst ((2 * i) + 1)) - (fst ((20 + (3 * b)) + 2))) → va_P (dC, dI) vwCl [(h0, .inr (11, [.ref st, .int (nI N), .int (nI B), .ref rp, .int vrs, .int vrb, .int vhs, .int vca, .int vxs, .int vxb, .ref tp, .int (nI T), .int vfa, .int vbr, .int vba, .int vsp, .int vhe, .int vtk, .int vva, .ref cu, .ref lt, .ref od, .ref th, .ref be, .ref ln, .int (nI S), .ref ma, .int (nI M), .ref ah, .ref bh, .ref ik, .ref la, .ref lg, .ref ce, .int vto])), (st, .inl (G 0, 196, .inl fst))] H → va_S (fun q : Nat => s.heap.size ≤ q) s.heap H locs → ∀ (ls : Array Slot), lv_has ls 10 [(7, .int ((fst ((2 * i) + 1)) - (fst ((20 + (3 * b)) + 2)))), (6, .int ((hQt fst i q) - (hK' (fst (20 + 3 * b))))), (5, .int (fst (20 + 3 * b))), (0, .ref h0), (1, .int (nI i)), (2, .int (-4)), (3, .int (nI b)), (4, .int q)] → W p l e (headSpec (Cond.code yX11_harmOf cX11_harmOf 10 (some .int) :: GT) ({ frames := 1, cells := 0, slots := 0, locals := 21 } : Room)).room s m ([.ref h0, .int (nI i), .int (-4), .int (nI b), .int q] : List Value).toArray below meth c H locs 0 0 (MQ below (va_Qi (fun (r : Int32) (u : Unit) => match u with | _ => (r = rhN fst i b q) ∧ True) (fun _ _ => True) (fun q : Nat => s.heap.size ≤ q)) ([.ref h0, .int (nI i), .int (-4), .int (nI b), .int q] : List Value).toArray s 0 0 (fun q : Nat => s.heap.size ≤ q)) (F0 m 100 ls [.int y9, .int (hPos ((hQt fst i q) - (hK' (fst (20 + 3 * b)))))]) := by
          intro y9 H locs hcut hP hS ls hl
          subst hcut
          refine lv_iadd hx hb dX11_harmOf_100 ?_
          refine lv_iload hx hb dX11_harmOf_101 (lv_at hl 2 rfl) ?_
          refine lv_iconst (v := 2) hx hb dX11_harmOf_103 rfl ?_
          have cut126_12 : ∀ (y11 : Int32) (H : Heap) (locs : List Loc), y11 = hTr (fst (20 + 3 * b)) (fst (2 * i + 1)) → va_P (dC, dI) vwCl [(h0, .inr (11, [.ref st, .int (nI N), .int (nI B), .ref rp, .int vrs, .int vrb, .int vhs, .int vca, .int vxs, .int vxb, .ref tp, .int (nI T), .int vfa, .int vbr, .int vba, .int vsp, .int vhe, .int vtk, .int vva, .ref cu, .ref lt, .ref od, .ref th, .ref be, .ref ln, .int (nI S), .ref ma, .int (nI M), .ref ah, .ref bh, .ref ik, .ref la, .ref lg, .ref ce, .int vto])), (st, .inl (G 0, 196, .inl fst))] H → va_S (fun q : Nat => s.heap.size ≤ q) s.heap H locs → ∀ (ls : Array Slot), lv_has ls 10 [(7, .int ((fst ((2 * i) + 1)) - (fst ((20 + (3 * b)) + 2)))), (6, .int ((hQt fst i q) - (hK' (fst (20 + 3 * b))))), (5, .int (fst (20 + 3 * b))), (0, .ref h0), (1, .int (nI i)), (2, .int (-4)), (3, .int (nI b)), (4, .int q)] → W p l e (headSpec (Cond.code yX11_harmOf cX11_harmOf 10 (some .int) :: GT) ({ frames := 1, cells := 0, slots := 0, locals := 21 } : Room)).room s m ([.ref h0, .int (nI i), .int (-4), .int (nI b), .int q] : List Value).toArray below meth c H locs 0 0 (MQ below (va_Qi (fun (r : Int32) (u : Unit) => match u with | _ => (r = rhN fst i b q) ∧ True) (fun _ _ => True) (fun q : Nat => s.heap.size ≤ q)) ([.ref h0, .int (nI i), .int (-4), .int (nI b), .int q] : List Value).toArray s 0 0 (fun q : Nat => s.heap.size ≤ q)) (F0 m 126 ls [.int y11, .int ((hPos ((hQt fst i q) - (hK' (fst (20 + 3 * b))))) + (hPos ((fst ((2 * i) + 1)) - (fst ((20 + (3 * b)) + 2)))))]) := by
            intro y11 H locs hcut hP hS ls hl
            subst hcut
            refine lv_iadd hx hb dX11_harmOf_126 ?_
            refine lv_istore (lv' := [(8, .int (((hPos ((hQt fst i q) - (hK' (fst (20 + 3 * b))))) + (hPos ((fst ((2 * i) + 1)) - (fst ((20 + (3 * b)) + 2))))) + (hTr (fst (20 + 3 * b)) (fst (2 * i + 1))))), (7, .int ((fst ((2 * i) + 1)) - (fst ((20 + (3 * b)) + 2)))), (6, .int ((hQt fst i q) - (hK' (fst (20 + 3 * b))))), (5, .int (fst (20 + 3 * b))), (0, .ref h0), (1, .int (nI i)), (2, .int (-4)), (3, .int (nI b)), (4, .int q)]) hx hb dX11_harmOf_127 hl (by decide) rfl (fun ls hl => ?_)
            refine lv_iload_n hx hb dX11_harmOf_129 rfl (lv_at hl 6 rfl) ?_
            refine lv_bipush (v := (-4)) hx hb dX11_harmOf_130 rfl ?_
            refine lv_icmp_eq (tgt := 219) hx hb dX11_harmOf_132 rfl (fun c13 => ?_) (fun c13 => ?_)
            · skip
              refine lv_iload hx hb dX11_harmOf_219 (lv_at hl 0 rfl) ?_
              refine lv_bipush (v := 20) hx hb dX11_harmOf_221 rfl ?_
              refine lv_icmp_le (tgt := 231) hx hb dX11_harmOf_223 rfl (fun c14 => ?_) (fun c14 => ?_)
              · skip
                refine lv_iload hx hb dX11_harmOf_231 (lv_at hl 0 rfl) ?_
                have hpost : (((hPos ((hQt fst i q) - (hK' (fst (20 + 3 * b))))) + (hPos ((fst ((2 * i) + 1)) - (fst ((20 + (3 * b)) + 2))))) + (hTr (fst (20 + 3 * b)) (fst (2 * i + 1))) : Int32) = rhN fst i b q := by
                  unfold rhN rhS hTop
                  first | exact (if_pos (by first | with_reducible assumption | assumption)).symm | exact (if_neg (by first | with_reducible assumption | assumption)).symm
                refine W.widen (k := 0) (n := 0) (Nat.le_of_ble_eq_true rfl) (Nat.le_of_ble_eq_true rfl) ?_
                exact W.iret (v := ((hPos ((hQt fst i q) - (hK' (fst (20 + 3 * b))))) + (hPos ((fst ((2 * i) + 1)) - (fst ((20 + (3 * b)) + 2))))) + (hTr (fst (20 + 3 * b)) (fst (2 * i + 1)))) hx hb hr (fun t ht hW => ⟨⟨((hPos ((hQt fst i q) - (hK' (fst (20 + 3 * b))))) + (hPos ((fst ((2 * i) + 1)) - (fst ((20 + (3 * b)) + 2))))) + (hTr (fst (20 + 3 * b)) (fst (2 * i + 1))), (), rfl, ⟨hpost, trivial⟩, trivial⟩, hS.F ht⟩) hS.2.2 dX11_harmOf_233
              · skip
                refine lv_bipush (v := 20) hx hb dX11_harmOf_226 rfl ?_
                refine lv_goto (tgt := 233) hx hb dX11_harmOf_228 rfl ?_
                have hpost : (20 : Int32) = rhN fst i b q := by
                  unfold rhN rhS hTop
                  first | exact (if_pos (by first | with_reducible assumption | assumption)).symm | exact (if_neg (by first | with_reducible assumption | assumption)).symm
                refine W.widen (k := 0) (n := 0) (Nat.le_of_ble_eq_true rfl) (Nat.le_of_ble_eq_true rfl) ?_
                exact W.iret (v := 20) hx hb hr (fun t ht hW => ⟨⟨20, (), rfl, ⟨hpost, trivial⟩, trivial⟩, hS.F ht⟩) hS.2.2 dX11_harmOf_233
            · skip
              exact absurd c13 (by decide)
          refine lv_icmp_ne (tgt := 125) hx hb dX11_harmOf_104 rfl (fun c15 => ?_) (fun c15 => ?_)
          · skip
            refine lv_iconst (v := 0) hx hb dX11_harmOf_125 rfl ?_
            exact cut126_12 0 _ _ (by first | exact (if_pos (by first | with_reducible assumption | assumption)).symm | exact (if_neg (by first | with_reducible assumption | assumption)).symm | exact ((if_neg (by first | with_reducible assumption | assumption)).trans (if_pos (by first | with_reducible assumption | assumption))).symm | exact ((if_neg (by first | with_reducible assumption | assumption)).trans (if_neg (by first | with_reducible assumption | assumption))).symm | exact (if_pos ⟨by assumption, by assumption⟩).symm | exact (if_neg (fun h9 => absurd h9.1 (by first | with_reducible assumption | assumption))).symm | exact (if_neg (fun h9 => h9.2 (by first | with_reducible assumption | assumption))).symm) hP hS ls (lv_sub hl [0, 1, 2, 3, 4, 5, 6, 7] rfl)
          · skip
            refine lv_aload_n hx hb dX11_harmOf_107 rfl (lv_at hl 3 rfl) ?_
            refine va_get (D := (dC, dI)) (ci := 11) (v := .ref st) (C := RX11) (T := TX11) (N := 35) hx hb hg inG11 hown hK.1 hP 0 rfl rfl 0 (Nat.le_of_ble_eq_true rfl) (hg _ wt_878) (fun _ h9 => h9) rfl dX11_harmOf_108 ?_
            refine lv_iconst (v := 2) hx hb dX11_harmOf_111 rfl ?_
            refine lv_iload_n hx hb dX11_harmOf_112 rfl (lv_at hl 4 rfl) ?_
            refine lv_imul hx hb dX11_harmOf_113 ?_
            refine lv_cg (y := nI (2 * i)) (by rw [show (2 : Int32) = nI 2 from rfl]; exact pk_mul _ _) ?_
            refine lv_iconst (v := 1) hx hb dX11_harmOf_114 rfl ?_
            refine lv_iadd hx hb dX11_harmOf_115 ?_
            refine lv_cg (y := nI ((2 * i) + 1)) (by rw [show (1 : Int32) = nI 1 from rfl]; exact nI_add _ _) ?_
            refine va_iald hx hb hK.1 hP 1 0 rfl rfl (vp_in_nI (by first | omega | (have t_c15 := eqI c15; have : (2 : Int32).toInt = 2 := qI_2; have tnb_ := nib7 tn676_ tn677_ tn671_ tn672_ tn673_ tn674_ tn675_; omega)) (by decide)) dX11_harmOf_116 ?_
            refine lv_cg (y := fst ((2 * i) + 1)) (by rw [nI_clamp (by omega)]) ?_
            refine lv_iconst (v := 5) hx hb dX11_harmOf_117 rfl ?_
            refine lv_icmp_lt (tgt := 125) hx hb dX11_harmOf_118 rfl (fun c16 => ?_) (fun c16 => ?_)
            · skip
              refine lv_iconst (v := 0) hx hb dX11_harmOf_125 rfl ?_
              exact cut126_12 0 _ _ (by first | exact (if_pos (by first | with_reducible assumption | assumption)).symm | exact (if_neg (by first | with_reducible assumption | assumption)).symm | exact ((if_neg (by first | with_reducible assumption | assumption)).trans (if_pos (by first | with_reducible assumption | assumption))).symm | exact ((if_neg (by first | with_reducible assumption | assumption)).trans (if_neg (by first | with_reducible assumption | assumption))).symm | exact (if_pos ⟨by assumption, by assumption⟩).symm | exact (if_neg (fun h9 => absurd h9.1 (by first | with_reducible assumption | assumption))).symm | exact (if_neg (fun h9 => h9.2 (by first | with_reducible assumption | assumption))).symm) hP hS ls (lv_sub hl [0, 1, 2, 3, 4, 5, 6, 7] rfl)
            · skip
              refine lv_iconst (v := 1) hx hb dX11_harmOf_121 rfl ?_
              refine lv_goto (tgt := 126) hx hb dX11_harmOf_122 rfl ?_
              exact cut126_12 1 _ _ (by first | exact (if_pos (by first | with_reducible assumption | assumption)).symm | exact (if_neg (by first | with_reducible assumption | assumption)).symm | exact ((if_neg (by first | with_reducible assumption | assumption)).trans (if_pos (by first | with_reducible assumption | assumption))).symm | exact ((if_neg (by first | with_reducible assumption | assumption)).trans (if_neg (by first | with_reducible assumption | assumption))).symm | exact (if_pos ⟨by assumption, by assumption⟩).symm | exact (if_neg (fun h9 => absurd h9.1 (by first | with_reducible assumption | assumption))).symm | exact (if_neg (fun h9 => h9.2 (by first | with_reducible assumption | assumption))).symm) hP hS ls (lv_sub hl [0, 1, 2, 3, 4, 5, 6, 7] rfl)
        refine lv_if_le (tgt := 99) hx hb dX11_harmOf_91 rfl (fun c17 => ?_) (fun c17 => ?_)
        · skip
          refine lv_iconst (v := 0) hx hb dX11_harmOf_99 rfl ?_
          exact cut100_10 0 _ _ (by first | exact (if_pos (by first | with_reducible assumption | assumption)).symm | exact (if_neg (by first | with_reducible assumption | assumption)).symm | exact ((if_neg (by first | with_reducible assumption | assumption)).trans (if_pos (by first | with_reducible assumption | assumption))).symm | exact ((if_neg (by first | with_reducible assumption | assumption)).trans (if_neg (by first | with_reducible assumption | assumption))).symm | exact (if_pos ⟨by assumption, by assumption⟩).symm | exact (if_neg (fun h9 => absurd h9.1 (by first | with_reducible assumption | assumption))).symm | exact (if_neg (fun h9 => h9.2 (by first | with_reducible assumption | assumption))).symm) hP hS ls (lv_sub hl [0, 1, 2, 3, 4, 5, 6, 7] rfl)
        · skip
          refine lv_iload hx hb dX11_harmOf_94 (lv_at hl 0 rfl) ?_
          refine lv_goto (tgt := 100) hx hb dX11_harmOf_96 rfl ?_
          exact cut100_10 ((fst ((2 * i) + 1)) - (fst ((20 + (3 * b)) + 2))) _ _ (by first | exact (if_pos (by first | with_reducible assumption | assumption)).symm | exact (if_neg (by first | with_reducible assumption | assumption)).symm | exact ((if_neg (by first | with_reducible assumption | assumption)).trans (if_pos (by first | with_reducible assumption | assumption))).symm | exact ((if_neg (by first | with_reducible assumption | assumption)).trans (if_neg (by first | with_reducible assumption | assumption))).symm | exact (if_pos ⟨by assumption, by assumption⟩).symm | exact (if_neg (fun h9 => absurd h9.1 (by first | with_reducible assumption | assumption))).symm | exact (if_neg (fun h9 => h9.2 (by first | with_reducible assumption | assumption))).symm) hP hS ls (lv_sub hl [0, 1, 2, 3, 4, 5, 6, 7] rfl)
      refine lv_if_le (tgt := 88) hx hb dX11_harmOf_80 rfl (fun c18 => ?_) (fun c18 => ?_)
      · skip
        refine lv_iconst (v := 0) hx hb dX11_harmOf_88 rfl ?_
        exact cut89_8 0 _ _ (by first | exact (if_pos (by first | with_reducible assumption | assumption)).symm | exact (if_neg (by first | with_reducible assumption | assumption)).symm | exact ((if_neg (by first | with_reducible assumption | assumption)).trans (if_pos (by first | with_reducible assumption | assumption))).symm | exact ((if_neg (by first | with_reducible assumption | assumption)).trans (if_neg (by first | with_reducible assumption | assumption))).symm | exact (if_pos ⟨by assumption, by assumption⟩).symm | exact (if_neg (fun h9 => absurd h9.1 (by first | with_reducible assumption | assumption))).symm | exact (if_neg (fun h9 => h9.2 (by first | with_reducible assumption | assumption))).symm) hP hS ls (lv_sub hl [0, 1, 2, 3, 4, 5, 6, 7] rfl)
      · skip
        refine lv_iload hx hb dX11_harmOf_83 (lv_at hl 1 rfl) ?_
        refine lv_goto (tgt := 89) hx hb dX11_harmOf_85 rfl ?_
        exact cut89_8 ((hQt fst i q) - (hK' (fst (20 + 3 * b)))) _ _ (by first | exact (if_pos (by first | with_reducible assumption | assumption)).symm | exact (if_neg (by first | with_reducible assumption | assumption)).symm | exact ((if_neg (by first | with_reducible assumption | assumption)).trans (if_pos (by first | with_reducible assumption | assumption))).symm | exact ((if_neg (by first | with_reducible assumption | assumption)).trans (if_neg (by first | with_reducible assumption | assumption))).symm | exact (if_pos ⟨by assumption, by assumption⟩).symm | exact (if_neg (fun h9 => absurd h9.1 (by first | with_reducible assumption | assumption))).symm | exact (if_neg (fun h9 => h9.2 (by first | with_reducible assumption | assumption))).symm) hP hS ls (lv_sub hl [0, 1, 2, 3, 4, 5, 6, 7] rfl)
    refine lv_icmp_ne (tgt := 38) hx hb dX11_harmOf_31 rfl (fun c19 => ?_) (fun c19 => ?_)
    · skip
      refine lv_iload hx hb dX11_harmOf_38 (lv_at hl 1 rfl) ?_
      refine lv_iconst (v := 3) hx hb dX11_harmOf_40 rfl ?_
      refine lv_icmp_ne (tgt := 48) hx hb dX11_harmOf_41 rfl (fun c20 => ?_) (fun c20 => ?_)
      · skip
        refine lv_iconst (v := 0) hx hb dX11_harmOf_48 rfl ?_
        exact cut49_6 0 _ _ (by first | exact (if_pos (by first | with_reducible assumption | assumption)).symm | exact (if_neg (by first | with_reducible assumption | assumption)).symm | exact ((if_neg (by first | with_reducible assumption | assumption)).trans (if_pos (by first | with_reducible assumption | assumption))).symm | exact ((if_neg (by first | with_reducible assumption | assumption)).trans (if_neg (by first | with_reducible assumption | assumption))).symm | exact (if_pos ⟨by assumption, by assumption⟩).symm | exact (if_neg (fun h9 => absurd h9.1 (by first | with_reducible assumption | assumption))).symm | exact (if_neg (fun h9 => h9.2 (by first | with_reducible assumption | assumption))).symm) hP hS ls (lv_sub hl [0, 1, 2, 3, 4, 5, 6] rfl)
      · skip
        refine lv_iconst (v := 1) hx hb dX11_harmOf_44 rfl ?_
        refine lv_goto (tgt := 49) hx hb dX11_harmOf_45 rfl ?_
        exact cut49_6 1 _ _ (by first | exact (if_pos (by first | with_reducible assumption | assumption)).symm | exact (if_neg (by first | with_reducible assumption | assumption)).symm | exact ((if_neg (by first | with_reducible assumption | assumption)).trans (if_pos (by first | with_reducible assumption | assumption))).symm | exact ((if_neg (by first | with_reducible assumption | assumption)).trans (if_neg (by first | with_reducible assumption | assumption))).symm | exact (if_pos ⟨by assumption, by assumption⟩).symm | exact (if_neg (fun h9 => absurd h9.1 (by first | with_reducible assumption | assumption))).symm | exact (if_neg (fun h9 => h9.2 (by first | with_reducible assumption | assumption))).symm) hP hS ls (lv_sub hl [0, 1, 2, 3, 4, 5, 6] rfl)
    · skip
      refine lv_iconst (v := 2) hx hb dX11_harmOf_34 rfl ?_
      refine lv_goto (tgt := 49) hx hb dX11_harmOf_35 rfl ?_
      exact cut49_6 2 _ _ (by first | exact (if_pos (by first | with_reducible assumption | assumption)).symm | exact (if_neg (by first | with_reducible assumption | assumption)).symm | exact ((if_neg (by first | with_reducible assumption | assumption)).trans (if_pos (by first | with_reducible assumption | assumption))).symm | exact ((if_neg (by first | with_reducible assumption | assumption)).trans (if_neg (by first | with_reducible assumption | assumption))).symm | exact (if_pos ⟨by assumption, by assumption⟩).symm | exact (if_neg (fun h9 => absurd h9.1 (by first | with_reducible assumption | assumption))).symm | exact (if_neg (fun h9 => h9.2 (by first | with_reducible assumption | assumption))).symm) hP hS ls (lv_sub hl [0, 1, 2, 3, 4, 5, 6] rfl)
  refine lv_if_eq (tgt := 16) hx hb dX11_harmOf_9 rfl (fun c21 => ?_) (fun c21 => ?_)
  · skip
    refine lv_aload_n hx hb dX11_harmOf_16 rfl (lv_at hl 1 rfl) ?_
    refine va_get (D := (dC, dI)) (ci := 11) (v := .ref st) (C := RX11) (T := TX11) (N := 35) hx hb hg inG11 hown hK.1 hP 0 rfl rfl 0 (Nat.le_of_ble_eq_true rfl) (hg _ wt_878) (fun _ h9 => h9) rfl dX11_harmOf_17 ?_
    refine lv_iconst (v := 2) hx hb dX11_harmOf_20 rfl ?_
    refine lv_iload_n hx hb dX11_harmOf_21 rfl (lv_at hl 2 rfl) ?_
    refine lv_imul hx hb dX11_harmOf_22 ?_
    refine lv_cg (y := nI (2 * i)) (by rw [show (2 : Int32) = nI 2 from rfl]; exact pk_mul _ _) ?_
    refine va_iald hx hb hK.1 hP 1 0 rfl rfl (vp_in_nI (by first | omega | (have t_c21 := eqI c21; have : (0 : Int32).toInt = 0 := qI_0; have tnb_ := nib7 tn676_ tn677_ tn671_ tn672_ tn673_ tn674_ tn675_; omega)) (by decide)) dX11_harmOf_23 ?_
    refine lv_cg (y := fst (2 * i)) (by rw [nI_clamp (by omega)]) ?_
    exact cut24_4 (fst (2 * i)) _ _ (by first | exact (if_pos (by first | with_reducible assumption | assumption)).symm | exact (if_neg (by first | with_reducible assumption | assumption)).symm | exact ((if_neg (by first | with_reducible assumption | assumption)).trans (if_pos (by first | with_reducible assumption | assumption))).symm | exact ((if_neg (by first | with_reducible assumption | assumption)).trans (if_neg (by first | with_reducible assumption | assumption))).symm | exact (if_pos ⟨by assumption, by assumption⟩).symm | exact (if_neg (fun h9 => absurd h9.1 (by first | with_reducible assumption | assumption))).symm | exact (if_neg (fun h9 => h9.2 (by first | with_reducible assumption | assumption))).symm) hP hS ls (lv_sub hl [0, 1, 2, 3, 4, 5] rfl)
  · skip
    refine lv_iconst (v := 0) hx hb dX11_harmOf_12 rfl ?_
    refine lv_goto (tgt := 24) hx hb dX11_harmOf_13 rfl ?_
    exact cut24_4 0 _ _ (by first | exact (if_pos (by first | with_reducible assumption | assumption)).symm | exact (if_neg (by first | with_reducible assumption | assumption)).symm | exact ((if_neg (by first | with_reducible assumption | assumption)).trans (if_pos (by first | with_reducible assumption | assumption))).symm | exact ((if_neg (by first | with_reducible assumption | assumption)).trans (if_neg (by first | with_reducible assumption | assumption))).symm | exact (if_pos ⟨by assumption, by assumption⟩).symm | exact (if_neg (fun h9 => absurd h9.1 (by first | with_reducible assumption | assumption))).symm | exact (if_neg (fun h9 => h9.2 (by first | with_reducible assumption | assumption))).symm) hP hS ls (lv_sub hl [0, 1, 2, 3, 4, 5] rfl)

set_option maxHeartbeats 1000000 in
set_option maxRecDepth 100000 in
theorem c_X11_harmOfB (l : Launch) (dC : Nat → ClassId) (dI : Nat → Nat → Nat) (G : Nat → ClassId) (sz : Nat) (h0 i a b st N B rp tp T cu lt od th be ln S ma M ah bh ik la lg ce : Nat) (q vrs vrb vhs vca vxs vxb vfa vbr vba vsp vhe vtk vva vto : Int32) (fst : Nat → Int32) (hN : N ≤ 10) (hB : B ≤ 6) (hT : T ≤ 320) (hS0 : S ≤ 8) (hM : M ≤ 6) (hi : i < 10) (hkb : b < 6) (hka : a < 6) : Met l yX11_harmOf (Cond.code yX11_harmOf cX11_harmOf 10 (some .int) :: GT) ({ frames := 1, cells := 0, slots := 0, locals := 21 } : Room) (PcR [.ref h0, .int (nI i), .int (nI a), .int (nI b), .int q] dC dI G [(h0, .inr (11, [.ref st, .int (nI N), .int (nI B), .ref rp, .int vrs, .int vrb, .int vhs, .int vca, .int vxs, .int vxb, .ref tp, .int (nI T), .int vfa, .int vbr, .int vba, .int vsp, .int vhe, .int vtk, .int vva, .ref cu, .ref lt, .ref od, .ref th, .ref be, .ref ln, .int (nI S), .ref ma, .int (nI M), .ref ah, .ref bh, .ref ik, .ref la, .ref lg, .ref ce, .int vto])), (st, .inl (G 0, 196, .inl fst))] sz) (va_Qi (fun (r : Int32) (u : Unit) => match u with | _ => (r = rhB fst i a b q) ∧ True) (fun _ _ => True) (fun q : Nat => sz ≤ q)) 0 0 (fun q : Nat => sz ≤ q) := by
  have hB_ := hB
  have hM_ := hM
  have hT_ := hT
  have tn678_ : nIT N := fun _ => nI_toInt (by omega)
  have tn679_ : nIT B := fun _ => nI_toInt (by omega)
  have tn680_ : nIT T := fun _ => nI_toInt (by omega)
  have tn681_ : nIT S := fun _ => nI_toInt (by omega)
  have tn682_ : nIT M := fun _ => nI_toInt (by omega)
  refine Met.ofW (cc := cX11_harmOf) (maxL := 10) (ret := (some .int)) (by decide) rfl ?_
  intro p e s m args below meth c s₁ Bd hml hv
  obtain ⟨rfl, hsz, hP, hK⟩ := hv
  have hx := Bd.exec
  have hb := Bd.bytes
  have hr := Bd.returns
  have hg : ∀ w ∈ GT, w.before ([.ref h0, .int (nI i), .int (nI a), .int (nI b), .int q] : List Value).toArray s = true := fun w h => atoms_spec (ws := Cond.code yX11_harmOf cX11_harmOf 10 (some .int) :: GT) Bd.pre w (List.mem_cons_of_mem _ h)
  have hown : s.vm.findClass RX11 = some m.cls := findClass_of_methodNamed Bd.named
  have hlocks := Bd.notSynchronized
  subst hsz
  have hA : ∀ q : Nat, s.heap.size ≤ q → (fun q : Nat => s.heap.size ≤ q) q := fun _ h => h
  have hS : va_S (fun q : Nat => s.heap.size ≤ q) s.heap s.heap [] := va_S.rf
  have hl := lv_entry ([.ref h0, .int (nI i), .int (nI a), .int (nI b), .int q]) (n := 10) (Nat.le_of_ble_eq_true rfl)
  rw [lg_entry_eq]
  generalize (lg_sl ([.ref h0, .int (nI i), .int (nI a), .int (nI b), .int q]) ++ List.replicate (10 - (lg_sl ([.ref h0, .int (nI i), .int (nI a), .int (nI b), .int q])).length) Slot.unset).toArray = ls at hl ⊢
  have hl : lv_has ls 10 [(0, .ref h0), (1, .int (nI i)), (2, .int (nI a)), (3, .int (nI b)), (4, .int q)] := hl
  refine lv_aload_n hx hb dX11_harmOf_0 rfl (lv_at hl 0 rfl) ?_
  refine lv_iload_n hx hb dX11_harmOf_1 rfl (lv_at hl 3 rfl) ?_
  have hPc := hP.sub (ws' := [(h0, .inr (11, [.ref st, .int (nI N), .int (nI B), .ref rp, .int vrs, .int vrb, .int vhs, .int vca, .int vxs, .int vxb, .ref tp, .int (nI T), .int vfa, .int vbr, .int vba, .int vsp, .int vhe, .int vtk, .int vva, .ref cu, .ref lt, .ref od, .ref th, .ref be, .ref ln, .int (nI S), .ref ma, .int (nI M), .ref ah, .ref bh, .ref ik, .ref la, .ref lg, .ref ce, .int vto])), (st, .inl (G 0, 196, .inl fst))]) [0, 1] rfl
  have tn683_ : nIT i := fun _ => nI_toInt (by omega)
  have tn684_ : nIT a := fun _ => nI_toInt (by omega)
  have tn685_ : nIT b := fun _ => nI_toInt (by omega)
  refine va_calli (va_runV (As := [.int (nI b)]) (rest := []) ⟨hx, hb, hml, hown, hg⟩ (c_X11_kindOf l dC dI G _ h0 b st N B rp tp T cu lt od th be ln S ma M ah bh ik la lg ce vrs vrb vhs vca vxs vxb vfa vbr vba vsp vhe vtk vva vto fst hN hB_ hT_ hS0 hM_ hkb) (kwV hg mfX11_kindOf wt_1110 ⟨Nat.le_of_ble_eq_true rfl, Nat.le_of_ble_eq_true rfl⟩) (preVR hK hPc (ci := 11) (r := (RX11, TX11, 35)) rfl rfl) rfl rfl hl.1 rfl (lv_room (Nat.le_of_ble_eq_true rfl)) dX11_harmOf_2 ⟨Nat.le_of_ble_eq_true rfl, Nat.le_of_ble_eq_true rfl⟩) hS (fun q h1 h2 => absurd h2 (Nat.not_le.mpr h1)) (fun q h => hA q (Nat.le_trans hS.1 h)) (fun r1 ur1 t H1 locs ht hvm w2 hB hz1 hk1 hS => ?_)
  have hP := keepR hP hk1
  obtain ⟨w2, w2x⟩ := w2
  subst w2
  refine lv_istore (lv' := [(5, .int (fst (20 + 3 * b))), (0, .ref h0), (1, .int (nI i)), (2, .int (nI a)), (3, .int (nI b)), (4, .int q)]) hx hb dX11_harmOf_5 hl (by decide) rfl (fun ls hl => ?_)
  refine lv_iload hx hb dX11_harmOf_7 (lv_at hl 5 rfl) ?_
  have cut24_4 : ∀ (y3 : Int32) (H : Heap) (locs : List Loc), y3 = hQt fst i q → va_P (dC, dI) vwCl [(h0, .inr (11, [.ref st, .int (nI N), .int (nI B), .ref rp, .int vrs, .int vrb, .int vhs, .int vca, .int vxs, .int vxb, .ref tp, .int (nI T), .int vfa, .int vbr, .int vba, .int vsp, .int vhe, .int vtk, .int vva, .ref cu, .ref lt, .ref od, .ref th, .ref be, .ref ln, .int (nI S), .ref ma, .int (nI M), .ref ah, .ref bh, .ref ik, .ref la, .ref lg, .ref ce, .int vto])), (st, .inl (G 0, 196, .inl fst))] H → va_S (fun q : Nat => s.heap.size ≤ q) s.heap H locs → ∀ (ls : Array Slot), lv_has ls 10 [(5, .int (fst (20 + 3 * b))), (0, .ref h0), (1, .int (nI i)), (2, .int (nI a)), (3, .int (nI b)), (4, .int q)] → W p l e (headSpec (Cond.code yX11_harmOf cX11_harmOf 10 (some .int) :: GT) ({ frames := 1, cells := 0, slots := 0, locals := 21 } : Room)).room s m ([.ref h0, .int (nI i), .int (nI a), .int (nI b), .int q] : List Value).toArray below meth c H locs 0 0 (MQ below (va_Qi (fun (r : Int32) (u : Unit) => match u with | _ => (r = rhB fst i a b q) ∧ True) (fun _ _ => True) (fun q : Nat => s.heap.size ≤ q)) ([.ref h0, .int (nI i), .int (nI a), .int (nI b), .int q] : List Value).toArray s 0 0 (fun q : Nat => s.heap.size ≤ q)) (F0 m 24 ls [.int y3]) := by
    intro y3 H locs hcut hP hS ls hl
    subst hcut
    refine lv_istore (lv' := [(6, .int (hQt fst i q)), (5, .int (fst (20 + 3 * b))), (0, .ref h0), (1, .int (nI i)), (2, .int (nI a)), (3, .int (nI b)), (4, .int q)]) hx hb dX11_harmOf_24 hl (by decide) rfl (fun ls hl => ?_)
    refine lv_iload hx hb dX11_harmOf_26 (lv_at hl 0 rfl) ?_
    refine lv_iload hx hb dX11_harmOf_28 (lv_at hl 1 rfl) ?_
    refine lv_iconst (v := 1) hx hb dX11_harmOf_30 rfl ?_
    have cut49_6 : ∀ (y5 : Int32) (H : Heap) (locs : List Loc), y5 = hK' (fst (20 + 3 * b)) → va_P (dC, dI) vwCl [(h0, .inr (11, [.ref st, .int (nI N), .int (nI B), .ref rp, .int vrs, .int vrb, .int vhs, .int vca, .int vxs, .int vxb, .ref tp, .int (nI T), .int vfa, .int vbr, .int vba, .int vsp, .int vhe, .int vtk, .int vva, .ref cu, .ref lt, .ref od, .ref th, .ref be, .ref ln, .int (nI S), .ref ma, .int (nI M), .ref ah, .ref bh, .ref ik, .ref la, .ref lg, .ref ce, .int vto])), (st, .inl (G 0, 196, .inl fst))] H → va_S (fun q : Nat => s.heap.size ≤ q) s.heap H locs → ∀ (ls : Array Slot), lv_has ls 10 [(6, .int (hQt fst i q)), (5, .int (fst (20 + 3 * b))), (0, .ref h0), (1, .int (nI i)), (2, .int (nI a)), (3, .int (nI b)), (4, .int q)] → W p l e (headSpec (Cond.code yX11_harmOf cX11_harmOf 10 (some .int) :: GT) ({ frames := 1, cells := 0, slots := 0, locals := 21 } : Room)).room s m ([.ref h0, .int (nI i), .int (nI a), .int (nI b), .int q] : List Value).toArray below meth c H locs 0 0 (MQ below (va_Qi (fun (r : Int32) (u : Unit) => match u with | _ => (r = rhB fst i a b q) ∧ True) (fun _ _ => True) (fun q : Nat => s.heap.size ≤ q)) ([.ref h0, .int (nI i), .int (nI a), .int (nI b), .int q] : List Value).toArray s 0 0 (fun q : Nat => s.heap.size ≤ q)) (F0 m 49 ls [.int y5, .int (hQt fst i q)]) := by
      intro y5 H locs hcut hP hS ls hl
      subst hcut
      refine lv_isub hx hb dX11_harmOf_49 ?_
      refine lv_istore (lv' := [(6, .int ((hQt fst i q) - (hK' (fst (20 + 3 * b))))), (5, .int (fst (20 + 3 * b))), (0, .ref h0), (1, .int (nI i)), (2, .int (nI a)), (3, .int (nI b)), (4, .int q)]) hx hb dX11_harmOf_50 hl (by decide) rfl (fun ls hl => ?_)
      refine lv_aload_n hx hb dX11_harmOf_52 rfl (lv_at hl 2 rfl) ?_
      refine va_get (D := (dC, dI)) (ci := 11) (v := .ref st) (C := RX11) (T := TX11) (N := 35) hx hb hg inG11 hown hK.1 hP 0 rfl rfl 0 (Nat.le_of_ble_eq_true rfl) (hg _ wt_878) (fun _ h9 => h9) rfl dX11_harmOf_53 ?_
      refine lv_iconst (v := 2) hx hb dX11_harmOf_56 rfl ?_
      refine lv_iload_n hx hb dX11_harmOf_57 rfl (lv_at hl 3 rfl) ?_
      refine lv_imul hx hb dX11_harmOf_58 ?_
      refine lv_cg (y := nI (2 * i)) (by rw [show (2 : Int32) = nI 2 from rfl]; exact pk_mul _ _) ?_
      refine lv_iconst (v := 1) hx hb dX11_harmOf_59 rfl ?_
      refine lv_iadd hx hb dX11_harmOf_60 ?_
      refine lv_cg (y := nI ((2 * i) + 1)) (by rw [show (1 : Int32) = nI 1 from rfl]; exact nI_add _ _) ?_
      refine va_iald hx hb hK.1 hP 1 0 rfl rfl (vp_in_nI (by first | omega | (have tnb_ := nib8 tn683_ tn684_ tn685_ tn678_ tn679_ tn680_ tn681_ tn682_; omega)) (by decide)) dX11_harmOf_61 ?_
      refine lv_cg (y := fst ((2 * i) + 1)) (by rw [nI_clamp (by omega)]) ?_
      refine lv_aload_n hx hb dX11_harmOf_62 rfl (lv_at hl 2 rfl) ?_
      refine va_get (D := (dC, dI)) (ci := 11) (v := .ref st) (C := RX11) (T := TX11) (N := 35) hx hb hg inG11 hown hK.1 hP 0 rfl rfl 0 (Nat.le_of_ble_eq_true rfl) (hg _ wt_878) (fun _ h9 => h9) rfl dX11_harmOf_63 ?_
      refine lv_bipush (v := 20) hx hb dX11_harmOf_66 rfl ?_
      refine lv_iconst (v := 3) hx hb dX11_harmOf_68 rfl ?_
      refine lv_iload_n hx hb dX11_harmOf_69 rfl (lv_at hl 5 rfl) ?_
      refine lv_imul hx hb dX11_harmOf_70 ?_
      refine lv_cg (y := nI (3 * b)) (by rw [show (3 : Int32) = nI 3 from rfl]; exact pk_mul _ _) ?_
      refine lv_iadd hx hb dX11_harmOf_71 ?_
      refine lv_cg (y := nI (20 + (3 * b))) (by rw [show (20 : Int32) = nI 20 from rfl]; exact nI_add _ _) ?_
      refine lv_iconst (v := 2) hx hb dX11_harmOf_72 rfl ?_
      refine lv_iadd hx hb dX11_harmOf_73 ?_
      refine lv_cg (y := nI ((20 + (3 * b)) + 2)) (by rw [show (2 : Int32) = nI 2 from rfl]; exact nI_add _ _) ?_
      refine va_iald hx hb hK.1 hP 1 0 rfl rfl (vp_in_nI (by first | omega | (have tnb_ := nib8 tn683_ tn684_ tn685_ tn678_ tn679_ tn680_ tn681_ tn682_; omega)) (by decide)) dX11_harmOf_74 ?_
      refine lv_cg (y := fst ((20 + (3 * b)) + 2)) (by rw [nI_clamp (by omega)]) ?_
      refine lv_isub hx hb dX11_harmOf_75 ?_
      refine lv_istore (lv' := [(7, .int ((fst ((2 * i) + 1)) - (fst ((20 + (3 * b)) + 2)))), (6, .int ((hQt fst i q) - (hK' (fst (20 + 3 * b))))), (5, .int (fst (20 + 3 * b))), (0, .ref h0), (1, .int (nI i)), (2, .int (nI a)), (3, .int (nI b)), (4, .int q)]) hx hb dX11_harmOf_76 hl (by decide) rfl (fun ls hl => ?_)
      refine lv_iload hx hb dX11_harmOf_78 (lv_at hl 1 rfl) ?_
      have cut89_8 : ∀ (y7 : Int32) (H : Heap) (locs : List Loc), y7 = hPos ((hQt fst i q) - (hK' (fst (20 + 3 * b)))) → va_P (dC, dI) vwCl [(h0, .inr (11, [.ref st, .int (nI N), .int (nI B), .ref rp, .int vrs, .int vrb, .int vhs, .int vca, .int vxs, .int vxb, .ref tp, .int (nI T), .int vfa, .int vbr, .int vba, .int vsp, .int vhe, .int vtk, .int vva, .ref cu, .ref lt, .ref od, .ref th, .ref be, .ref ln, .int (nI S), .ref ma, .int (nI M), .ref ah, .ref bh, .ref ik, .ref la, .ref lg, .ref ce, .int vto])), (st, .inl (G 0, 196, .inl fst))] H → va_S (fun q : Nat => s.heap.size ≤ q) s.heap H locs → ∀ (ls : Array Slot), lv_has ls 10 [(7, .int ((fst ((2 * i) + 1)) - (fst ((20 + (3 * b)) + 2)))), (6, .int ((hQt fst i q) - (hK' (fst (20 + 3 * b))))), (5, .int (fst (20 + 3 * b))), (0, .ref h0), (1, .int (nI i)), (2, .int (nI a)), (3, .int (nI b)), (4, .int q)] → W p l e (headSpec (Cond.code yX11_harmOf cX11_harmOf 10 (some .int) :: GT) ({ frames := 1, cells := 0, slots := 0, locals := 21 } : Room)).room s m ([.ref h0, .int (nI i), .int (nI a), .int (nI b), .int q] : List Value).toArray below meth c H locs 0 0 (MQ below (va_Qi (fun (r : Int32) (u : Unit) => match u with | _ => (r = rhB fst i a b q) ∧ True) (fun _ _ => True) (fun q : Nat => s.heap.size ≤ q)) ([.ref h0, .int (nI i), .int (nI a), .int (nI b), .int q] : List Value).toArray s 0 0 (fun q : Nat => s.heap.size ≤ q)) (F0 m 89 ls [.int y7]) := by
        intro y7 H locs hcut hP hS ls hl
        subst hcut
        refine lv_iload hx hb dX11_harmOf_89 (lv_at hl 0 rfl) ?_
        have cut100_10 : ∀ (y9 : Int32) (H : Heap) (locs : List Loc), y9 = hPos ((fst ((2 * i) + 1)) - (fst ((20 + (3 * b)) + 2))) → va_P (dC, dI) vwCl [(h0, .inr (11, [.ref st, .int (nI N), .int (nI B), .ref rp, .int vrs, .int vrb, .int vhs, .int vca, .int vxs, .int vxb, .ref tp, .int (nI T), .int vfa, .int vbr, .int vba, .int vsp, .int vhe, .int vtk, .int vva, .ref cu, .ref lt, .ref od, .ref th, .ref be, .ref ln, .int (nI S), .ref ma, .int (nI M), .ref ah, .ref bh, .ref ik, .ref la, .ref lg, .ref ce, .int vto])), (st, .inl (G 0, 196, .inl fst))] H → va_S (fun q : Nat => s.heap.size ≤ q) s.heap H locs → ∀ (ls : Array Slot), lv_has ls 10 [(7, .int ((fst ((2 * i) + 1)) - (fst ((20 + (3 * b)) + 2)))), (6, .int ((hQt fst i q) - (hK' (fst (20 + 3 * b))))), (5, .int (fst (20 + 3 * b))), (0, .ref h0), (1, .int (nI i)), (2, .int (nI a)), (3, .int (nI b)), (4, .int q)] → W p l e (headSpec (Cond.code yX11_harmOf cX11_harmOf 10 (some .int) :: GT) ({ frames := 1, cells := 0, slots := 0, locals := 21 } : Room)).room s m ([.ref h0, .int (nI i), .int (nI a), .int (nI b), .int q] : List Value).toArray below meth c H locs 0 0 (MQ below (va_Qi (fun (r : Int32) (u : Unit) => match u with | _ => (r = rhB fst i a b q) ∧ True) (fun _ _ => True) (fun q : Nat => s.heap.size ≤ q)) ([.ref h0, .int (nI i), .int (nI a), .int (nI b), .int q] : List Value).toArray s 0 0 (fun q : Nat => s.heap.size ≤ q)) (F0 m 100 ls [.int y9, .int (hPos ((hQt fst i q) - (hK' (fst (20 + 3 * b)))))]) := by
          intro y9 H locs hcut hP hS ls hl
          subst hcut
          refine lv_iadd hx hb dX11_harmOf_100 ?_
          refine lv_iload hx hb dX11_harmOf_101 (lv_at hl 2 rfl) ?_
          refine lv_iconst (v := 2) hx hb dX11_harmOf_103 rfl ?_
          have cut126_12 : ∀ (y11 : Int32) (H : Heap) (locs : List Loc), y11 = hTr (fst (20 + 3 * b)) (fst (2 * i + 1)) → va_P (dC, dI) vwCl [(h0, .inr (11, [.ref st, .int (nI N), .int (nI B), .ref rp, .int vrs, .int vrb, .int vhs, .int vca, .int vxs, .int vxb, .ref tp, .int (nI T), .int vfa, .int vbr, .int vba, .int vsp, .int vhe, .int vtk, .int vva, .ref cu, .ref lt, .ref od, .ref th, .ref be, .ref ln, .int (nI S), .ref ma, .int (nI M), .ref ah, .ref bh, .ref ik, .ref la, .ref lg, .ref ce, .int vto])), (st, .inl (G 0, 196, .inl fst))] H → va_S (fun q : Nat => s.heap.size ≤ q) s.heap H locs → ∀ (ls : Array Slot), lv_has ls 10 [(7, .int ((fst ((2 * i) + 1)) - (fst ((20 + (3 * b)) + 2)))), (6, .int ((hQt fst i q) - (hK' (fst (20 + 3 * b))))), (5, .int (fst (20 + 3 * b))), (0, .ref h0), (1, .int (nI i)), (2, .int (nI a)), (3, .int (nI b)), (4, .int q)] → W p l e (headSpec (Cond.code yX11_harmOf cX11_harmOf 10 (some .int) :: GT) ({ frames := 1, cells := 0, slots := 0, locals := 21 } : Room)).room s m ([.ref h0, .int (nI i), .int (nI a), .int (nI b), .int q] : List Value).toArray below meth c H locs 0 0 (MQ below (va_Qi (fun (r : Int32) (u : Unit) => match u with | _ => (r = rhB fst i a b q) ∧ True) (fun _ _ => True) (fun q : Nat => s.heap.size ≤ q)) ([.ref h0, .int (nI i), .int (nI a), .int (nI b), .int q] : List Value).toArray s 0 0 (fun q : Nat => s.heap.size ≤ q)) (F0 m 126 ls [.int y11, .int ((hPos ((hQt fst i q) - (hK' (fst (20 + 3 * b))))) + (hPos ((fst ((2 * i) + 1)) - (fst ((20 + (3 * b)) + 2)))))]) := by
            intro y11 H locs hcut hP hS ls hl
            subst hcut
            refine lv_iadd hx hb dX11_harmOf_126 ?_
            refine lv_istore (lv' := [(8, .int (((hPos ((hQt fst i q) - (hK' (fst (20 + 3 * b))))) + (hPos ((fst ((2 * i) + 1)) - (fst ((20 + (3 * b)) + 2))))) + (hTr (fst (20 + 3 * b)) (fst (2 * i + 1))))), (7, .int ((fst ((2 * i) + 1)) - (fst ((20 + (3 * b)) + 2)))), (6, .int ((hQt fst i q) - (hK' (fst (20 + 3 * b))))), (5, .int (fst (20 + 3 * b))), (0, .ref h0), (1, .int (nI i)), (2, .int (nI a)), (3, .int (nI b)), (4, .int q)]) hx hb dX11_harmOf_127 hl (by decide) rfl (fun ls hl => ?_)
            refine lv_iload_n hx hb dX11_harmOf_129 rfl (lv_at hl 6 rfl) ?_
            refine lv_bipush (v := (-4)) hx hb dX11_harmOf_130 rfl ?_
            have cut219_14 : ∀ (y13 : Int32) (H : Heap) (locs : List Loc), y13 = (if a = b ∨ (fst (20 + 3 * b) = 4 ∧ fst (20 + 3 * a) = 4) then rhS fst i b q else rhS fst i b q + hJo (fst (20 + 3 * b)) (hAbs (fst (20 + 3 * a + 1) - fst (20 + 3 * b + 1)))) → va_P (dC, dI) vwCl [(h0, .inr (11, [.ref st, .int (nI N), .int (nI B), .ref rp, .int vrs, .int vrb, .int vhs, .int vca, .int vxs, .int vxb, .ref tp, .int (nI T), .int vfa, .int vbr, .int vba, .int vsp, .int vhe, .int vtk, .int vva, .ref cu, .ref lt, .ref od, .ref th, .ref be, .ref ln, .int (nI S), .ref ma, .int (nI M), .ref ah, .ref bh, .ref ik, .ref la, .ref lg, .ref ce, .int vto])), (st, .inl (G 0, 196, .inl fst))] H → va_S (fun q : Nat => s.heap.size ≤ q) s.heap H locs → ∀ (ls : Array Slot), lv_has ls 10 [(8, .int y13), (7, .int ((fst ((2 * i) + 1)) - (fst ((20 + (3 * b)) + 2)))), (6, .int ((hQt fst i q) - (hK' (fst (20 + 3 * b))))), (5, .int (fst (20 + 3 * b))), (0, .ref h0), (1, .int (nI i)), (2, .int (nI a)), (3, .int (nI b)), (4, .int q)] → W p l e (headSpec (Cond.code yX11_harmOf cX11_harmOf 10 (some .int) :: GT) ({ frames := 1, cells := 0, slots := 0, locals := 21 } : Room)).room s m ([.ref h0, .int (nI i), .int (nI a), .int (nI b), .int q] : List Value).toArray below meth c H locs 0 0 (MQ below (va_Qi (fun (r : Int32) (u : Unit) => match u with | _ => (r = rhB fst i a b q) ∧ True) (fun _ _ => True) (fun q : Nat => s.heap.size ≤ q)) ([.ref h0, .int (nI i), .int (nI a), .int (nI b), .int q] : List Value).toArray s 0 0 (fun q : Nat => s.heap.size ≤ q)) (F0 m 219 ls []) := by
              intro y13 H locs hcut hP hS ls hl
              subst hcut
              refine lv_iload hx hb dX11_harmOf_219 (lv_at hl 0 rfl) ?_
              refine lv_bipush (v := 20) hx hb dX11_harmOf_221 rfl ?_
              refine lv_icmp_le (tgt := 231) hx hb dX11_harmOf_223 rfl (fun c15 => ?_) (fun c15 => ?_)
              · skip
                refine lv_iload hx hb dX11_harmOf_231 (lv_at hl 0 rfl) ?_
                have hpost : ((if a = b ∨ (fst (20 + 3 * b) = 4 ∧ fst (20 + 3 * a) = 4) then rhS fst i b q else rhS fst i b q + hJo (fst (20 + 3 * b)) (hAbs (fst (20 + 3 * a + 1) - fst (20 + 3 * b + 1)))) : Int32) = rhB fst i a b q := by
                  unfold rhB hTop
                  first | exact (if_pos (by first | with_reducible assumption | assumption)).symm | exact (if_neg (by first | with_reducible assumption | assumption)).symm
                refine W.widen (k := 0) (n := 0) (Nat.le_of_ble_eq_true rfl) (Nat.le_of_ble_eq_true rfl) ?_
                exact W.iret (v := (if a = b ∨ (fst (20 + 3 * b) = 4 ∧ fst (20 + 3 * a) = 4) then rhS fst i b q else rhS fst i b q + hJo (fst (20 + 3 * b)) (hAbs (fst (20 + 3 * a + 1) - fst (20 + 3 * b + 1))))) hx hb hr (fun t ht hW => ⟨⟨(if a = b ∨ (fst (20 + 3 * b) = 4 ∧ fst (20 + 3 * a) = 4) then rhS fst i b q else rhS fst i b q + hJo (fst (20 + 3 * b)) (hAbs (fst (20 + 3 * a + 1) - fst (20 + 3 * b + 1)))), (), rfl, ⟨hpost, trivial⟩, trivial⟩, hS.F ht⟩) hS.2.2 dX11_harmOf_233
              · skip
                refine lv_bipush (v := 20) hx hb dX11_harmOf_226 rfl ?_
                refine lv_goto (tgt := 233) hx hb dX11_harmOf_228 rfl ?_
                have hpost : (20 : Int32) = rhB fst i a b q := by
                  unfold rhB hTop
                  first | exact (if_pos (by first | with_reducible assumption | assumption)).symm | exact (if_neg (by first | with_reducible assumption | assumption)).symm
                refine W.widen (k := 0) (n := 0) (Nat.le_of_ble_eq_true rfl) (Nat.le_of_ble_eq_true rfl) ?_
                exact W.iret (v := 20) hx hb hr (fun t ht hW => ⟨⟨20, (), rfl, ⟨hpost, trivial⟩, trivial⟩, hS.F ht⟩) hS.2.2 dX11_harmOf_233
            refine lv_icmp_eq (tgt := 219) hx hb dX11_harmOf_132 rfl (fun c16 => ?_) (fun c16 => ?_)
            · skip
              have t_c16 := eqI c16
              have : ((-4) : Int32).toInt = -4 := qI_m4
              have t_n0 : (nI i).toInt = (i : Int) := tn683_ ()
              have t_n1 : (nI a).toInt = (a : Int) := tn684_ ()
              have t_n2 : (nI b).toInt = (b : Int) := tn685_ ()
              have t_n3 : (nI N).toInt = (N : Int) := tn678_ ()
              have t_n4 : (nI B).toInt = (B : Int) := tn679_ ()
              have t_n5 : (nI T).toInt = (T : Int) := tn680_ ()
              have t_n6 : (nI S).toInt = (S : Int) := tn681_ ()
              have t_n7 : (nI M).toInt = (M : Int) := tn682_ ()
              exfalso; omega
            · skip
              refine lv_iload_n hx hb dX11_harmOf_135 rfl (lv_at hl 6 rfl) ?_
              refine lv_iload_n hx hb dX11_harmOf_136 rfl (lv_at hl 7 rfl) ?_
              refine lv_icmp_eq (tgt := 219) hx hb dX11_harmOf_137 rfl (fun c17 => ?_) (fun c17 => ?_)
              · skip
                have n18 : a = b := by have t := eqI c17; rw [show (nI (a)).toInt = ((a : Nat) : Int) from tn684_ ()] at t; rw [show (nI (b)).toInt = ((b : Nat) : Int) from tn685_ ()] at t; omega
                exact cut219_14 (((hPos ((hQt fst i q) - (hK' (fst (20 + 3 * b))))) + (hPos ((fst ((2 * i) + 1)) - (fst ((20 + (3 * b)) + 2))))) + (hTr (fst (20 + 3 * b)) (fst (2 * i + 1)))) _ _ (by first | (have h9 : (a = b ∨ (fst (20 + 3 * b) = 4 ∧ fst (20 + 3 * a) = 4)) := Or.inl (by omega); rw [if_pos h9]; rfl) | (have h9 : (a = b ∨ (fst (20 + 3 * b) = 4 ∧ fst (20 + 3 * a) = 4)) := Or.inr ⟨by assumption, by assumption⟩; rw [if_pos h9]; rfl) | (have h9 : ¬ (a = b ∨ (fst (20 + 3 * b) = 4 ∧ fst (20 + 3 * a) = 4)) := (fun h9 => h9.elim (fun h8 => absurd h8 (by omega)) (fun h8 => absurd h8.1 (by first | with_reducible assumption | assumption))); rw [if_neg h9]; first | rfl | (unfold hJo; rw [if_neg (by first | with_reducible assumption | assumption)]; rfl)) | (have h9 : ¬ (a = b ∨ (fst (20 + 3 * b) = 4 ∧ fst (20 + 3 * a) = 4)) := (fun h9 => h9.elim (fun h8 => absurd h8 (by omega)) (fun h8 => absurd h8.2 (by first | with_reducible assumption | assumption))); rw [if_neg h9]; first | rfl | (unfold hJo; rw [if_neg (by first | with_reducible assumption | assumption)]; rfl))) hP hS ls (lv_sub hl [0, 1, 2, 3, 4, 5, 6, 7, 8] rfl)
              · skip
                have n19 : a ≠ b := by have t := neI c17; rw [show (nI (a)).toInt = ((a : Nat) : Int) from tn684_ ()] at t; rw [show (nI (b)).toInt = ((b : Nat) : Int) from tn685_ ()] at t; omega
                refine lv_iload hx hb dX11_harmOf_140 (lv_at hl 3 rfl) ?_
                refine lv_iconst (v := 4) hx hb dX11_harmOf_142 rfl ?_
                refine lv_icmp_ne (tgt := 155) hx hb dX11_harmOf_143 rfl (fun c20 => ?_) (fun c20 => ?_)
                · skip
                  refine lv_aload_n hx hb dX11_harmOf_155 rfl (lv_at hl 4 rfl) ?_
                  refine va_get (D := (dC, dI)) (ci := 11) (v := .ref st) (C := RX11) (T := TX11) (N := 35) hx hb hg inG11 hown hK.1 hP 0 rfl rfl 0 (Nat.le_of_ble_eq_true rfl) (hg _ wt_878) (fun _ h9 => h9) rfl dX11_harmOf_156 ?_
                  refine lv_bipush (v := 20) hx hb dX11_harmOf_159 rfl ?_
                  refine lv_iconst (v := 3) hx hb dX11_harmOf_161 rfl ?_
                  refine lv_iload_n hx hb dX11_harmOf_162 rfl (lv_at hl 6 rfl) ?_
                  refine lv_imul hx hb dX11_harmOf_163 ?_
                  refine lv_cg (y := nI (3 * a)) (by rw [show (3 : Int32) = nI 3 from rfl]; exact pk_mul _ _) ?_
                  refine lv_iadd hx hb dX11_harmOf_164 ?_
                  refine lv_cg (y := nI (20 + (3 * a))) (by rw [show (20 : Int32) = nI 20 from rfl]; exact nI_add _ _) ?_
                  refine lv_iconst (v := 1) hx hb dX11_harmOf_165 rfl ?_
                  refine lv_iadd hx hb dX11_harmOf_166 ?_
                  refine lv_cg (y := nI ((20 + (3 * a)) + 1)) (by rw [show (1 : Int32) = nI 1 from rfl]; exact nI_add _ _) ?_
                  refine va_iald hx hb hK.1 hP 1 0 rfl rfl (vp_in_nI (by first | omega | (have t_c16 := neI c16; have t_n19 := n19; have t_c20 := neI c20; have tqz_ := qz39_; have tnb_ := nib8 tn683_ tn684_ tn685_ tn678_ tn679_ tn680_ tn681_ tn682_; omega)) (by decide)) dX11_harmOf_167 ?_
                  refine lv_cg (y := fst ((20 + (3 * a)) + 1)) (by rw [nI_clamp (by omega)]) ?_
                  refine lv_aload_n hx hb dX11_harmOf_168 rfl (lv_at hl 4 rfl) ?_
                  refine va_get (D := (dC, dI)) (ci := 11) (v := .ref st) (C := RX11) (T := TX11) (N := 35) hx hb hg inG11 hown hK.1 hP 0 rfl rfl 0 (Nat.le_of_ble_eq_true rfl) (hg _ wt_878) (fun _ h9 => h9) rfl dX11_harmOf_169 ?_
                  refine lv_bipush (v := 20) hx hb dX11_harmOf_172 rfl ?_
                  refine lv_iconst (v := 3) hx hb dX11_harmOf_174 rfl ?_
                  refine lv_iload_n hx hb dX11_harmOf_175 rfl (lv_at hl 7 rfl) ?_
                  refine lv_imul hx hb dX11_harmOf_176 ?_
                  refine lv_cg (y := nI (3 * b)) (by rw [show (3 : Int32) = nI 3 from rfl]; exact pk_mul _ _) ?_
                  refine lv_iadd hx hb dX11_harmOf_177 ?_
                  refine lv_cg (y := nI (20 + (3 * b))) (by rw [show (20 : Int32) = nI 20 from rfl]; exact nI_add _ _) ?_
                  refine lv_iconst (v := 1) hx hb dX11_harmOf_178 rfl ?_
                  refine lv_iadd hx hb dX11_harmOf_179 ?_
                  refine lv_cg (y := nI ((20 + (3 * b)) + 1)) (by rw [show (1 : Int32) = nI 1 from rfl]; exact nI_add _ _) ?_
                  refine va_iald hx hb hK.1 hP 1 0 rfl rfl (vp_in_nI (by first | omega | (have t_c16 := neI c16; have t_n19 := n19; have t_c20 := neI c20; have tqz_ := qz39_; have tnb_ := nib8 tn683_ tn684_ tn685_ tn678_ tn679_ tn680_ tn681_ tn682_; omega)) (by decide)) dX11_harmOf_180 ?_
                  refine lv_cg (y := fst ((20 + (3 * b)) + 1)) (by rw [nI_clamp (by omega)]) ?_
                  refine lv_isub hx hb dX11_harmOf_181 ?_
                  refine lv_istore (lv' := [(9, .int ((fst ((20 + (3 * a)) + 1)) - (fst ((20 + (3 * b)) + 1)))), (8, .int (((hPos ((hQt fst i q) - (hK' (fst (20 + 3 * b))))) + (hPos ((fst ((2 * i) + 1)) - (fst ((20 + (3 * b)) + 2))))) + (hTr (fst (20 + 3 * b)) (fst (2 * i + 1))))), (7, .int ((fst ((2 * i) + 1)) - (fst ((20 + (3 * b)) + 2)))), (6, .int ((hQt fst i q) - (hK' (fst (20 + 3 * b))))), (5, .int (fst (20 + 3 * b))), (0, .ref h0), (1, .int (nI i)), (2, .int (nI a)), (3, .int (nI b)), (4, .int q)]) hx hb dX11_harmOf_182 hl (by decide) rfl (fun ls hl => ?_)
                  refine lv_iload hx hb dX11_harmOf_184 (lv_at hl 0 rfl) ?_
                  have cut197_22 : ∀ (y21 : Int32) (H : Heap) (locs : List Loc), y21 = hAbs ((fst ((20 + (3 * a)) + 1)) - (fst ((20 + (3 * b)) + 1))) → va_P (dC, dI) vwCl [(h0, .inr (11, [.ref st, .int (nI N), .int (nI B), .ref rp, .int vrs, .int vrb, .int vhs, .int vca, .int vxs, .int vxb, .ref tp, .int (nI T), .int vfa, .int vbr, .int vba, .int vsp, .int vhe, .int vtk, .int vva, .ref cu, .ref lt, .ref od, .ref th, .ref be, .ref ln, .int (nI S), .ref ma, .int (nI M), .ref ah, .ref bh, .ref ik, .ref la, .ref lg, .ref ce, .int vto])), (st, .inl (G 0, 196, .inl fst))] H → va_S (fun q : Nat => s.heap.size ≤ q) s.heap H locs → ∀ (ls : Array Slot), lv_has ls 10 [(9, .int ((fst ((20 + (3 * a)) + 1)) - (fst ((20 + (3 * b)) + 1)))), (8, .int (((hPos ((hQt fst i q) - (hK' (fst (20 + 3 * b))))) + (hPos ((fst ((2 * i) + 1)) - (fst ((20 + (3 * b)) + 2))))) + (hTr (fst (20 + 3 * b)) (fst (2 * i + 1))))), (7, .int ((fst ((2 * i) + 1)) - (fst ((20 + (3 * b)) + 2)))), (6, .int ((hQt fst i q) - (hK' (fst (20 + 3 * b))))), (5, .int (fst (20 + 3 * b))), (0, .ref h0), (1, .int (nI i)), (2, .int (nI a)), (3, .int (nI b)), (4, .int q)] → W p l e (headSpec (Cond.code yX11_harmOf cX11_harmOf 10 (some .int) :: GT) ({ frames := 1, cells := 0, slots := 0, locals := 21 } : Room)).room s m ([.ref h0, .int (nI i), .int (nI a), .int (nI b), .int q] : List Value).toArray below meth c H locs 0 0 (MQ below (va_Qi (fun (r : Int32) (u : Unit) => match u with | _ => (r = rhB fst i a b q) ∧ True) (fun _ _ => True) (fun q : Nat => s.heap.size ≤ q)) ([.ref h0, .int (nI i), .int (nI a), .int (nI b), .int q] : List Value).toArray s 0 0 (fun q : Nat => s.heap.size ≤ q)) (F0 m 197 ls [.int y21]) := by
                    intro y21 H locs hcut hP hS ls hl
                    subst hcut
                    refine lv_istore (lv' := [(9, .int (hAbs ((fst ((20 + (3 * a)) + 1)) - (fst ((20 + (3 * b)) + 1))))), (8, .int (((hPos ((hQt fst i q) - (hK' (fst (20 + 3 * b))))) + (hPos ((fst ((2 * i) + 1)) - (fst ((20 + (3 * b)) + 2))))) + (hTr (fst (20 + 3 * b)) (fst (2 * i + 1))))), (7, .int ((fst ((2 * i) + 1)) - (fst ((20 + (3 * b)) + 2)))), (6, .int ((hQt fst i q) - (hK' (fst (20 + 3 * b))))), (5, .int (fst (20 + 3 * b))), (0, .ref h0), (1, .int (nI i)), (2, .int (nI a)), (3, .int (nI b)), (4, .int q)]) hx hb dX11_harmOf_197 hl (by decide) rfl (fun ls hl => ?_)
                    refine lv_iload hx hb dX11_harmOf_199 (lv_at hl 1 rfl) ?_
                    refine lv_iload hx hb dX11_harmOf_201 (lv_at hl 4 rfl) ?_
                    refine lv_iconst (v := 5) hx hb dX11_harmOf_203 rfl ?_
                    have cut216_24 : ∀ (y23 : Int32) (H : Heap) (locs : List Loc), y23 = hJo (fst (20 + 3 * b)) (hAbs ((fst ((20 + (3 * a)) + 1)) - (fst ((20 + (3 * b)) + 1)))) → va_P (dC, dI) vwCl [(h0, .inr (11, [.ref st, .int (nI N), .int (nI B), .ref rp, .int vrs, .int vrb, .int vhs, .int vca, .int vxs, .int vxb, .ref tp, .int (nI T), .int vfa, .int vbr, .int vba, .int vsp, .int vhe, .int vtk, .int vva, .ref cu, .ref lt, .ref od, .ref th, .ref be, .ref ln, .int (nI S), .ref ma, .int (nI M), .ref ah, .ref bh, .ref ik, .ref la, .ref lg, .ref ce, .int vto])), (st, .inl (G 0, 196, .inl fst))] H → va_S (fun q : Nat => s.heap.size ≤ q) s.heap H locs → ∀ (ls : Array Slot), lv_has ls 10 [(9, .int (hAbs ((fst ((20 + (3 * a)) + 1)) - (fst ((20 + (3 * b)) + 1))))), (8, .int (((hPos ((hQt fst i q) - (hK' (fst (20 + 3 * b))))) + (hPos ((fst ((2 * i) + 1)) - (fst ((20 + (3 * b)) + 2))))) + (hTr (fst (20 + 3 * b)) (fst (2 * i + 1))))), (7, .int ((fst ((2 * i) + 1)) - (fst ((20 + (3 * b)) + 2)))), (6, .int ((hQt fst i q) - (hK' (fst (20 + 3 * b))))), (5, .int (fst (20 + 3 * b))), (0, .ref h0), (1, .int (nI i)), (2, .int (nI a)), (3, .int (nI b)), (4, .int q)] → W p l e (headSpec (Cond.code yX11_harmOf cX11_harmOf 10 (some .int) :: GT) ({ frames := 1, cells := 0, slots := 0, locals := 21 } : Room)).room s m ([.ref h0, .int (nI i), .int (nI a), .int (nI b), .int q] : List Value).toArray below meth c H locs 0 0 (MQ below (va_Qi (fun (r : Int32) (u : Unit) => match u with | _ => (r = rhB fst i a b q) ∧ True) (fun _ _ => True) (fun q : Nat => s.heap.size ≤ q)) ([.ref h0, .int (nI i), .int (nI a), .int (nI b), .int q] : List Value).toArray s 0 0 (fun q : Nat => s.heap.size ≤ q)) (F0 m 216 ls [.int y23, .int (((hPos ((hQt fst i q) - (hK' (fst (20 + 3 * b))))) + (hPos ((fst ((2 * i) + 1)) - (fst ((20 + (3 * b)) + 2))))) + (hTr (fst (20 + 3 * b)) (fst (2 * i + 1))))]) := by
                      intro y23 H locs hcut hP hS ls hl
                      subst hcut
                      refine lv_iadd hx hb dX11_harmOf_216 ?_
                      refine lv_istore (lv' := [(8, .int ((((hPos ((hQt fst i q) - (hK' (fst (20 + 3 * b))))) + (hPos ((fst ((2 * i) + 1)) - (fst ((20 + (3 * b)) + 2))))) + (hTr (fst (20 + 3 * b)) (fst (2 * i + 1)))) + (hJo (fst (20 + 3 * b)) (hAbs ((fst ((20 + (3 * a)) + 1)) - (fst ((20 + (3 * b)) + 1))))))), (9, .int (hAbs ((fst ((20 + (3 * a)) + 1)) - (fst ((20 + (3 * b)) + 1))))), (7, .int ((fst ((2 * i) + 1)) - (fst ((20 + (3 * b)) + 2)))), (6, .int ((hQt fst i q) - (hK' (fst (20 + 3 * b))))), (5, .int (fst (20 + 3 * b))), (0, .ref h0), (1, .int (nI i)), (2, .int (nI a)), (3, .int (nI b)), (4, .int q)]) hx hb dX11_harmOf_217 hl (by decide) rfl (fun ls hl => ?_)
                      exact cut219_14 ((((hPos ((hQt fst i q) - (hK' (fst (20 + 3 * b))))) + (hPos ((fst ((2 * i) + 1)) - (fst ((20 + (3 * b)) + 2))))) + (hTr (fst (20 + 3 * b)) (fst (2 * i + 1)))) + (hJo (fst (20 + 3 * b)) (hAbs ((fst ((20 + (3 * a)) + 1)) - (fst ((20 + (3 * b)) + 1)))))) _ _ (by first | (have h9 : (a = b ∨ (fst (20 + 3 * b) = 4 ∧ fst (20 + 3 * a) = 4)) := Or.inl (by omega); rw [if_pos h9]; rfl) | (have h9 : (a = b ∨ (fst (20 + 3 * b) = 4 ∧ fst (20 + 3 * a) = 4)) := Or.inr ⟨by assumption, by assumption⟩; rw [if_pos h9]; rfl) | (have h9 : ¬ (a = b ∨ (fst (20 + 3 * b) = 4 ∧ fst (20 + 3 * a) = 4)) := (fun h9 => h9.elim (fun h8 => absurd h8 (by omega)) (fun h8 => absurd h8.1 (by first | with_reducible assumption | assumption))); rw [if_neg h9]; first | rfl | (unfold hJo; rw [if_neg (by first | with_reducible assumption | assumption)]; rfl)) | (have h9 : ¬ (a = b ∨ (fst (20 + 3 * b) = 4 ∧ fst (20 + 3 * a) = 4)) := (fun h9 => h9.elim (fun h8 => absurd h8 (by omega)) (fun h8 => absurd h8.2 (by first | with_reducible assumption | assumption))); rw [if_neg h9]; first | rfl | (unfold hJo; rw [if_neg (by first | with_reducible assumption | assumption)]; rfl))) hP hS ls (lv_sub hl [0, 2, 3, 4, 5, 6, 7, 8, 9] rfl)
                    refine lv_icmp_ne (tgt := 214) hx hb dX11_harmOf_204 rfl (fun c25 => ?_) (fun c25 => ?_)
                    · skip
                      refine lv_iload hx hb dX11_harmOf_214 (lv_at hl 0 rfl) ?_
                      exact cut216_24 (hAbs ((fst ((20 + (3 * a)) + 1)) - (fst ((20 + (3 * b)) + 1)))) _ _ (by first | exact (if_pos (by first | with_reducible assumption | assumption)).symm | exact (if_neg (by first | with_reducible assumption | assumption)).symm | exact ((if_neg (by first | with_reducible assumption | assumption)).trans (if_pos (by first | with_reducible assumption | assumption))).symm | exact ((if_neg (by first | with_reducible assumption | assumption)).trans (if_neg (by first | with_reducible assumption | assumption))).symm | exact (if_pos ⟨by assumption, by assumption⟩).symm | exact (if_neg (fun h9 => absurd h9.1 (by first | with_reducible assumption | assumption))).symm | exact (if_neg (fun h9 => h9.2 (by first | with_reducible assumption | assumption))).symm) hP hS ls (lv_sub hl [0, 1, 2, 3, 4, 5, 6, 7, 8, 9] rfl)
                    · skip
                      refine lv_iload hx hb dX11_harmOf_207 (lv_at hl 0 rfl) ?_
                      refine lv_iconst (v := 2) hx hb dX11_harmOf_209 rfl ?_
                      refine lv_idiv hx hb dX11_harmOf_210 (by decide) ?_
                      refine lv_goto (tgt := 216) hx hb dX11_harmOf_211 rfl ?_
                      exact cut216_24 ((hAbs ((fst ((20 + (3 * a)) + 1)) - (fst ((20 + (3 * b)) + 1)))) / 2) _ _ (by first | exact (if_pos (by first | with_reducible assumption | assumption)).symm | exact (if_neg (by first | with_reducible assumption | assumption)).symm | exact ((if_neg (by first | with_reducible assumption | assumption)).trans (if_pos (by first | with_reducible assumption | assumption))).symm | exact ((if_neg (by first | with_reducible assumption | assumption)).trans (if_neg (by first | with_reducible assumption | assumption))).symm | exact (if_pos ⟨by assumption, by assumption⟩).symm | exact (if_neg (fun h9 => absurd h9.1 (by first | with_reducible assumption | assumption))).symm | exact (if_neg (fun h9 => h9.2 (by first | with_reducible assumption | assumption))).symm) hP hS ls (lv_sub hl [0, 1, 2, 3, 4, 5, 6, 7, 8, 9] rfl)
                  refine lv_if_ge (tgt := 195) hx hb dX11_harmOf_186 rfl (fun c26 => ?_) (fun c26 => ?_)
                  · skip
                    refine lv_iload hx hb dX11_harmOf_195 (lv_at hl 0 rfl) ?_
                    exact cut197_22 ((fst ((20 + (3 * a)) + 1)) - (fst ((20 + (3 * b)) + 1))) _ _ (by first | exact (if_pos (by first | with_reducible assumption | assumption)).symm | exact (if_neg (by first | with_reducible assumption | assumption)).symm | exact ((if_neg (by first | with_reducible assumption | assumption)).trans (if_pos (by first | with_reducible assumption | assumption))).symm | exact ((if_neg (by first | with_reducible assumption | assumption)).trans (if_neg (by first | with_reducible assumption | assumption))).symm | exact (if_pos ⟨by assumption, by assumption⟩).symm | exact (if_neg (fun h9 => absurd h9.1 (by first | with_reducible assumption | assumption))).symm | exact (if_neg (fun h9 => h9.2 (by first | with_reducible assumption | assumption))).symm) hP hS ls (lv_sub hl [0, 1, 2, 3, 4, 5, 6, 7, 8, 9] rfl)
                  · skip
                    refine lv_iload hx hb dX11_harmOf_189 (lv_at hl 0 rfl) ?_
                    refine lv_ineg hx hb dX11_harmOf_191 ?_
                    refine lv_goto (tgt := 197) hx hb dX11_harmOf_192 rfl ?_
                    exact cut197_22 (-((fst ((20 + (3 * a)) + 1)) - (fst ((20 + (3 * b)) + 1)))) _ _ (by first | exact (if_pos (by first | with_reducible assumption | assumption)).symm | exact (if_neg (by first | with_reducible assumption | assumption)).symm | exact ((if_neg (by first | with_reducible assumption | assumption)).trans (if_pos (by first | with_reducible assumption | assumption))).symm | exact ((if_neg (by first | with_reducible assumption | assumption)).trans (if_neg (by first | with_reducible assumption | assumption))).symm | exact (if_pos ⟨by assumption, by assumption⟩).symm | exact (if_neg (fun h9 => absurd h9.1 (by first | with_reducible assumption | assumption))).symm | exact (if_neg (fun h9 => h9.2 (by first | with_reducible assumption | assumption))).symm) hP hS ls (lv_sub hl [0, 1, 2, 3, 4, 5, 6, 7, 8, 9] rfl)
                · skip
                  refine lv_aload_n hx hb dX11_harmOf_146 rfl (lv_at hl 4 rfl) ?_
                  refine lv_iload_n hx hb dX11_harmOf_147 rfl (lv_at hl 6 rfl) ?_
                  have hPc := hP.sub (ws' := [(h0, .inr (11, [.ref st, .int (nI N), .int (nI B), .ref rp, .int vrs, .int vrb, .int vhs, .int vca, .int vxs, .int vxb, .ref tp, .int (nI T), .int vfa, .int vbr, .int vba, .int vsp, .int vhe, .int vtk, .int vva, .ref cu, .ref lt, .ref od, .ref th, .ref be, .ref ln, .int (nI S), .ref ma, .int (nI M), .ref ah, .ref bh, .ref ik, .ref la, .ref lg, .ref ce, .int vto])), (st, .inl (G 0, 196, .inl fst))]) [0, 1] rfl
                  refine va_calli (va_runV (As := [.int (nI a)]) (rest := []) ⟨hx, hb, hml, hown, hg⟩ (c_X11_kindOf l dC dI G _ h0 a st N B rp tp T cu lt od th be ln S ma M ah bh ik la lg ce vrs vrb vhs vca vxs vxb vfa vbr vba vsp vhe vtk vva vto fst hN hB_ hT_ hS0 hM_ hka) (kwV hg mfX11_kindOf wt_1110 ⟨Nat.le_of_ble_eq_true rfl, Nat.le_of_ble_eq_true rfl⟩) (preVR hK hPc (ci := 11) (r := (RX11, TX11, 35)) rfl rfl) rfl rfl hl.1 rfl (lv_room (Nat.le_of_ble_eq_true rfl)) dX11_harmOf_148 ⟨Nat.le_of_ble_eq_true rfl, Nat.le_of_ble_eq_true rfl⟩) hS (fun q h1 h2 => absurd h2 (Nat.not_le.mpr h1)) (fun q h => hA q (Nat.le_trans hS.1 h)) (fun r27 ur27 t H1 locs ht hvm w28 hB hz1 hk1 hS => ?_)
                  have hP := keepR hP hk1
                  obtain ⟨w28, w28x⟩ := w28
                  subst w28
                  refine lv_iconst (v := 4) hx hb dX11_harmOf_151 rfl ?_
                  refine lv_icmp_eq (tgt := 219) hx hb dX11_harmOf_152 rfl (fun c29 => ?_) (fun c29 => ?_)
                  · skip
                    exact cut219_14 (((hPos ((hQt fst i q) - (hK' (fst (20 + 3 * b))))) + (hPos ((fst ((2 * i) + 1)) - (fst ((20 + (3 * b)) + 2))))) + (hTr (fst (20 + 3 * b)) (fst (2 * i + 1)))) _ _ (by first | (have h9 : (a = b ∨ (fst (20 + 3 * b) = 4 ∧ fst (20 + 3 * a) = 4)) := Or.inl (by omega); rw [if_pos h9]; rfl) | (have h9 : (a = b ∨ (fst (20 + 3 * b) = 4 ∧ fst (20 + 3 * a) = 4)) := Or.inr ⟨by assumption, by assumption⟩; rw [if_pos h9]; rfl) | (have h9 : ¬ (a = b ∨ (fst (20 + 3 * b) = 4 ∧ fst (20 + 3 * a) = 4)) := (fun h9 => h9.elim (fun h8 => absurd h8 (by omega)) (fun h8 => absurd h8.1 (by first | with_reducible assumption | assumption))); rw [if_neg h9]; first | rfl | (unfold hJo; rw [if_neg (by first | with_reducible assumption | assumption)]; rfl)) | (have h9 : ¬ (a = b ∨ (fst (20 + 3 * b) = 4 ∧ fst (20 + 3 * a) = 4)) := (fun h9 => h9.elim (fun h8 => absurd h8 (by omega)) (fun h8 => absurd h8.2 (by first | with_reducible assumption | assumption))); rw [if_neg h9]; first | rfl | (unfold hJo; rw [if_neg (by first | with_reducible assumption | assumption)]; rfl))) hP hS ls (lv_sub hl [0, 1, 2, 3, 4, 5, 6, 7, 8] rfl)
                  · skip
                    refine lv_aload_n hx hb dX11_harmOf_155 rfl (lv_at hl 4 rfl) ?_
                    refine va_get (D := (dC, dI)) (ci := 11) (v := .ref st) (C := RX11) (T := TX11) (N := 35) hx hb hg inG11 hown hK.1 hP 0 rfl rfl 0 (Nat.le_of_ble_eq_true rfl) (hg _ wt_878) (fun _ h9 => h9) rfl dX11_harmOf_156 ?_
                    refine lv_bipush (v := 20) hx hb dX11_harmOf_159 rfl ?_
                    refine lv_iconst (v := 3) hx hb dX11_harmOf_161 rfl ?_
                    refine lv_iload_n hx hb dX11_harmOf_162 rfl (lv_at hl 6 rfl) ?_
                    refine lv_imul hx hb dX11_harmOf_163 ?_
                    refine lv_cg (y := nI (3 * a)) (by rw [show (3 : Int32) = nI 3 from rfl]; exact pk_mul _ _) ?_
                    refine lv_iadd hx hb dX11_harmOf_164 ?_
                    refine lv_cg (y := nI (20 + (3 * a))) (by rw [show (20 : Int32) = nI 20 from rfl]; exact nI_add _ _) ?_
                    refine lv_iconst (v := 1) hx hb dX11_harmOf_165 rfl ?_
                    refine lv_iadd hx hb dX11_harmOf_166 ?_
                    refine lv_cg (y := nI ((20 + (3 * a)) + 1)) (by rw [show (1 : Int32) = nI 1 from rfl]; exact nI_add _ _) ?_
                    refine va_iald hx hb hK.1 hP 1 0 rfl rfl (vp_in_nI (by first | omega | (have t_c16 := neI c16; have t_n19 := n19; have t_c20 := eqI c20; have t_c29 := neI c29; have tqz_ := qz39_; have tnb_ := nib8 tn683_ tn684_ tn685_ tn678_ tn679_ tn680_ tn681_ tn682_; omega)) (by decide)) dX11_harmOf_167 ?_
                    refine lv_cg (y := fst ((20 + (3 * a)) + 1)) (by rw [nI_clamp (by omega)]) ?_
                    refine lv_aload_n hx hb dX11_harmOf_168 rfl (lv_at hl 4 rfl) ?_
                    refine va_get (D := (dC, dI)) (ci := 11) (v := .ref st) (C := RX11) (T := TX11) (N := 35) hx hb hg inG11 hown hK.1 hP 0 rfl rfl 0 (Nat.le_of_ble_eq_true rfl) (hg _ wt_878) (fun _ h9 => h9) rfl dX11_harmOf_169 ?_
                    refine lv_bipush (v := 20) hx hb dX11_harmOf_172 rfl ?_
                    refine lv_iconst (v := 3) hx hb dX11_harmOf_174 rfl ?_
                    refine lv_iload_n hx hb dX11_harmOf_175 rfl (lv_at hl 7 rfl) ?_
                    refine lv_imul hx hb dX11_harmOf_176 ?_
                    refine lv_cg (y := nI (3 * b)) (by rw [show (3 : Int32) = nI 3 from rfl]; exact pk_mul _ _) ?_
                    refine lv_iadd hx hb dX11_harmOf_177 ?_
                    refine lv_cg (y := nI (20 + (3 * b))) (by rw [show (20 : Int32) = nI 20 from rfl]; exact nI_add _ _) ?_
                    refine lv_iconst (v := 1) hx hb dX11_harmOf_178 rfl ?_
                    refine lv_iadd hx hb dX11_harmOf_179 ?_
                    refine lv_cg (y := nI ((20 + (3 * b)) + 1)) (by rw [show (1 : Int32) = nI 1 from rfl]; exact nI_add _ _) ?_
                    refine va_iald hx hb hK.1 hP 1 0 rfl rfl (vp_in_nI (by first | omega | (have t_c16 := neI c16; have t_n19 := n19; have t_c20 := eqI c20; have t_c29 := neI c29; have tqz_ := qz39_; have tnb_ := nib8 tn683_ tn684_ tn685_ tn678_ tn679_ tn680_ tn681_ tn682_; omega)) (by decide)) dX11_harmOf_180 ?_
                    refine lv_cg (y := fst ((20 + (3 * b)) + 1)) (by rw [nI_clamp (by omega)]) ?_
                    refine lv_isub hx hb dX11_harmOf_181 ?_
                    refine lv_istore (lv' := [(9, .int ((fst ((20 + (3 * a)) + 1)) - (fst ((20 + (3 * b)) + 1)))), (8, .int (((hPos ((hQt fst i q) - (hK' (fst (20 + 3 * b))))) + (hPos ((fst ((2 * i) + 1)) - (fst ((20 + (3 * b)) + 2))))) + (hTr (fst (20 + 3 * b)) (fst (2 * i + 1))))), (7, .int ((fst ((2 * i) + 1)) - (fst ((20 + (3 * b)) + 2)))), (6, .int ((hQt fst i q) - (hK' (fst (20 + 3 * b))))), (5, .int (fst (20 + 3 * b))), (0, .ref h0), (1, .int (nI i)), (2, .int (nI a)), (3, .int (nI b)), (4, .int q)]) hx hb dX11_harmOf_182 hl (by decide) rfl (fun ls hl => ?_)
                    refine lv_iload hx hb dX11_harmOf_184 (lv_at hl 0 rfl) ?_
                    have cut197_31 : ∀ (y30 : Int32) (H : Heap) (locs : List Loc), y30 = hAbs ((fst ((20 + (3 * a)) + 1)) - (fst ((20 + (3 * b)) + 1))) → va_P (dC, dI) vwCl [(h0, .inr (11, [.ref st, .int (nI N), .int (nI B), .ref rp, .int vrs, .int vrb, .int vhs, .int vca, .int vxs, .int vxb, .ref tp, .int (nI T), .int vfa, .int vbr, .int vba, .int vsp, .int vhe, .int vtk, .int vva, .ref cu, .ref lt, .ref od, .ref th, .ref be, .ref ln, .int (nI S), .ref ma, .int (nI M), .ref ah, .ref bh, .ref ik, .ref la, .ref lg, .ref ce, .int vto])), (st, .inl (G 0, 196, .inl fst))] H → va_S (fun q : Nat => s.heap.size ≤ q) s.heap H locs → ∀ (ls : Array Slot), lv_has ls 10 [(9, .int ((fst ((20 + (3 * a)) + 1)) - (fst ((20 + (3 * b)) + 1)))), (8, .int (((hPos ((hQt fst i q) - (hK' (fst (20 + 3 * b))))) + (hPos ((fst ((2 * i) + 1)) - (fst ((20 + (3 * b)) + 2))))) + (hTr (fst (20 + 3 * b)) (fst (2 * i + 1))))), (7, .int ((fst ((2 * i) + 1)) - (fst ((20 + (3 * b)) + 2)))), (6, .int ((hQt fst i q) - (hK' (fst (20 + 3 * b))))), (5, .int (fst (20 + 3 * b))), (0, .ref h0), (1, .int (nI i)), (2, .int (nI a)), (3, .int (nI b)), (4, .int q)] → W p l e (headSpec (Cond.code yX11_harmOf cX11_harmOf 10 (some .int) :: GT) ({ frames := 1, cells := 0, slots := 0, locals := 21 } : Room)).room s m ([.ref h0, .int (nI i), .int (nI a), .int (nI b), .int q] : List Value).toArray below meth c H locs 0 0 (MQ below (va_Qi (fun (r : Int32) (u : Unit) => match u with | _ => (r = rhB fst i a b q) ∧ True) (fun _ _ => True) (fun q : Nat => s.heap.size ≤ q)) ([.ref h0, .int (nI i), .int (nI a), .int (nI b), .int q] : List Value).toArray s 0 0 (fun q : Nat => s.heap.size ≤ q)) (F0 m 197 ls [.int y30]) := by
                      intro y30 H locs hcut hP hS ls hl
                      subst hcut
                      refine lv_istore (lv' := [(9, .int (hAbs ((fst ((20 + (3 * a)) + 1)) - (fst ((20 + (3 * b)) + 1))))), (8, .int (((hPos ((hQt fst i q) - (hK' (fst (20 + 3 * b))))) + (hPos ((fst ((2 * i) + 1)) - (fst ((20 + (3 * b)) + 2))))) + (hTr (fst (20 + 3 * b)) (fst (2 * i + 1))))), (7, .int ((fst ((2 * i) + 1)) - (fst ((20 + (3 * b)) + 2)))), (6, .int ((hQt fst i q) - (hK' (fst (20 + 3 * b))))), (5, .int (fst (20 + 3 * b))), (0, .ref h0), (1, .int (nI i)), (2, .int (nI a)), (3, .int (nI b)), (4, .int q)]) hx hb dX11_harmOf_197 hl (by decide) rfl (fun ls hl => ?_)
                      refine lv_iload hx hb dX11_harmOf_199 (lv_at hl 1 rfl) ?_
                      refine lv_iload hx hb dX11_harmOf_201 (lv_at hl 4 rfl) ?_
                      refine lv_iconst (v := 5) hx hb dX11_harmOf_203 rfl ?_
                      refine lv_icmp_ne (tgt := 214) hx hb dX11_harmOf_204 rfl (fun c32 => ?_) (fun c32 => ?_)
                      · skip
                        refine lv_iload hx hb dX11_harmOf_214 (lv_at hl 0 rfl) ?_
                        refine lv_iadd hx hb dX11_harmOf_216 ?_
                        refine lv_istore (lv' := [(8, .int ((((hPos ((hQt fst i q) - (hK' (fst (20 + 3 * b))))) + (hPos ((fst ((2 * i) + 1)) - (fst ((20 + (3 * b)) + 2))))) + (hTr (fst (20 + 3 * b)) (fst (2 * i + 1)))) + (hAbs ((fst ((20 + (3 * a)) + 1)) - (fst ((20 + (3 * b)) + 1)))))), (9, .int (hAbs ((fst ((20 + (3 * a)) + 1)) - (fst ((20 + (3 * b)) + 1))))), (7, .int ((fst ((2 * i) + 1)) - (fst ((20 + (3 * b)) + 2)))), (6, .int ((hQt fst i q) - (hK' (fst (20 + 3 * b))))), (5, .int (fst (20 + 3 * b))), (0, .ref h0), (1, .int (nI i)), (2, .int (nI a)), (3, .int (nI b)), (4, .int q)]) hx hb dX11_harmOf_217 hl (by decide) rfl (fun ls hl => ?_)
                        exact cut219_14 ((((hPos ((hQt fst i q) - (hK' (fst (20 + 3 * b))))) + (hPos ((fst ((2 * i) + 1)) - (fst ((20 + (3 * b)) + 2))))) + (hTr (fst (20 + 3 * b)) (fst (2 * i + 1)))) + (hAbs ((fst ((20 + (3 * a)) + 1)) - (fst ((20 + (3 * b)) + 1))))) _ _ (by first | (have h9 : (a = b ∨ (fst (20 + 3 * b) = 4 ∧ fst (20 + 3 * a) = 4)) := Or.inl (by omega); rw [if_pos h9]; rfl) | (have h9 : (a = b ∨ (fst (20 + 3 * b) = 4 ∧ fst (20 + 3 * a) = 4)) := Or.inr ⟨by assumption, by assumption⟩; rw [if_pos h9]; rfl) | (have h9 : ¬ (a = b ∨ (fst (20 + 3 * b) = 4 ∧ fst (20 + 3 * a) = 4)) := (fun h9 => h9.elim (fun h8 => absurd h8 (by omega)) (fun h8 => absurd h8.1 (by first | with_reducible assumption | assumption))); rw [if_neg h9]; first | rfl | (unfold hJo; rw [if_neg (by first | with_reducible assumption | assumption)]; rfl)) | (have h9 : ¬ (a = b ∨ (fst (20 + 3 * b) = 4 ∧ fst (20 + 3 * a) = 4)) := (fun h9 => h9.elim (fun h8 => absurd h8 (by omega)) (fun h8 => absurd h8.2 (by first | with_reducible assumption | assumption))); rw [if_neg h9]; first | rfl | (unfold hJo; rw [if_neg (by first | with_reducible assumption | assumption)]; rfl))) hP hS ls (lv_sub hl [0, 2, 3, 4, 5, 6, 7, 8, 9] rfl)
                      · skip
                        have t_c16 := neI c16
                        have t_n19 := n19
                        have t_c20 := eqI c20
                        have t_c29 := neI c29
                        have t_c32 := eqI c32
                        have : ((-4) : Int32).toInt = -4 := qI_m4
                        have : (4 : Int32).toInt = 4 := qI_4
                        have : (5 : Int32).toInt = 5 := qI_5
                        have t_n0 : (nI i).toInt = (i : Int) := tn683_ ()
                        have t_n1 : (nI a).toInt = (a : Int) := tn684_ ()
                        have t_n2 : (nI b).toInt = (b : Int) := tn685_ ()
                        have t_n3 : (nI N).toInt = (N : Int) := tn678_ ()
                        have t_n4 : (nI B).toInt = (B : Int) := tn679_ ()
                        have t_n5 : (nI T).toInt = (T : Int) := tn680_ ()
                        have t_n6 : (nI S).toInt = (S : Int) := tn681_ ()
                        have t_n7 : (nI M).toInt = (M : Int) := tn682_ ()
                        exfalso; omega
                    refine lv_if_ge (tgt := 195) hx hb dX11_harmOf_186 rfl (fun c33 => ?_) (fun c33 => ?_)
                    · skip
                      refine lv_iload hx hb dX11_harmOf_195 (lv_at hl 0 rfl) ?_
                      exact cut197_31 ((fst ((20 + (3 * a)) + 1)) - (fst ((20 + (3 * b)) + 1))) _ _ (by first | exact (if_pos (by first | with_reducible assumption | assumption)).symm | exact (if_neg (by first | with_reducible assumption | assumption)).symm | exact ((if_neg (by first | with_reducible assumption | assumption)).trans (if_pos (by first | with_reducible assumption | assumption))).symm | exact ((if_neg (by first | with_reducible assumption | assumption)).trans (if_neg (by first | with_reducible assumption | assumption))).symm | exact (if_pos ⟨by assumption, by assumption⟩).symm | exact (if_neg (fun h9 => absurd h9.1 (by first | with_reducible assumption | assumption))).symm | exact (if_neg (fun h9 => h9.2 (by first | with_reducible assumption | assumption))).symm) hP hS ls (lv_sub hl [0, 1, 2, 3, 4, 5, 6, 7, 8, 9] rfl)
                    · skip
                      refine lv_iload hx hb dX11_harmOf_189 (lv_at hl 0 rfl) ?_
                      refine lv_ineg hx hb dX11_harmOf_191 ?_
                      refine lv_goto (tgt := 197) hx hb dX11_harmOf_192 rfl ?_
                      exact cut197_31 (-((fst ((20 + (3 * a)) + 1)) - (fst ((20 + (3 * b)) + 1)))) _ _ (by first | exact (if_pos (by first | with_reducible assumption | assumption)).symm | exact (if_neg (by first | with_reducible assumption | assumption)).symm | exact ((if_neg (by first | with_reducible assumption | assumption)).trans (if_pos (by first | with_reducible assumption | assumption))).symm | exact ((if_neg (by first | with_reducible assumption | assumption)).trans (if_neg (by first | with_reducible assumption | assumption))).symm | exact (if_pos ⟨by assumption, by assumption⟩).symm | exact (if_neg (fun h9 => absurd h9.1 (by first | with_reducible assumption | assumption))).symm | exact (if_neg (fun h9 => h9.2 (by first | with_reducible assumption | assumption))).symm) hP hS ls (lv_sub hl [0, 1, 2, 3, 4, 5, 6, 7, 8, 9] rfl)
          refine lv_icmp_ne (tgt := 125) hx hb dX11_harmOf_104 rfl (fun c34 => ?_) (fun c34 => ?_)
          · skip
            refine lv_iconst (v := 0) hx hb dX11_harmOf_125 rfl ?_
            exact cut126_12 0 _ _ (by first | exact (if_pos (by first | with_reducible assumption | assumption)).symm | exact (if_neg (by first | with_reducible assumption | assumption)).symm | exact ((if_neg (by first | with_reducible assumption | assumption)).trans (if_pos (by first | with_reducible assumption | assumption))).symm | exact ((if_neg (by first | with_reducible assumption | assumption)).trans (if_neg (by first | with_reducible assumption | assumption))).symm | exact (if_pos ⟨by assumption, by assumption⟩).symm | exact (if_neg (fun h9 => absurd h9.1 (by first | with_reducible assumption | assumption))).symm | exact (if_neg (fun h9 => h9.2 (by first | with_reducible assumption | assumption))).symm) hP hS ls (lv_sub hl [0, 1, 2, 3, 4, 5, 6, 7] rfl)
          · skip
            refine lv_aload_n hx hb dX11_harmOf_107 rfl (lv_at hl 3 rfl) ?_
            refine va_get (D := (dC, dI)) (ci := 11) (v := .ref st) (C := RX11) (T := TX11) (N := 35) hx hb hg inG11 hown hK.1 hP 0 rfl rfl 0 (Nat.le_of_ble_eq_true rfl) (hg _ wt_878) (fun _ h9 => h9) rfl dX11_harmOf_108 ?_
            refine lv_iconst (v := 2) hx hb dX11_harmOf_111 rfl ?_
            refine lv_iload_n hx hb dX11_harmOf_112 rfl (lv_at hl 4 rfl) ?_
            refine lv_imul hx hb dX11_harmOf_113 ?_
            refine lv_cg (y := nI (2 * i)) (by rw [show (2 : Int32) = nI 2 from rfl]; exact pk_mul _ _) ?_
            refine lv_iconst (v := 1) hx hb dX11_harmOf_114 rfl ?_
            refine lv_iadd hx hb dX11_harmOf_115 ?_
            refine lv_cg (y := nI ((2 * i) + 1)) (by rw [show (1 : Int32) = nI 1 from rfl]; exact nI_add _ _) ?_
            refine va_iald hx hb hK.1 hP 1 0 rfl rfl (vp_in_nI (by first | omega | (have t_c34 := eqI c34; have : (2 : Int32).toInt = 2 := qI_2; have tnb_ := nib8 tn683_ tn684_ tn685_ tn678_ tn679_ tn680_ tn681_ tn682_; omega)) (by decide)) dX11_harmOf_116 ?_
            refine lv_cg (y := fst ((2 * i) + 1)) (by rw [nI_clamp (by omega)]) ?_
            refine lv_iconst (v := 5) hx hb dX11_harmOf_117 rfl ?_
            refine lv_icmp_lt (tgt := 125) hx hb dX11_harmOf_118 rfl (fun c35 => ?_) (fun c35 => ?_)
            · skip
              refine lv_iconst (v := 0) hx hb dX11_harmOf_125 rfl ?_
              exact cut126_12 0 _ _ (by first | exact (if_pos (by first | with_reducible assumption | assumption)).symm | exact (if_neg (by first | with_reducible assumption | assumption)).symm | exact ((if_neg (by first | with_reducible assumption | assumption)).trans (if_pos (by first | with_reducible assumption | assumption))).symm | exact ((if_neg (by first | with_reducible assumption | assumption)).trans (if_neg (by first | with_reducible assumption | assumption))).symm | exact (if_pos ⟨by assumption, by assumption⟩).symm | exact (if_neg (fun h9 => absurd h9.1 (by first | with_reducible assumption | assumption))).symm | exact (if_neg (fun h9 => h9.2 (by first | with_reducible assumption | assumption))).symm) hP hS ls (lv_sub hl [0, 1, 2, 3, 4, 5, 6, 7] rfl)
            · skip
              refine lv_iconst (v := 1) hx hb dX11_harmOf_121 rfl ?_
              refine lv_goto (tgt := 126) hx hb dX11_harmOf_122 rfl ?_
              exact cut126_12 1 _ _ (by first | exact (if_pos (by first | with_reducible assumption | assumption)).symm | exact (if_neg (by first | with_reducible assumption | assumption)).symm | exact ((if_neg (by first | with_reducible assumption | assumption)).trans (if_pos (by first | with_reducible assumption | assumption))).symm | exact ((if_neg (by first | with_reducible assumption | assumption)).trans (if_neg (by first | with_reducible assumption | assumption))).symm | exact (if_pos ⟨by assumption, by assumption⟩).symm | exact (if_neg (fun h9 => absurd h9.1 (by first | with_reducible assumption | assumption))).symm | exact (if_neg (fun h9 => h9.2 (by first | with_reducible assumption | assumption))).symm) hP hS ls (lv_sub hl [0, 1, 2, 3, 4, 5, 6, 7] rfl)
        refine lv_if_le (tgt := 99) hx hb dX11_harmOf_91 rfl (fun c36 => ?_) (fun c36 => ?_)
        · skip
          refine lv_iconst (v := 0) hx hb dX11_harmOf_99 rfl ?_
          exact cut100_10 0 _ _ (by first | exact (if_pos (by first | with_reducible assumption | assumption)).symm | exact (if_neg (by first | with_reducible assumption | assumption)).symm | exact ((if_neg (by first | with_reducible assumption | assumption)).trans (if_pos (by first | with_reducible assumption | assumption))).symm | exact ((if_neg (by first | with_reducible assumption | assumption)).trans (if_neg (by first | with_reducible assumption | assumption))).symm | exact (if_pos ⟨by assumption, by assumption⟩).symm | exact (if_neg (fun h9 => absurd h9.1 (by first | with_reducible assumption | assumption))).symm | exact (if_neg (fun h9 => h9.2 (by first | with_reducible assumption | assumption))).symm) hP hS ls (lv_sub hl [0, 1, 2, 3, 4, 5, 6, 7] rfl)
        · skip
          refine lv_iload hx hb dX11_harmOf_94 (lv_at hl 0 rfl) ?_
          refine lv_goto (tgt := 100) hx hb dX11_harmOf_96 rfl ?_
          exact cut100_10 ((fst ((2 * i) + 1)) - (fst ((20 + (3 * b)) + 2))) _ _ (by first | exact (if_pos (by first | with_reducible assumption | assumption)).symm | exact (if_neg (by first | with_reducible assumption | assumption)).symm | exact ((if_neg (by first | with_reducible assumption | assumption)).trans (if_pos (by first | with_reducible assumption | assumption))).symm | exact ((if_neg (by first | with_reducible assumption | assumption)).trans (if_neg (by first | with_reducible assumption | assumption))).symm | exact (if_pos ⟨by assumption, by assumption⟩).symm | exact (if_neg (fun h9 => absurd h9.1 (by first | with_reducible assumption | assumption))).symm | exact (if_neg (fun h9 => h9.2 (by first | with_reducible assumption | assumption))).symm) hP hS ls (lv_sub hl [0, 1, 2, 3, 4, 5, 6, 7] rfl)
      refine lv_if_le (tgt := 88) hx hb dX11_harmOf_80 rfl (fun c37 => ?_) (fun c37 => ?_)
      · skip
        refine lv_iconst (v := 0) hx hb dX11_harmOf_88 rfl ?_
        exact cut89_8 0 _ _ (by first | exact (if_pos (by first | with_reducible assumption | assumption)).symm | exact (if_neg (by first | with_reducible assumption | assumption)).symm | exact ((if_neg (by first | with_reducible assumption | assumption)).trans (if_pos (by first | with_reducible assumption | assumption))).symm | exact ((if_neg (by first | with_reducible assumption | assumption)).trans (if_neg (by first | with_reducible assumption | assumption))).symm | exact (if_pos ⟨by assumption, by assumption⟩).symm | exact (if_neg (fun h9 => absurd h9.1 (by first | with_reducible assumption | assumption))).symm | exact (if_neg (fun h9 => h9.2 (by first | with_reducible assumption | assumption))).symm) hP hS ls (lv_sub hl [0, 1, 2, 3, 4, 5, 6, 7] rfl)
      · skip
        refine lv_iload hx hb dX11_harmOf_83 (lv_at hl 1 rfl) ?_
        refine lv_goto (tgt := 89) hx hb dX11_harmOf_85 rfl ?_
        exact cut89_8 ((hQt fst i q) - (hK' (fst (20 + 3 * b)))) _ _ (by first | exact (if_pos (by first | with_reducible assumption | assumption)).symm | exact (if_neg (by first | with_reducible assumption | assumption)).symm | exact ((if_neg (by first | with_reducible assumption | assumption)).trans (if_pos (by first | with_reducible assumption | assumption))).symm | exact ((if_neg (by first | with_reducible assumption | assumption)).trans (if_neg (by first | with_reducible assumption | assumption))).symm | exact (if_pos ⟨by assumption, by assumption⟩).symm | exact (if_neg (fun h9 => absurd h9.1 (by first | with_reducible assumption | assumption))).symm | exact (if_neg (fun h9 => h9.2 (by first | with_reducible assumption | assumption))).symm) hP hS ls (lv_sub hl [0, 1, 2, 3, 4, 5, 6, 7] rfl)
    refine lv_icmp_ne (tgt := 38) hx hb dX11_harmOf_31 rfl (fun c38 => ?_) (fun c38 => ?_)
    · skip
      refine lv_iload hx hb dX11_harmOf_38 (lv_at hl 1 rfl) ?_
      refine lv_iconst (v := 3) hx hb dX11_harmOf_40 rfl ?_
      refine lv_icmp_ne (tgt := 48) hx hb dX11_harmOf_41 rfl (fun c39 => ?_) (fun c39 => ?_)
      · skip
        refine lv_iconst (v := 0) hx hb dX11_harmOf_48 rfl ?_
        exact cut49_6 0 _ _ (by first | exact (if_pos (by first | with_reducible assumption | assumption)).symm | exact (if_neg (by first | with_reducible assumption | assumption)).symm | exact ((if_neg (by first | with_reducible assumption | assumption)).trans (if_pos (by first | with_reducible assumption | assumption))).symm | exact ((if_neg (by first | with_reducible assumption | assumption)).trans (if_neg (by first | with_reducible assumption | assumption))).symm | exact (if_pos ⟨by assumption, by assumption⟩).symm | exact (if_neg (fun h9 => absurd h9.1 (by first | with_reducible assumption | assumption))).symm | exact (if_neg (fun h9 => h9.2 (by first | with_reducible assumption | assumption))).symm) hP hS ls (lv_sub hl [0, 1, 2, 3, 4, 5, 6] rfl)
      · skip
        refine lv_iconst (v := 1) hx hb dX11_harmOf_44 rfl ?_
        refine lv_goto (tgt := 49) hx hb dX11_harmOf_45 rfl ?_
        exact cut49_6 1 _ _ (by first | exact (if_pos (by first | with_reducible assumption | assumption)).symm | exact (if_neg (by first | with_reducible assumption | assumption)).symm | exact ((if_neg (by first | with_reducible assumption | assumption)).trans (if_pos (by first | with_reducible assumption | assumption))).symm | exact ((if_neg (by first | with_reducible assumption | assumption)).trans (if_neg (by first | with_reducible assumption | assumption))).symm | exact (if_pos ⟨by assumption, by assumption⟩).symm | exact (if_neg (fun h9 => absurd h9.1 (by first | with_reducible assumption | assumption))).symm | exact (if_neg (fun h9 => h9.2 (by first | with_reducible assumption | assumption))).symm) hP hS ls (lv_sub hl [0, 1, 2, 3, 4, 5, 6] rfl)
    · skip
      refine lv_iconst (v := 2) hx hb dX11_harmOf_34 rfl ?_
      refine lv_goto (tgt := 49) hx hb dX11_harmOf_35 rfl ?_
      exact cut49_6 2 _ _ (by first | exact (if_pos (by first | with_reducible assumption | assumption)).symm | exact (if_neg (by first | with_reducible assumption | assumption)).symm | exact ((if_neg (by first | with_reducible assumption | assumption)).trans (if_pos (by first | with_reducible assumption | assumption))).symm | exact ((if_neg (by first | with_reducible assumption | assumption)).trans (if_neg (by first | with_reducible assumption | assumption))).symm | exact (if_pos ⟨by assumption, by assumption⟩).symm | exact (if_neg (fun h9 => absurd h9.1 (by first | with_reducible assumption | assumption))).symm | exact (if_neg (fun h9 => h9.2 (by first | with_reducible assumption | assumption))).symm) hP hS ls (lv_sub hl [0, 1, 2, 3, 4, 5, 6] rfl)
  refine lv_if_eq (tgt := 16) hx hb dX11_harmOf_9 rfl (fun c40 => ?_) (fun c40 => ?_)
  · skip
    refine lv_aload_n hx hb dX11_harmOf_16 rfl (lv_at hl 1 rfl) ?_
    refine va_get (D := (dC, dI)) (ci := 11) (v := .ref st) (C := RX11) (T := TX11) (N := 35) hx hb hg inG11 hown hK.1 hP 0 rfl rfl 0 (Nat.le_of_ble_eq_true rfl) (hg _ wt_878) (fun _ h9 => h9) rfl dX11_harmOf_17 ?_
    refine lv_iconst (v := 2) hx hb dX11_harmOf_20 rfl ?_
    refine lv_iload_n hx hb dX11_harmOf_21 rfl (lv_at hl 2 rfl) ?_
    refine lv_imul hx hb dX11_harmOf_22 ?_
    refine lv_cg (y := nI (2 * i)) (by rw [show (2 : Int32) = nI 2 from rfl]; exact pk_mul _ _) ?_
    refine va_iald hx hb hK.1 hP 1 0 rfl rfl (vp_in_nI (by first | omega | (have t_c40 := eqI c40; have : (0 : Int32).toInt = 0 := qI_0; have tnb_ := nib8 tn683_ tn684_ tn685_ tn678_ tn679_ tn680_ tn681_ tn682_; omega)) (by decide)) dX11_harmOf_23 ?_
    refine lv_cg (y := fst (2 * i)) (by rw [nI_clamp (by omega)]) ?_
    exact cut24_4 (fst (2 * i)) _ _ (by first | exact (if_pos (by first | with_reducible assumption | assumption)).symm | exact (if_neg (by first | with_reducible assumption | assumption)).symm | exact ((if_neg (by first | with_reducible assumption | assumption)).trans (if_pos (by first | with_reducible assumption | assumption))).symm | exact ((if_neg (by first | with_reducible assumption | assumption)).trans (if_neg (by first | with_reducible assumption | assumption))).symm | exact (if_pos ⟨by assumption, by assumption⟩).symm | exact (if_neg (fun h9 => absurd h9.1 (by first | with_reducible assumption | assumption))).symm | exact (if_neg (fun h9 => h9.2 (by first | with_reducible assumption | assumption))).symm) hP hS ls (lv_sub hl [0, 1, 2, 3, 4, 5] rfl)
  · skip
    refine lv_iconst (v := 0) hx hb dX11_harmOf_12 rfl ?_
    refine lv_goto (tgt := 24) hx hb dX11_harmOf_13 rfl ?_
    exact cut24_4 0 _ _ (by first | exact (if_pos (by first | with_reducible assumption | assumption)).symm | exact (if_neg (by first | with_reducible assumption | assumption)).symm | exact ((if_neg (by first | with_reducible assumption | assumption)).trans (if_pos (by first | with_reducible assumption | assumption))).symm | exact ((if_neg (by first | with_reducible assumption | assumption)).trans (if_neg (by first | with_reducible assumption | assumption))).symm | exact (if_pos ⟨by assumption, by assumption⟩).symm | exact (if_neg (fun h9 => absurd h9.1 (by first | with_reducible assumption | assumption))).symm | exact (if_neg (fun h9 => h9.2 (by first | with_reducible assumption | assumption))).symm) hP hS ls (lv_sub hl [0, 1, 2, 3, 4, 5] rfl)

set_option maxHeartbeats 1000000 in
set_option maxRecDepth 100000 in
theorem c_X11_orderedHarm (l : Launch) (dC : Nat → ClassId) (dI : Nat → Nat → Nat) (G : Nat → ClassId) (sz : Nat) (h0 i st N B rp tp T cu lt od th be ln S ma M ah bh ik la lg ce : Nat) (q vrs vrb vhs vca vxs vxb vfa vbr vba vsp vhe vtk vva vto : Int32) (fst : Nat → Int32) (hN : N ≤ 10) (hB : B ≤ 6) (hT : T ≤ 320) (hS0 : S ≤ 8) (hM : M ≤ 6) (hi : i < 10) (hst : OKS fst) : Met l yX11_orderedHarm (Cond.code yX11_orderedHarm cX11_orderedHarm 3 (some .int) :: GT) ({ frames := 2, cells := 0, slots := 0, locals := 50 } : Room) (PcR [.ref h0, .int (nI i), .int q] dC dI G [(h0, .inr (11, [.ref st, .int (nI N), .int (nI B), .ref rp, .int vrs, .int vrb, .int vhs, .int vca, .int vxs, .int vxb, .ref tp, .int (nI T), .int vfa, .int vbr, .int vba, .int vsp, .int vhe, .int vtk, .int vva, .ref cu, .ref lt, .ref od, .ref th, .ref be, .ref ln, .int (nI S), .ref ma, .int (nI M), .ref ah, .ref bh, .ref ik, .ref la, .ref lg, .ref ce, .int vto])), (st, .inl (G 0, 196, .inl fst))] sz) (va_Qi (fun (r : Int32) (u : Unit) => match u with | _ => (True) ∧ True) (fun _ _ => True) (fun q : Nat => sz ≤ q)) 0 0 (fun q : Nat => sz ≤ q) := by
  have hB_ := hB
  have hM_ := hM
  have hT_ := hT
  have tn699_ : nIT N := fun _ => nI_toInt (by omega)
  have tn700_ : nIT B := fun _ => nI_toInt (by omega)
  have tn701_ : nIT T := fun _ => nI_toInt (by omega)
  have tn702_ : nIT S := fun _ => nI_toInt (by omega)
  have tn703_ : nIT M := fun _ => nI_toInt (by omega)
  refine Met.ofW (cc := cX11_orderedHarm) (maxL := 3) (ret := (some .int)) (by decide) rfl ?_
  intro p e s m args below meth c s₁ Bd hml hv
  obtain ⟨rfl, hsz, hP, hK⟩ := hv
  have hx := Bd.exec
  have hb := Bd.bytes
  have hr := Bd.returns
  have hg : ∀ w ∈ GT, w.before ([.ref h0, .int (nI i), .int q] : List Value).toArray s = true := fun w h => atoms_spec (ws := Cond.code yX11_orderedHarm cX11_orderedHarm 3 (some .int) :: GT) Bd.pre w (List.mem_cons_of_mem _ h)
  have hown : s.vm.findClass RX11 = some m.cls := findClass_of_methodNamed Bd.named
  have hlocks := Bd.notSynchronized
  subst hsz
  have hA : ∀ q : Nat, s.heap.size ≤ q → (fun q : Nat => s.heap.size ≤ q) q := fun _ h => h
  have hS : va_S (fun q : Nat => s.heap.size ≤ q) s.heap s.heap [] := va_S.rf
  have hl := lv_entry ([.ref h0, .int (nI i), .int q]) (n := 3) (Nat.le_of_ble_eq_true rfl)
  rw [lg_entry_eq]
  generalize (lg_sl ([.ref h0, .int (nI i), .int q]) ++ List.replicate (3 - (lg_sl ([.ref h0, .int (nI i), .int q])).length) Slot.unset).toArray = ls at hl ⊢
  have hl : lv_has ls 3 [(0, .ref h0), (1, .int (nI i)), (2, .int q)] := hl
  refine lv_aload_n hx hb dX11_orderedHarm_0 rfl (lv_at hl 0 rfl) ?_
  refine lv_iload_n hx hb dX11_orderedHarm_1 rfl (lv_at hl 1 rfl) ?_
  refine lv_iload_n hx hb dX11_orderedHarm_2 rfl (lv_at hl 1 rfl) ?_
  refine lv_if_ne (tgt := 11) hx hb dX11_orderedHarm_3 rfl (fun c1 => ?_) (fun c1 => ?_)
  · skip
    have tn704_ : nIT i := fun _ => nI_toInt (by first | omega | (have t := neI c1; omega))
    have n2 : i ≠ 0 := by have t := neI c1; rw [show (nI (i)).toInt = ((i : Nat) : Int) from tn704_ ()] at t; have : (0 : Int32).toInt = 0 := qI_0; omega
    refine lv_aload_n hx hb dX11_orderedHarm_11 rfl (lv_at hl 0 rfl) ?_
    refine va_get (D := (dC, dI)) (ci := 11) (v := .ref st) (C := RX11) (T := TX11) (N := 35) hx hb hg inG11 hown hK.1 hP 0 rfl rfl 0 (Nat.le_of_ble_eq_true rfl) (hg _ wt_878) (fun _ h9 => h9) rfl dX11_orderedHarm_12 ?_
    refine lv_bipush (v := 38) hx hb dX11_orderedHarm_15 rfl ?_
    refine lv_iload_n hx hb dX11_orderedHarm_17 rfl (lv_at hl 1 rfl) ?_
    refine lv_iadd hx hb dX11_orderedHarm_18 ?_
    refine lv_cg (y := nI (38 + i)) (by rw [show (38 : Int32) = nI 38 from rfl]; exact nI_add _ _) ?_
    refine lv_iconst (v := 1) hx hb dX11_orderedHarm_19 rfl ?_
    refine lv_isub hx hb dX11_orderedHarm_20 ?_
    refine lv_cg (y := nI ((38 + i) - 1)) (by rw [show (1 : Int32) = nI 1 from rfl]; exact pk_sub (by have t_n2 := n2; have tnb_ := nib6 tn704_ tn699_ tn700_ tn701_ tn702_ tn703_; omega)) ?_
    refine va_iald hx hb hK.1 hP 1 0 rfl rfl (vp_in_nI (by first | omega | (have t_n2 := n2; have tnb_ := nib6 tn704_ tn699_ tn700_ tn701_ tn702_ tn703_; omega)) (by decide)) dX11_orderedHarm_21 ?_
    refine lv_cg (y := fst ((38 + i) - 1)) (by rw [nI_clamp (by omega)]) ?_
    obtain ⟨o1, ho1, eo1⟩ := ord_nat hst (q := ((38 + i) - 1)) (by omega) (by omega) (by omega)
    refine lv_cg (y := nI o1) eo1 ?_
    refine lv_aload_n hx hb dX11_orderedHarm_22 rfl (lv_at hl 0 rfl) ?_
    refine va_get (D := (dC, dI)) (ci := 11) (v := .ref st) (C := RX11) (T := TX11) (N := 35) hx hb hg inG11 hown hK.1 hP 0 rfl rfl 0 (Nat.le_of_ble_eq_true rfl) (hg _ wt_878) (fun _ h9 => h9) rfl dX11_orderedHarm_23 ?_
    refine lv_bipush (v := 38) hx hb dX11_orderedHarm_26 rfl ?_
    refine lv_iload_n hx hb dX11_orderedHarm_28 rfl (lv_at hl 1 rfl) ?_
    refine lv_iadd hx hb dX11_orderedHarm_29 ?_
    refine lv_cg (y := nI (38 + i)) (by rw [show (38 : Int32) = nI 38 from rfl]; exact nI_add _ _) ?_
    have tn705_ : nIT o1 := fun _ => nI_toInt (by first | omega | (have t_n2 := n2; have t_ho1 := ho1; omega))
    refine va_iald hx hb hK.1 hP 1 0 rfl rfl (vp_in_nI (by first | omega | (have t_n2 := n2; have t_ho1 := ho1; have tnb_ := nib7 tn704_ tn699_ tn700_ tn701_ tn702_ tn703_ tn705_; omega)) (by decide)) dX11_orderedHarm_30 ?_
    refine lv_cg (y := fst (38 + i)) (by rw [nI_clamp (by omega)]) ?_
    obtain ⟨o2, ho2, eo2⟩ := ord_nat hst (q := (38 + i)) (by omega) (by omega) (by omega)
    refine lv_cg (y := nI o2) eo2 ?_
    refine lv_iload_n hx hb dX11_orderedHarm_31 rfl (lv_at hl 2 rfl) ?_
    have hPc := hP.sub (ws' := [(h0, .inr (11, [.ref st, .int (nI N), .int (nI B), .ref rp, .int vrs, .int vrb, .int vhs, .int vca, .int vxs, .int vxb, .ref tp, .int (nI T), .int vfa, .int vbr, .int vba, .int vsp, .int vhe, .int vtk, .int vva, .ref cu, .ref lt, .ref od, .ref th, .ref be, .ref ln, .int (nI S), .ref ma, .int (nI M), .ref ah, .ref bh, .ref ik, .ref la, .ref lg, .ref ce, .int vto])), (st, .inl (G 0, 196, .inl fst))]) [0, 1] rfl
    have tn706_ : nIT o2 := fun _ => nI_toInt (by first | omega | (have t_n2 := n2; have t_ho1 := ho1; have t_ho2 := ho2; omega))
    refine va_calli (va_runV (As := [.int (nI i), .int (nI o1), .int (nI o2), .int q]) (rest := []) ⟨hx, hb, hml, hown, hg⟩ (c_X11_harmOfB l dC dI G _ h0 i o1 o2 st N B rp tp T cu lt od th be ln S ma M ah bh ik la lg ce q vrs vrb vhs vca vxs vxb vfa vbr vba vsp vhe vtk vva vto fst hN hB_ hT_ hS0 hM_ hi (by first | omega | (have t_n2 := n2; have t_ho1 := ho1; have t_ho2 := ho2; have tnb_ := nib8 tn704_ tn699_ tn700_ tn701_ tn702_ tn703_ tn705_ tn706_; omega)) (by first | omega | (have t_n2 := n2; have t_ho1 := ho1; have t_ho2 := ho2; have tnb_ := nib8 tn704_ tn699_ tn700_ tn701_ tn702_ tn703_ tn705_ tn706_; omega))) (kwV hg mfX11_harmOf wt_1106 ⟨Nat.le_of_ble_eq_true rfl, Nat.le_of_ble_eq_true rfl⟩) (preVR hK hPc (ci := 11) (r := (RX11, TX11, 35)) rfl rfl) rfl rfl hl.1 rfl (lv_room (Nat.le_of_ble_eq_true rfl)) dX11_orderedHarm_32 ⟨Nat.le_of_ble_eq_true rfl, Nat.le_of_ble_eq_true rfl⟩) hS (fun q h1 h2 => absurd h2 (Nat.not_le.mpr h1)) (fun q h => hA q (Nat.le_trans hS.1 h)) (fun r3 ur3 t H1 locs ht hvm w4 hB hz1 hk1 hS => ?_)
    have hP := keepR hP hk1
    obtain ⟨w4, w4x⟩ := w4
    subst w4
    have hpost : True := by
      trivial
    refine W.widen (k := 0) (n := 0) (Nat.le_of_ble_eq_true rfl) (Nat.le_of_ble_eq_true rfl) ?_
    exact W.iret (v := rhB fst i o1 o2 q) hx hb hr (fun t ht hW => ⟨⟨rhB fst i o1 o2 q, (), rfl, ⟨hpost, trivial⟩, trivial⟩, hS.F ht⟩) hS.2.2 dX11_orderedHarm_35
  · skip
    have tn707_ : nIT i := fun _ => nI_toInt (by first | omega | (have t := eqI c1; omega))
    have n5 : i = 0 := by have t := eqI c1; rw [show (nI (i)).toInt = ((i : Nat) : Int) from tn707_ ()] at t; have : (0 : Int32).toInt = 0 := qI_0; omega
    refine lv_bipush (v := (-4)) hx hb dX11_orderedHarm_6 rfl ?_
    refine lv_goto (tgt := 22) hx hb dX11_orderedHarm_8 rfl ?_
    refine lv_aload_n hx hb dX11_orderedHarm_22 rfl (lv_at hl 0 rfl) ?_
    refine va_get (D := (dC, dI)) (ci := 11) (v := .ref st) (C := RX11) (T := TX11) (N := 35) hx hb hg inG11 hown hK.1 hP 0 rfl rfl 0 (Nat.le_of_ble_eq_true rfl) (hg _ wt_878) (fun _ h9 => h9) rfl dX11_orderedHarm_23 ?_
    refine lv_bipush (v := 38) hx hb dX11_orderedHarm_26 rfl ?_
    refine lv_iload_n hx hb dX11_orderedHarm_28 rfl (lv_at hl 1 rfl) ?_
    refine lv_iadd hx hb dX11_orderedHarm_29 ?_
    refine lv_cg (y := nI (38 + i)) (by rw [show (38 : Int32) = nI 38 from rfl]; exact nI_add _ _) ?_
    refine va_iald hx hb hK.1 hP 1 0 rfl rfl (vp_in_nI (by first | omega | (have t_n5 := n5; have tnb_ := nib6 tn707_ tn699_ tn700_ tn701_ tn702_ tn703_; omega)) (by decide)) dX11_orderedHarm_30 ?_
    refine lv_cg (y := fst (38 + i)) (by rw [nI_clamp (by omega)]) ?_
    obtain ⟨o2, ho2, eo2⟩ := ord_nat hst (q := (38 + i)) (by omega) (by omega) (by omega)
    refine lv_cg (y := nI o2) eo2 ?_
    refine lv_iload_n hx hb dX11_orderedHarm_31 rfl (lv_at hl 2 rfl) ?_
    have hPc := hP.sub (ws' := [(h0, .inr (11, [.ref st, .int (nI N), .int (nI B), .ref rp, .int vrs, .int vrb, .int vhs, .int vca, .int vxs, .int vxb, .ref tp, .int (nI T), .int vfa, .int vbr, .int vba, .int vsp, .int vhe, .int vtk, .int vva, .ref cu, .ref lt, .ref od, .ref th, .ref be, .ref ln, .int (nI S), .ref ma, .int (nI M), .ref ah, .ref bh, .ref ik, .ref la, .ref lg, .ref ce, .int vto])), (st, .inl (G 0, 196, .inl fst))]) [0, 1] rfl
    have tn708_ : nIT o2 := fun _ => nI_toInt (by first | omega | (have t_n5 := n5; have t_ho2 := ho2; omega))
    refine va_calli (va_runV (As := [.int (nI i), .int (-4), .int (nI o2), .int q]) (rest := []) ⟨hx, hb, hml, hown, hg⟩ (c_X11_harmOfN l dC dI G _ h0 i o2 st N B rp tp T cu lt od th be ln S ma M ah bh ik la lg ce q vrs vrb vhs vca vxs vxb vfa vbr vba vsp vhe vtk vva vto fst hN hB_ hT_ hS0 hM_ hi (by first | omega | (have t_n5 := n5; have t_ho2 := ho2; have tnb_ := nib7 tn707_ tn699_ tn700_ tn701_ tn702_ tn703_ tn708_; have : ((-4) : Int32).toInt = -4 := qI_m4; omega))) (kwV hg mfX11_harmOf wt_1106 ⟨Nat.le_of_ble_eq_true rfl, Nat.le_of_ble_eq_true rfl⟩) (preVR hK hPc (ci := 11) (r := (RX11, TX11, 35)) rfl rfl) rfl rfl hl.1 rfl (lv_room (Nat.le_of_ble_eq_true rfl)) dX11_orderedHarm_32 ⟨Nat.le_of_ble_eq_true rfl, Nat.le_of_ble_eq_true rfl⟩) hS (fun q h1 h2 => absurd h2 (Nat.not_le.mpr h1)) (fun q h => hA q (Nat.le_trans hS.1 h)) (fun r6 ur6 t H1 locs ht hvm w7 hB hz1 hk1 hS => ?_)
    have hP := keepR hP hk1
    obtain ⟨w7, w7x⟩ := w7
    subst w7
    have hpost : True := by
      trivial
    refine W.widen (k := 0) (n := 0) (Nat.le_of_ble_eq_true rfl) (Nat.le_of_ble_eq_true rfl) ?_
    exact W.iret (v := rhN fst i o2 q) hx hb hr (fun t ht hW => ⟨⟨rhN fst i o2 q, (), rfl, ⟨hpost, trivial⟩, trivial⟩, hS.F ht⟩) hS.2.2 dX11_orderedHarm_35

set_option maxHeartbeats 1000000 in
set_option maxRecDepth 100000 in
theorem c_X11_power (l : Launch) (dC : Nat → ClassId) (dI : Nat → Nat → Nat) (G : Nat → ClassId) (sz : Nat) (nn : Nat) (hnn : nn ≤ 10) : Met l yX11_power (Cond.code yX11_power cX11_power 4 (some .long) :: GT) ({ frames := 0, cells := 0, slots := 0, locals := 0 } : Room) (PcR [.int (nI nn)] dC dI G [] sz) (va_Ql (fun (r : Int64) (u : Unit) => match u with | _ => (r = powF nn) ∧ True) (fun _ _ => True) (fun q : Nat => sz ≤ q)) 0 0 (fun q : Nat => sz ≤ q) := by
  refine Met.ofW (cc := cX11_power) (maxL := 4) (ret := (some .long)) (by decide) rfl ?_
  intro p e s m args below meth c s₁ Bd hml hv
  obtain ⟨rfl, hsz, hP, hK⟩ := hv
  have hx := Bd.exec
  have hb := Bd.bytes
  have hr := Bd.returns
  have hg : ∀ w ∈ GT, w.before ([.int (nI nn)] : List Value).toArray s = true := fun w h => atoms_spec (ws := Cond.code yX11_power cX11_power 4 (some .long) :: GT) Bd.pre w (List.mem_cons_of_mem _ h)
  have hown : s.vm.findClass RX11 = some m.cls := findClass_of_methodNamed Bd.named
  have hlocks := Bd.notSynchronized
  subst hsz
  have hA : ∀ q : Nat, s.heap.size ≤ q → (fun q : Nat => s.heap.size ≤ q) q := fun _ h => h
  have hS : va_S (fun q : Nat => s.heap.size ≤ q) s.heap s.heap [] := va_S.rf
  have hl := lv_entry ([.int (nI nn)]) (n := 4) (Nat.le_of_ble_eq_true rfl)
  rw [lg_entry_eq]
  generalize (lg_sl ([.int (nI nn)]) ++ List.replicate (4 - (lg_sl ([.int (nI nn)])).length) Slot.unset).toArray = ls at hl ⊢
  have hl : lv_has ls 4 [(0, .int (nI nn))] := hl
  refine lv_lconst (v := 1) hx hb dX11_power_0 (by decide) ?_
  refine lv_lstore_n (lv' := [(1, .long 1), (0, .int (nI nn))]) hx hb dX11_power_1 rfl hl (by decide) rfl (fun ls hl => ?_)
  refine lv_iconst (v := 0) hx hb dX11_power_2 rfl ?_
  refine lv_istore_n (lv' := [(3, .int 0), (1, .long 1), (0, .int (nI nn))]) hx hb dX11_power_3 rfl hl (by decide) rfl (fun ls hl => ?_)
  have loop4_3 : ∀ (nf j1 : Nat), nn + 1 ≤ j1 + nf → j1 ≤ nn → ∀ (y2 : Int64) (H : Heap) (locs : List Loc), y2 = powF j1 → va_P (dC, dI) vwCl [] H → va_S (fun q : Nat => s.heap.size ≤ q) s.heap H locs → ∀ (ls : Array Slot), lv_has ls 4 [(3, .int (nI j1)), (1, .long y2), (0, .int (nI nn))] → W p l e (headSpec (Cond.code yX11_power cX11_power 4 (some .long) :: GT) ({ frames := 0, cells := 0, slots := 0, locals := 0 } : Room)).room s m ([.int (nI nn)] : List Value).toArray below meth c H locs 0 0 (MQ below (va_Ql (fun (r : Int64) (u : Unit) => match u with | _ => (r = powF nn) ∧ True) (fun _ _ => True) (fun q : Nat => s.heap.size ≤ q)) ([.int (nI nn)] : List Value).toArray s 0 0 (fun q : Nat => s.heap.size ≤ q)) (F0 m 4 ls []) := by
    intro nf
    induction nf with
    | zero => intro j1 h1 h2; exact absurd h1 (by omega)
    | succ nf ih4_3 =>
      intro j1 hn4 hj5 y2 H locs hinv hP hS ls hl
      refine lv_iload_n hx hb dX11_power_4 rfl (lv_at hl 0 rfl) ?_
      refine lv_iload_n hx hb dX11_power_5 rfl (lv_at hl 2 rfl) ?_
      refine lv_icmp_ge (tgt := 21) hx hb dX11_power_6 rfl (fun c6 => ?_) (fun c6 => ?_)
      · skip
        have tn709_ : nIT j1 := fun _ => nI_toInt (by first | omega | (have t := leI c6; omega))
        have tn710_ : nIT nn := fun _ => nI_toInt (by omega)
        have n7 : nn ≤ j1 := by have t := leI c6; rw [show (nI (j1)).toInt = ((j1 : Nat) : Int) from tn709_ ()] at t; rw [show (nI (nn)).toInt = ((nn : Nat) : Int) from tn710_ ()] at t; omega
        refine lv_lload_n hx hb dX11_power_21 rfl (lv_at hl 1 rfl) ?_
        have hpost : (y2 : Int64) = powF nn := by
          rw [hinv, show j1 = nn from (by omega)]
        refine W.widen (k := 0) (n := 0) (Nat.le_of_ble_eq_true rfl) (Nat.le_of_ble_eq_true rfl) ?_
        exact W.lret (v := y2) hx hb hr (fun t ht hW => ⟨⟨y2, (), rfl, ⟨hpost, trivial⟩, trivial⟩, hS.F ht⟩) hS.2.2 dX11_power_22
      · skip
        have tn711_ : nIT j1 := fun _ => nI_toInt (by first | omega | (have t := nleI c6; omega))
        have tn712_ : nIT nn := fun _ => nI_toInt (by omega)
        have n8 : j1 < nn := by have t := nleI c6; rw [show (nI (j1)).toInt = ((j1 : Nat) : Int) from tn711_ ()] at t; rw [show (nI (nn)).toInt = ((nn : Nat) : Int) from tn712_ ()] at t; omega
        refine lv_lload_n hx hb dX11_power_9 rfl (lv_at hl 1 rfl) ?_
        refine lv_ldc2 (v := 20) hx hb hown (hg _ wt_1127) dX11_power_10 ?_
        refine lv_lmul hx hb dX11_power_13 ?_
        refine lv_lstore_n (lv' := [(1, .long (y2 * 20)), (3, .int (nI j1)), (0, .int (nI nn))]) hx hb dX11_power_14 rfl hl (by decide) rfl (fun ls hl => ?_)
        refine lv_iinc (v := nI (j1 + 1)) (lv' := [(3, .int (nI (j1 + 1))), (1, .long (y2 * 20)), (0, .int (nI nn))]) hx hb dX11_power_15 hl (k := 1) rfl (by rw [show Int32.ofInt 1 = nI 1 from by decide]; exact nI_add _ _) (by decide) rfl (fun ls hl => ?_)
        refine lv_goto (tgt := 4) hx hb dX11_power_18 rfl ?_
        exact ih4_3 (j1 + 1) (by omega) (by omega) (y2 * 20) _ _ (by rw [hinv]; rfl) hP hS ls (lv_sub hl [0, 1, 2] rfl)
  exact loop4_3 (nn + 1) 0 (by omega) (by omega) 1 _ _ rfl hP hS ls (lv_sub hl [0, 1, 2] rfl)

set_option maxHeartbeats 1000000 in
set_option maxRecDepth 100000 in
theorem c_X11_deeper (l : Launch) (dC : Nat → ClassId) (dI : Nat → Nat → Nat) (G : Nat → ClassId) (sz : Nat) (x1 x2 : Nat) (hx1 : x1 ≤ 9) (hx2 : x2 ≤ 2) : Met l yX11_deeper (Cond.code yX11_deeper cX11_deeper 2 (some .int) :: GT) ({ frames := 0, cells := 0, slots := 0, locals := 0 } : Room) (PcR [.int (nI x1), .int (nI x2)] dC dI G [] sz) (va_Qi (fun (r : Int32) (u : Unit) => match u with | _ => (r = nI (min 9 (x1 + x2))) ∧ True) (fun _ _ => True) (fun q : Nat => sz ≤ q)) 0 0 (fun q : Nat => sz ≤ q) := by
  refine Met.ofW (cc := cX11_deeper) (maxL := 2) (ret := (some .int)) (by decide) rfl ?_
  intro p e s m args below meth c s₁ Bd hml hv
  obtain ⟨rfl, hsz, hP, hK⟩ := hv
  have hx := Bd.exec
  have hb := Bd.bytes
  have hr := Bd.returns
  have hg : ∀ w ∈ GT, w.before ([.int (nI x1), .int (nI x2)] : List Value).toArray s = true := fun w h => atoms_spec (ws := Cond.code yX11_deeper cX11_deeper 2 (some .int) :: GT) Bd.pre w (List.mem_cons_of_mem _ h)
  have hown : s.vm.findClass RX11 = some m.cls := findClass_of_methodNamed Bd.named
  have hlocks := Bd.notSynchronized
  subst hsz
  have hA : ∀ q : Nat, s.heap.size ≤ q → (fun q : Nat => s.heap.size ≤ q) q := fun _ h => h
  have hS : va_S (fun q : Nat => s.heap.size ≤ q) s.heap s.heap [] := va_S.rf
  have hl := lv_entry ([.int (nI x1), .int (nI x2)]) (n := 2) (Nat.le_of_ble_eq_true rfl)
  rw [lg_entry_eq]
  generalize (lg_sl ([.int (nI x1), .int (nI x2)]) ++ List.replicate (2 - (lg_sl ([.int (nI x1), .int (nI x2)])).length) Slot.unset).toArray = ls at hl ⊢
  have hl : lv_has ls 2 [(0, .int (nI x1)), (1, .int (nI x2))] := hl
  refine lv_iload_n hx hb dX11_deeper_0 rfl (lv_at hl 0 rfl) ?_
  refine lv_iload_n hx hb dX11_deeper_1 rfl (lv_at hl 1 rfl) ?_
  refine lv_iadd hx hb dX11_deeper_2 ?_
  refine lv_cg (y := nI (x1 + x2)) (by exact nI_add _ _) ?_
  refine lv_bipush (v := 9) hx hb dX11_deeper_3 rfl ?_
  refine lv_icmp_le (tgt := 13) hx hb dX11_deeper_5 rfl (fun c1 => ?_) (fun c1 => ?_)
  · skip
    have tn713_ : nIT (x1 + x2) := fun _ => nI_toInt (by first | omega | (have t := leI c1; omega))
    have n2 : (x1 + x2) ≤ 9 := by have t := leI c1; rw [show (nI (x1 + x2)).toInt = ((x1 + x2 : Nat) : Int) from tn713_ ()] at t; have : (9 : Int32).toInt = 9 := qI_9; omega
    refine lv_iload_n hx hb dX11_deeper_13 rfl (lv_at hl 0 rfl) ?_
    refine lv_iload_n hx hb dX11_deeper_14 rfl (lv_at hl 1 rfl) ?_
    refine lv_iadd hx hb dX11_deeper_15 ?_
    refine lv_cg (y := nI (x1 + x2)) (by exact nI_add _ _) ?_
    have hpost : (nI (x1 + x2) : Int32) = nI (min 9 (x1 + x2)) := by
      have t_n2 := n2
      have tn714_ : nIT x1 := fun _ => nI_toInt (by omega)
      have t_n0 : (nI x1).toInt = (x1 : Int) := tn714_ ()
      have tn715_ : nIT x2 := fun _ => nI_toInt (by omega)
      have t_n1 : (nI x2).toInt = (x2 : Int) := tn715_ ()
      rw [show min 9 (x1 + x2) = x1 + x2 from (by omega)]
    refine W.widen (k := 0) (n := 0) (Nat.le_of_ble_eq_true rfl) (Nat.le_of_ble_eq_true rfl) ?_
    exact W.iret (v := nI (x1 + x2)) hx hb hr (fun t ht hW => ⟨⟨nI (x1 + x2), (), rfl, ⟨hpost, trivial⟩, trivial⟩, hS.F ht⟩) hS.2.2 dX11_deeper_16
  · skip
    have tn716_ : nIT (x1 + x2) := fun _ => nI_toInt (by first | omega | (have t := nleI c1; omega))
    have n3 : 9 < (x1 + x2) := by have t := nleI c1; rw [show (nI (x1 + x2)).toInt = ((x1 + x2 : Nat) : Int) from tn716_ ()] at t; have : (9 : Int32).toInt = 9 := qI_9; omega
    refine lv_bipush (v := 9) hx hb dX11_deeper_8 rfl ?_
    refine lv_goto (tgt := 16) hx hb dX11_deeper_10 rfl ?_
    have hpost : (9 : Int32) = nI (min 9 (x1 + x2)) := by
      have t_n3 := n3
      have tn717_ : nIT x1 := fun _ => nI_toInt (by omega)
      have t_n0 : (nI x1).toInt = (x1 : Int) := tn717_ ()
      have tn718_ : nIT x2 := fun _ => nI_toInt (by omega)
      have t_n1 : (nI x2).toInt = (x2 : Int) := tn718_ ()
      rw [show min 9 (x1 + x2) = 9 from (by omega)]; rfl
    refine W.widen (k := 0) (n := 0) (Nat.le_of_ble_eq_true rfl) (Nat.le_of_ble_eq_true rfl) ?_
    exact W.iret (v := 9) hx hb hr (fun t ht hW => ⟨⟨9, (), rfl, ⟨hpost, trivial⟩, trivial⟩, hS.F ht⟩) hS.2.2 dX11_deeper_16

set_option maxHeartbeats 1000000 in
set_option maxRecDepth 100000 in
theorem c_X11_layOdds (l : Launch) (dC : Nat → ClassId) (dI : Nat → Nat → Nat) (G : Nat → ClassId) (sz : Nat) (h0 nn st N B rp tp T cu lt od th be ln S ma M ah bh ik la lg ce : Nat) (x1 x2 vrs vrb vhs vca vxs vxb vfa vbr vba vsp vhe vtk vva vto : Int32) (fst : Nat → Int32) (fod : Nat → Int64) (fth : Nat → Int64) (hN : N ≤ 10) (hB : B ≤ 6) (hT : T ≤ 320) (hS0 : S ≤ 8) (hM : M ≤ 6) (hst : OKS fst) (hnn : nn ≤ 10) : Met l yX11_layOdds (Cond.code yX11_layOdds cX11_layOdds 8 none :: GT) ({ frames := 3, cells := 0, slots := 0, locals := 72 } : Room) (PcW [.ref h0, .int (nI nn), .int x1, .int x2] dC dI G [(h0, .inr (11, [.ref st, .int (nI N), .int (nI B), .ref rp, .int vrs, .int vrb, .int vhs, .int vca, .int vxs, .int vxb, .ref tp, .int (nI T), .int vfa, .int vbr, .int vba, .int vsp, .int vhe, .int vtk, .int vva, .ref cu, .ref lt, .ref od, .ref th, .ref be, .ref ln, .int (nI S), .ref ma, .int (nI M), .ref ah, .ref bh, .ref ik, .ref la, .ref lg, .ref ce, .int vto])), (st, .inl (G 0, 196, .inl fst)), (od, .inl (G 1, 10, .inr (.inl fod))), (th, .inl (G 1, 10, .inr (.inl fth)))] sz) (va_Qv (fun (u : (Nat → Int64) × (Nat → Int64)) => match u with | (ood, oth) => True) (fun (u : (Nat → Int64) × (Nat → Int64)) (t : State) => match u with | (ood, oth) => va_P (dC, dI) vwCl [(h0, .inr (11, [.ref st, .int (nI N), .int (nI B), .ref rp, .int vrs, .int vrb, .int vhs, .int vca, .int vxs, .int vxb, .ref tp, .int (nI T), .int vfa, .int vbr, .int vba, .int vsp, .int vhe, .int vtk, .int vva, .ref cu, .ref lt, .ref od, .ref th, .ref be, .ref ln, .int (nI S), .ref ma, .int (nI M), .ref ah, .ref bh, .ref ik, .ref la, .ref lg, .ref ce, .int vto])), (st, .inl (G 0, 196, .inl fst)), (od, .inl (G 1, 10, .inr (.inl ood))), (th, .inl (G 1, 10, .inr (.inl oth)))] t.heap ∧ va_D (va_A [(h0, .inr (11, [.ref st, .int (nI N), .int (nI B), .ref rp, .int vrs, .int vrb, .int vhs, .int vca, .int vxs, .int vxb, .ref tp, .int (nI T), .int vfa, .int vbr, .int vba, .int vsp, .int vhe, .int vtk, .int vva, .ref cu, .ref lt, .ref od, .ref th, .ref be, .ref ln, .int (nI S), .ref ma, .int (nI M), .ref ah, .ref bh, .ref ik, .ref la, .ref lg, .ref ce, .int vto])), (st, .inl (G 0, 196, .inl fst)), (od, .inl (G 1, 10, .inr (.inl fod))), (th, .inl (G 1, 10, .inr (.inl fth)))] sz) [(h0, .inr (11, [.ref st, .int (nI N), .int (nI B), .ref rp, .int vrs, .int vrb, .int vhs, .int vca, .int vxs, .int vxb, .ref tp, .int (nI T), .int vfa, .int vbr, .int vba, .int vsp, .int vhe, .int vtk, .int vva, .ref cu, .ref lt, .ref od, .ref th, .ref be, .ref ln, .int (nI S), .ref ma, .int (nI M), .ref ah, .ref bh, .ref ik, .ref la, .ref lg, .ref ce, .int vto])), (st, .inl (G 0, 196, .inl fst)), (od, .inl (G 1, 10, .inr (.inl ood))), (th, .inl (G 1, 10, .inr (.inl oth)))]) (va_A [(h0, .inr (11, [.ref st, .int (nI N), .int (nI B), .ref rp, .int vrs, .int vrb, .int vhs, .int vca, .int vxs, .int vxb, .ref tp, .int (nI T), .int vfa, .int vbr, .int vba, .int vsp, .int vhe, .int vtk, .int vva, .ref cu, .ref lt, .ref od, .ref th, .ref be, .ref ln, .int (nI S), .ref ma, .int (nI M), .ref ah, .ref bh, .ref ik, .ref la, .ref lg, .ref ce, .int vto])), (st, .inl (G 0, 196, .inl fst)), (od, .inl (G 1, 10, .inr (.inl fod))), (th, .inl (G 1, 10, .inr (.inl fth)))] sz)) 0 0 (va_A [(h0, .inr (11, [.ref st, .int (nI N), .int (nI B), .ref rp, .int vrs, .int vrb, .int vhs, .int vca, .int vxs, .int vxb, .ref tp, .int (nI T), .int vfa, .int vbr, .int vba, .int vsp, .int vhe, .int vtk, .int vva, .ref cu, .ref lt, .ref od, .ref th, .ref be, .ref ln, .int (nI S), .ref ma, .int (nI M), .ref ah, .ref bh, .ref ik, .ref la, .ref lg, .ref ce, .int vto])), (st, .inl (G 0, 196, .inl fst)), (od, .inl (G 1, 10, .inr (.inl fod))), (th, .inl (G 1, 10, .inr (.inl fth)))] sz) := by
  have hB_ := hB
  have hM_ := hM
  have hT_ := hT
  have tn719_ : nIT N := fun _ => nI_toInt (by omega)
  have tn720_ : nIT B := fun _ => nI_toInt (by omega)
  have tn721_ : nIT T := fun _ => nI_toInt (by omega)
  have tn722_ : nIT S := fun _ => nI_toInt (by omega)
  have tn723_ : nIT M := fun _ => nI_toInt (by omega)
  refine Met.ofW (cc := cX11_layOdds) (maxL := 8) (ret := none) (by decide) rfl ?_
  intro p e s m args below meth c s₁ Bd hml hv
  obtain ⟨rfl, hsz, hP, hK, hD0⟩ := hv
  have hx := Bd.exec
  have hb := Bd.bytes
  have hr := Bd.returns
  have hg : ∀ w ∈ GT, w.before ([.ref h0, .int (nI nn), .int x1, .int x2] : List Value).toArray s = true := fun w h => atoms_spec (ws := Cond.code yX11_layOdds cX11_layOdds 8 none :: GT) Bd.pre w (List.mem_cons_of_mem _ h)
  have hown : s.vm.findClass RX11 = some m.cls := findClass_of_methodNamed Bd.named
  have hlocks := Bd.notSynchronized
  subst hsz
  have hD := hD0.self (sz := s.heap.size)
  generalize hAe : va_A [(h0, .inr (11, [.ref st, .int (nI N), .int (nI B), .ref rp, .int vrs, .int vrb, .int vhs, .int vca, .int vxs, .int vxb, .ref tp, .int (nI T), .int vfa, .int vbr, .int vba, .int vsp, .int vhe, .int vtk, .int vva, .ref cu, .ref lt, .ref od, .ref th, .ref be, .ref ln, .int (nI S), .ref ma, .int (nI M), .ref ah, .ref bh, .ref ik, .ref la, .ref lg, .ref ce, .int vto])), (st, .inl (G 0, 196, .inl fst)), (od, .inl (G 1, 10, .inr (.inl fod))), (th, .inl (G 1, 10, .inr (.inl fth)))] s.heap.size = A at hD ⊢
  have hA : ∀ q : Nat, s.heap.size ≤ q → A q := fun q h => by rw [← hAe]; exact Or.inr h
  have hS : va_S A s.heap s.heap [] := va_S.rf
  have hl := lv_entry ([.ref h0, .int (nI nn), .int x1, .int x2]) (n := 8) (Nat.le_of_ble_eq_true rfl)
  rw [lg_entry_eq]
  generalize (lg_sl ([.ref h0, .int (nI nn), .int x1, .int x2]) ++ List.replicate (8 - (lg_sl ([.ref h0, .int (nI nn), .int x1, .int x2])).length) Slot.unset).toArray = ls at hl ⊢
  have hl : lv_has ls 8 [(0, .ref h0), (1, .int (nI nn)), (2, .int x1), (3, .int x2)] := hl
  refine lv_iconst (v := 0) hx hb dX11_layOdds_0 rfl ?_
  refine lv_istore (lv' := [(4, .int 0), (0, .ref h0), (1, .int (nI nn)), (2, .int x1), (3, .int x2)]) hx hb dX11_layOdds_1 hl (by decide) rfl (fun ls hl => ?_)
  have loop3_3 : ∀ (nf j1 : Nat), 10 + 1 ≤ j1 + nf → j1 ≤ 10 → ∀ (g2 : Nat → Int64) (H : Heap) (locs : List Loc), va_P (dC, dI) vwCl [(h0, .inr (11, [.ref st, .int (nI N), .int (nI B), .ref rp, .int vrs, .int vrb, .int vhs, .int vca, .int vxs, .int vxb, .ref tp, .int (nI T), .int vfa, .int vbr, .int vba, .int vsp, .int vhe, .int vtk, .int vva, .ref cu, .ref lt, .ref od, .ref th, .ref be, .ref ln, .int (nI S), .ref ma, .int (nI M), .ref ah, .ref bh, .ref ik, .ref la, .ref lg, .ref ce, .int vto])), (st, .inl (G 0, 196, .inl fst)), (od, .inl (G 1, 10, .inr (.inl g2))), (th, .inl (G 1, 10, .inr (.inl fth)))] H → va_D A [(h0, .inr (11, [.ref st, .int (nI N), .int (nI B), .ref rp, .int vrs, .int vrb, .int vhs, .int vca, .int vxs, .int vxb, .ref tp, .int (nI T), .int vfa, .int vbr, .int vba, .int vsp, .int vhe, .int vtk, .int vva, .ref cu, .ref lt, .ref od, .ref th, .ref be, .ref ln, .int (nI S), .ref ma, .int (nI M), .ref ah, .ref bh, .ref ik, .ref la, .ref lg, .ref ce, .int vto])), (st, .inl (G 0, 196, .inl fst)), (od, .inl (G 1, 10, .inr (.inl g2))), (th, .inl (G 1, 10, .inr (.inl fth)))] → va_S A s.heap H locs → ∀ (ls : Array Slot), lv_has ls 8 [(4, .int (nI j1)), (0, .ref h0), (1, .int (nI nn)), (2, .int x1), (3, .int x2)] → W p l e (headSpec (Cond.code yX11_layOdds cX11_layOdds 8 none :: GT) ({ frames := 3, cells := 0, slots := 0, locals := 72 } : Room)).room s m ([.ref h0, .int (nI nn), .int x1, .int x2] : List Value).toArray below meth c H locs 0 0 (MQ below (va_Qv (fun (u : (Nat → Int64) × (Nat → Int64)) => match u with | (ood, oth) => True) (fun (u : (Nat → Int64) × (Nat → Int64)) (t : State) => match u with | (ood, oth) => va_P (dC, dI) vwCl [(h0, .inr (11, [.ref st, .int (nI N), .int (nI B), .ref rp, .int vrs, .int vrb, .int vhs, .int vca, .int vxs, .int vxb, .ref tp, .int (nI T), .int vfa, .int vbr, .int vba, .int vsp, .int vhe, .int vtk, .int vva, .ref cu, .ref lt, .ref od, .ref th, .ref be, .ref ln, .int (nI S), .ref ma, .int (nI M), .ref ah, .ref bh, .ref ik, .ref la, .ref lg, .ref ce, .int vto])), (st, .inl (G 0, 196, .inl fst)), (od, .inl (G 1, 10, .inr (.inl ood))), (th, .inl (G 1, 10, .inr (.inl oth)))] t.heap ∧ va_D A [(h0, .inr (11, [.ref st, .int (nI N), .int (nI B), .ref rp, .int vrs, .int vrb, .int vhs, .int vca, .int vxs, .int vxb, .ref tp, .int (nI T), .int vfa, .int vbr, .int vba, .int vsp, .int vhe, .int vtk, .int vva, .ref cu, .ref lt, .ref od, .ref th, .ref be, .ref ln, .int (nI S), .ref ma, .int (nI M), .ref ah, .ref bh, .ref ik, .ref la, .ref lg, .ref ce, .int vto])), (st, .inl (G 0, 196, .inl fst)), (od, .inl (G 1, 10, .inr (.inl ood))), (th, .inl (G 1, 10, .inr (.inl oth)))]) A) ([.ref h0, .int (nI nn), .int x1, .int x2] : List Value).toArray s 0 0 A) (F0 m 3 ls []) := by
    intro nf
    induction nf with
    | zero => intro j1 h1 h2; exact absurd h1 (by omega)
    | succ nf ih3_3 =>
      intro j1 hn4 hj5 g2 H locs hP hD hS ls hl
      refine lv_iload hx hb dX11_layOdds_3 (lv_at hl 0 rfl) ?_
      refine lv_bipush (v := 10) hx hb dX11_layOdds_5 rfl ?_
      refine lv_icmp_ge (tgt := 37) hx hb dX11_layOdds_7 rfl (fun c6 => ?_) (fun c6 => ?_)
      · skip
        have tn724_ : nIT j1 := fun _ => nI_toInt (by first | omega | (have t := leI c6; omega))
        have n7 : 10 ≤ j1 := by have t := leI c6; rw [show (nI (j1)).toInt = ((j1 : Nat) : Int) from tn724_ ()] at t; have : (10 : Int32).toInt = 10 := qI_10; omega
        refine lv_iconst (v := 0) hx hb dX11_layOdds_37 rfl ?_
        refine lv_istore (lv' := [(4, .int 0), (0, .ref h0), (1, .int (nI nn)), (2, .int x1), (3, .int x2)]) hx hb dX11_layOdds_38 hl (by decide) rfl (fun ls hl => ?_)
        have loop40_11 : ∀ (nf j8 : Nat), nn + 1 ≤ j8 + nf → j8 ≤ nn → ∀ (g9 : Nat → Int64) (g10 : Nat → Int64) (H : Heap) (locs : List Loc), va_P (dC, dI) vwCl [(h0, .inr (11, [.ref st, .int (nI N), .int (nI B), .ref rp, .int vrs, .int vrb, .int vhs, .int vca, .int vxs, .int vxb, .ref tp, .int (nI T), .int vfa, .int vbr, .int vba, .int vsp, .int vhe, .int vtk, .int vva, .ref cu, .ref lt, .ref od, .ref th, .ref be, .ref ln, .int (nI S), .ref ma, .int (nI M), .ref ah, .ref bh, .ref ik, .ref la, .ref lg, .ref ce, .int vto])), (st, .inl (G 0, 196, .inl fst)), (od, .inl (G 1, 10, .inr (.inl g9))), (th, .inl (G 1, 10, .inr (.inl g10)))] H → va_D A [(h0, .inr (11, [.ref st, .int (nI N), .int (nI B), .ref rp, .int vrs, .int vrb, .int vhs, .int vca, .int vxs, .int vxb, .ref tp, .int (nI T), .int vfa, .int vbr, .int vba, .int vsp, .int vhe, .int vtk, .int vva, .ref cu, .ref lt, .ref od, .ref th, .ref be, .ref ln, .int (nI S), .ref ma, .int (nI M), .ref ah, .ref bh, .ref ik, .ref la, .ref lg, .ref ce, .int vto])), (st, .inl (G 0, 196, .inl fst)), (od, .inl (G 1, 10, .inr (.inl g9))), (th, .inl (G 1, 10, .inr (.inl g10)))] → va_S A s.heap H locs → ∀ (ls : Array Slot), lv_has ls 8 [(4, .int (nI j8)), (0, .ref h0), (1, .int (nI nn)), (2, .int x1), (3, .int x2)] → W p l e (headSpec (Cond.code yX11_layOdds cX11_layOdds 8 none :: GT) ({ frames := 3, cells := 0, slots := 0, locals := 72 } : Room)).room s m ([.ref h0, .int (nI nn), .int x1, .int x2] : List Value).toArray below meth c H locs 0 0 (MQ below (va_Qv (fun (u : (Nat → Int64) × (Nat → Int64)) => match u with | (ood, oth) => True) (fun (u : (Nat → Int64) × (Nat → Int64)) (t : State) => match u with | (ood, oth) => va_P (dC, dI) vwCl [(h0, .inr (11, [.ref st, .int (nI N), .int (nI B), .ref rp, .int vrs, .int vrb, .int vhs, .int vca, .int vxs, .int vxb, .ref tp, .int (nI T), .int vfa, .int vbr, .int vba, .int vsp, .int vhe, .int vtk, .int vva, .ref cu, .ref lt, .ref od, .ref th, .ref be, .ref ln, .int (nI S), .ref ma, .int (nI M), .ref ah, .ref bh, .ref ik, .ref la, .ref lg, .ref ce, .int vto])), (st, .inl (G 0, 196, .inl fst)), (od, .inl (G 1, 10, .inr (.inl ood))), (th, .inl (G 1, 10, .inr (.inl oth)))] t.heap ∧ va_D A [(h0, .inr (11, [.ref st, .int (nI N), .int (nI B), .ref rp, .int vrs, .int vrb, .int vhs, .int vca, .int vxs, .int vxb, .ref tp, .int (nI T), .int vfa, .int vbr, .int vba, .int vsp, .int vhe, .int vtk, .int vva, .ref cu, .ref lt, .ref od, .ref th, .ref be, .ref ln, .int (nI S), .ref ma, .int (nI M), .ref ah, .ref bh, .ref ik, .ref la, .ref lg, .ref ce, .int vto])), (st, .inl (G 0, 196, .inl fst)), (od, .inl (G 1, 10, .inr (.inl ood))), (th, .inl (G 1, 10, .inr (.inl oth)))]) A) ([.ref h0, .int (nI nn), .int x1, .int x2] : List Value).toArray s 0 0 A) (F0 m 40 ls []) := by
          intro nf
          induction nf with
          | zero => intro j8 h1 h2; exact absurd h1 (by omega)
          | succ nf ih40_11 =>
            intro j8 hn12 hj13 g9 g10 H locs hP hD hS ls hl
            refine lv_iload hx hb dX11_layOdds_40 (lv_at hl 0 rfl) ?_
            refine lv_iload_n hx hb dX11_layOdds_42 rfl (lv_at hl 2 rfl) ?_
            refine lv_icmp_ge (tgt := 231) hx hb dX11_layOdds_43 rfl (fun c14 => ?_) (fun c14 => ?_)
            · skip
              have tn725_ : nIT j8 := fun _ => nI_toInt (by first | omega | (have t := leI c14; omega))
              have tn726_ : nIT nn := fun _ => nI_toInt (by omega)
              have n15 : nn ≤ j8 := by have t := leI c14; rw [show (nI (j8)).toInt = ((j8 : Nat) : Int) from tn725_ ()] at t; rw [show (nI (nn)).toInt = ((nn : Nat) : Int) from tn726_ ()] at t; omega
              obtain ⟨hP9, hD9⟩ := va_sub2 (ws' := [(h0, .inr (11, [.ref st, .int (nI N), .int (nI B), .ref rp, .int vrs, .int vrb, .int vhs, .int vca, .int vxs, .int vxb, .ref tp, .int (nI T), .int vfa, .int vbr, .int vba, .int vsp, .int vhe, .int vtk, .int vva, .ref cu, .ref lt, .ref od, .ref th, .ref be, .ref ln, .int (nI S), .ref ma, .int (nI M), .ref ah, .ref bh, .ref ik, .ref la, .ref lg, .ref ce, .int vto])), (st, .inl (G 0, 196, .inl fst)), (od, .inl (G 1, 10, .inr (.inl g9))), (th, .inl (G 1, 10, .inr (.inl g10)))]) hP hD [0, 1, 2, 3] (by decide +kernel) rfl
              refine W.widen (k := 0) (n := 0) (Nat.le_of_ble_eq_true rfl) (Nat.le_of_ble_eq_true rfl) ?_
              exact W.vret hx hb hr (fun t ht hW => ⟨⟨(g9, g10), rfl, trivial, ⟨by rw [ht]; exact hP9, hD9⟩⟩, hS.F ht⟩) hS.2.2 dX11_layOdds_231
            · skip
              have tn727_ : nIT j8 := fun _ => nI_toInt (by first | omega | (have t := nleI c14; omega))
              have tn728_ : nIT nn := fun _ => nI_toInt (by omega)
              have n16 : j8 < nn := by have t := nleI c14; rw [show (nI (j8)).toInt = ((j8 : Nat) : Int) from tn727_ ()] at t; rw [show (nI (nn)).toInt = ((nn : Nat) : Int) from tn728_ ()] at t; omega
              refine lv_aload_n hx hb dX11_layOdds_46 rfl (lv_at hl 1 rfl) ?_
              refine lv_iload hx hb dX11_layOdds_47 (lv_at hl 0 rfl) ?_
              refine lv_iload_n hx hb dX11_layOdds_49 rfl (lv_at hl 3 rfl) ?_
              refine lv_iload hx hb dX11_layOdds_50 (lv_at hl 0 rfl) ?_
              refine lv_ishr hx hb dX11_layOdds_52 ?_
              refine lv_iconst (v := 1) hx hb dX11_layOdds_53 rfl ?_
              refine lv_iand hx hb dX11_layOdds_54 ?_
              refine lv_topi (fun v17 ev17 => ?_)
              refine lv_iconst (v := 1) hx hb dX11_layOdds_55 rfl ?_
              have cut64_20 : ∀ (k19 : Nat) (H : Heap) (locs : List Loc), k19 ≤ 1 → va_P (dC, dI) vwCl [(h0, .inr (11, [.ref st, .int (nI N), .int (nI B), .ref rp, .int vrs, .int vrb, .int vhs, .int vca, .int vxs, .int vxb, .ref tp, .int (nI T), .int vfa, .int vbr, .int vba, .int vsp, .int vhe, .int vtk, .int vva, .ref cu, .ref lt, .ref od, .ref th, .ref be, .ref ln, .int (nI S), .ref ma, .int (nI M), .ref ah, .ref bh, .ref ik, .ref la, .ref lg, .ref ce, .int vto])), (st, .inl (G 0, 196, .inl fst)), (od, .inl (G 1, 10, .inr (.inl g9))), (th, .inl (G 1, 10, .inr (.inl g10)))] H → va_D A [(h0, .inr (11, [.ref st, .int (nI N), .int (nI B), .ref rp, .int vrs, .int vrb, .int vhs, .int vca, .int vxs, .int vxb, .ref tp, .int (nI T), .int vfa, .int vbr, .int vba, .int vsp, .int vhe, .int vtk, .int vva, .ref cu, .ref lt, .ref od, .ref th, .ref be, .ref ln, .int (nI S), .ref ma, .int (nI M), .ref ah, .ref bh, .ref ik, .ref la, .ref lg, .ref ce, .int vto])), (st, .inl (G 0, 196, .inl fst)), (od, .inl (G 1, 10, .inr (.inl g9))), (th, .inl (G 1, 10, .inr (.inl g10)))] → va_S A s.heap H locs → ∀ (ls : Array Slot), lv_has ls 8 [(4, .int (nI j8)), (0, .ref h0), (1, .int (nI nn)), (2, .int x1), (3, .int x2)] → W p l e (headSpec (Cond.code yX11_layOdds cX11_layOdds 8 none :: GT) ({ frames := 3, cells := 0, slots := 0, locals := 72 } : Room)).room s m ([.ref h0, .int (nI nn), .int x1, .int x2] : List Value).toArray below meth c H locs 0 0 (MQ below (va_Qv (fun (u : (Nat → Int64) × (Nat → Int64)) => match u with | (ood, oth) => True) (fun (u : (Nat → Int64) × (Nat → Int64)) (t : State) => match u with | (ood, oth) => va_P (dC, dI) vwCl [(h0, .inr (11, [.ref st, .int (nI N), .int (nI B), .ref rp, .int vrs, .int vrb, .int vhs, .int vca, .int vxs, .int vxb, .ref tp, .int (nI T), .int vfa, .int vbr, .int vba, .int vsp, .int vhe, .int vtk, .int vva, .ref cu, .ref lt, .ref od, .ref th, .ref be, .ref ln, .int (nI S), .ref ma, .int (nI M), .ref ah, .ref bh, .ref ik, .ref la, .ref lg, .ref ce, .int vto])), (st, .inl (G 0, 196, .inl fst)), (od, .inl (G 1, 10, .inr (.inl ood))), (th, .inl (G 1, 10, .inr (.inl oth)))] t.heap ∧ va_D A [(h0, .inr (11, [.ref st, .int (nI N), .int (nI B), .ref rp, .int vrs, .int vrb, .int vhs, .int vca, .int vxs, .int vxb, .ref tp, .int (nI T), .int vfa, .int vbr, .int vba, .int vsp, .int vhe, .int vtk, .int vva, .ref cu, .ref lt, .ref od, .ref th, .ref be, .ref ln, .int (nI S), .ref ma, .int (nI M), .ref ah, .ref bh, .ref ik, .ref la, .ref lg, .ref ce, .int vto])), (st, .inl (G 0, 196, .inl fst)), (od, .inl (G 1, 10, .inr (.inl ood))), (th, .inl (G 1, 10, .inr (.inl oth)))]) A) ([.ref h0, .int (nI nn), .int x1, .int x2] : List Value).toArray s 0 0 A) (F0 m 64 ls [.int (nI k19), .int (nI j8), .ref h0]) := by
                intro k19 H locs hb_k19 hP hD hS ls hl
                have hPc := hP.sub (ws' := [(h0, .inr (11, [.ref st, .int (nI N), .int (nI B), .ref rp, .int vrs, .int vrb, .int vhs, .int vca, .int vxs, .int vxb, .ref tp, .int (nI T), .int vfa, .int vbr, .int vba, .int vsp, .int vhe, .int vtk, .int vva, .ref cu, .ref lt, .ref od, .ref th, .ref be, .ref ln, .int (nI S), .ref ma, .int (nI M), .ref ah, .ref bh, .ref ik, .ref la, .ref lg, .ref ce, .int vto])), (st, .inl (G 0, 196, .inl fst))]) [0, 1] rfl
                have tn729_ : nIT k19 := fun _ => nI_toInt (by first | omega | (have t_hj5 := hj5; have t_n7 := n7; have t_hj13 := hj13; have t_n16 := n16; have t_hb_k19 := hb_k19; omega))
                refine va_calli (va_runV (As := [.int (nI j8), .int (nI k19)]) (rest := []) ⟨hx, hb, hml, hown, hg⟩ (c_X11_orderedHarm l dC dI G _ h0 j8 st N B rp tp T cu lt od th be ln S ma M ah bh ik la lg ce (nI k19) vrs vrb vhs vca vxs vxb vfa vbr vba vsp vhe vtk vva vto fst hN hB_ hT_ hS0 hM_ (by first | omega | (have t_hj5 := hj5; have t_n7 := n7; have t_hj13 := hj13; have t_n16 := n16; have t_hb_k19 := hb_k19; have tnb_ := nib9 tn728_ tn719_ tn720_ tn721_ tn722_ tn723_ tn724_ tn727_ tn729_; omega)) hst) (kwV hg mfX11_orderedHarm wt_1123 ⟨Nat.le_of_ble_eq_true rfl, Nat.le_of_ble_eq_true rfl⟩) (preVR hK hPc (ci := 11) (r := (RX11, TX11, 35)) rfl rfl) rfl rfl hl.1 rfl (lv_room (Nat.le_of_ble_eq_true rfl)) dX11_layOdds_64 ⟨Nat.le_of_ble_eq_true rfl, Nat.le_of_ble_eq_true rfl⟩) hS (fun q h1 h2 => absurd h2 (Nat.not_le.mpr h1)) (fun q h => hA q (Nat.le_trans hS.1 h)) (fun r21 ur21 t H1 locs ht hvm w22 hB hz1 hk1 hS => ?_)
                have hP := keepR hP hk1
                obtain ⟨w22, w22x⟩ := w22
                refine lv_istore (lv' := [(5, .int r21), (4, .int (nI j8)), (0, .ref h0), (1, .int (nI nn)), (2, .int x1), (3, .int x2)]) hx hb dX11_layOdds_67 hl (by decide) rfl (fun ls hl => ?_)
                refine lv_iconst (v := 0) hx hb dX11_layOdds_69 rfl ?_
                refine lv_istore (lv' := [(6, .int 0), (5, .int r21), (4, .int (nI j8)), (0, .ref h0), (1, .int (nI nn)), (2, .int x1), (3, .int x2)]) hx hb dX11_layOdds_70 hl (by decide) rfl (fun ls hl => ?_)
                have loop72_25 : ∀ (nf j23 : Nat), 10 + 1 ≤ j23 + nf → j23 ≤ 10 → ∀ (g24 : Nat → Int64) (H : Heap) (locs : List Loc), va_P (dC, dI) vwCl [(h0, .inr (11, [.ref st, .int (nI N), .int (nI B), .ref rp, .int vrs, .int vrb, .int vhs, .int vca, .int vxs, .int vxb, .ref tp, .int (nI T), .int vfa, .int vbr, .int vba, .int vsp, .int vhe, .int vtk, .int vva, .ref cu, .ref lt, .ref od, .ref th, .ref be, .ref ln, .int (nI S), .ref ma, .int (nI M), .ref ah, .ref bh, .ref ik, .ref la, .ref lg, .ref ce, .int vto])), (st, .inl (G 0, 196, .inl fst)), (od, .inl (G 1, 10, .inr (.inl g9))), (th, .inl (G 1, 10, .inr (.inl g24)))] H → va_D A [(h0, .inr (11, [.ref st, .int (nI N), .int (nI B), .ref rp, .int vrs, .int vrb, .int vhs, .int vca, .int vxs, .int vxb, .ref tp, .int (nI T), .int vfa, .int vbr, .int vba, .int vsp, .int vhe, .int vtk, .int vva, .ref cu, .ref lt, .ref od, .ref th, .ref be, .ref ln, .int (nI S), .ref ma, .int (nI M), .ref ah, .ref bh, .ref ik, .ref la, .ref lg, .ref ce, .int vto])), (st, .inl (G 0, 196, .inl fst)), (od, .inl (G 1, 10, .inr (.inl g9))), (th, .inl (G 1, 10, .inr (.inl g24)))] → va_S A s.heap H locs → ∀ (ls : Array Slot), lv_has ls 8 [(6, .int (nI j23)), (5, .int r21), (4, .int (nI j8)), (0, .ref h0), (1, .int (nI nn)), (2, .int x1), (3, .int x2)] → W p l e (headSpec (Cond.code yX11_layOdds cX11_layOdds 8 none :: GT) ({ frames := 3, cells := 0, slots := 0, locals := 72 } : Room)).room s m ([.ref h0, .int (nI nn), .int x1, .int x2] : List Value).toArray below meth c H locs 0 0 (MQ below (va_Qv (fun (u : (Nat → Int64) × (Nat → Int64)) => match u with | (ood, oth) => True) (fun (u : (Nat → Int64) × (Nat → Int64)) (t : State) => match u with | (ood, oth) => va_P (dC, dI) vwCl [(h0, .inr (11, [.ref st, .int (nI N), .int (nI B), .ref rp, .int vrs, .int vrb, .int vhs, .int vca, .int vxs, .int vxb, .ref tp, .int (nI T), .int vfa, .int vbr, .int vba, .int vsp, .int vhe, .int vtk, .int vva, .ref cu, .ref lt, .ref od, .ref th, .ref be, .ref ln, .int (nI S), .ref ma, .int (nI M), .ref ah, .ref bh, .ref ik, .ref la, .ref lg, .ref ce, .int vto])), (st, .inl (G 0, 196, .inl fst)), (od, .inl (G 1, 10, .inr (.inl ood))), (th, .inl (G 1, 10, .inr (.inl oth)))] t.heap ∧ va_D A [(h0, .inr (11, [.ref st, .int (nI N), .int (nI B), .ref rp, .int vrs, .int vrb, .int vhs, .int vca, .int vxs, .int vxb, .ref tp, .int (nI T), .int vfa, .int vbr, .int vba, .int vsp, .int vhe, .int vtk, .int vva, .ref cu, .ref lt, .ref od, .ref th, .ref be, .ref ln, .int (nI S), .ref ma, .int (nI M), .ref ah, .ref bh, .ref ik, .ref la, .ref lg, .ref ce, .int vto])), (st, .inl (G 0, 196, .inl fst)), (od, .inl (G 1, 10, .inr (.inl ood))), (th, .inl (G 1, 10, .inr (.inl oth)))]) A) ([.ref h0, .int (nI nn), .int x1, .int x2] : List Value).toArray s 0 0 A) (F0 m 72 ls []) := by
                  intro nf
                  induction nf with
                  | zero => intro j23 h1 h2; exact absurd h1 (by omega)
                  | succ nf ih72_25 =>
                    intro j23 hn26 hj27 g24 H locs hP hD hS ls hl
                    refine lv_iload hx hb dX11_layOdds_72 (lv_at hl 0 rfl) ?_
                    refine lv_bipush (v := 10) hx hb dX11_layOdds_74 rfl ?_
                    refine lv_icmp_ge (tgt := 93) hx hb dX11_layOdds_76 rfl (fun c28 => ?_) (fun c28 => ?_)
                    · skip
                      have tn730_ : nIT j23 := fun _ => nI_toInt (by first | omega | (have t := leI c28; omega))
                      have n29 : 10 ≤ j23 := by have t := leI c28; rw [show (nI (j23)).toInt = ((j23 : Nat) : Int) from tn730_ ()] at t; have : (10 : Int32).toInt = 10 := qI_10; omega
                      refine lv_aload_n hx hb dX11_layOdds_93 rfl (lv_at hl 3 rfl) ?_
                      refine va_get (D := (dC, dI)) (ci := 11) (v := .ref th) (C := RX11) (T := TX11) (N := 35) hx hb hg inG11 hown hK.1 hP 0 rfl rfl 22 (Nat.le_of_ble_eq_true rfl) (hg _ wt_900) (fun _ h9 => h9) rfl dX11_layOdds_94 ?_
                      refine lv_iconst (v := 0) hx hb dX11_layOdds_97 rfl ?_
                      refine lv_ldc2 (v := 20) hx hb hown (hg _ wt_1127) dX11_layOdds_98 ?_
                      refine lv_aload_n hx hb dX11_layOdds_101 rfl (lv_at hl 3 rfl) ?_
                      refine va_get (D := (dC, dI)) (ci := 11) (v := .ref od) (C := RX11) (T := TX11) (N := 35) hx hb hg inG11 hown hK.1 hP 0 rfl rfl 21 (Nat.le_of_ble_eq_true rfl) (hg _ wt_899) (fun _ h9 => h9) rfl dX11_layOdds_102 ?_
                      refine lv_iconst (v := 0) hx hb dX11_layOdds_105 rfl ?_
                      refine va_lald hx hb hK.1 hP 2 1 rfl rfl (vp_in_iff.mpr ⟨by decide, by decide⟩) dX11_layOdds_106 ?_
                      refine lv_cgl (y := g9 0) (by rfl) ?_
                      refine lv_lmul hx hb dX11_layOdds_107 ?_
                      refine va_last hx hb hK.1 hP hD hS 3 1 rfl rfl (vp_in_iff.mpr ⟨by decide, by decide⟩) dX11_layOdds_108 (fun H locs hP hD hS => ?_)
                      refine lv_iconst (v := 1) hx hb dX11_layOdds_109 rfl ?_
                      refine lv_istore (lv' := [(6, .int 1), (5, .int r21), (4, .int (nI j8)), (0, .ref h0), (1, .int (nI nn)), (2, .int x1), (3, .int x2)]) hx hb dX11_layOdds_110 hl (by decide) rfl (fun ls hl => ?_)
                      have loop112_32 : ∀ (nf j30 : Nat), 10 + 1 ≤ j30 + nf → j30 ≤ 10 → 1 ≤ j30 → ∀ (g31 : Nat → Int64) (H : Heap) (locs : List Loc), va_P (dC, dI) vwCl [(h0, .inr (11, [.ref st, .int (nI N), .int (nI B), .ref rp, .int vrs, .int vrb, .int vhs, .int vca, .int vxs, .int vxb, .ref tp, .int (nI T), .int vfa, .int vbr, .int vba, .int vsp, .int vhe, .int vtk, .int vva, .ref cu, .ref lt, .ref od, .ref th, .ref be, .ref ln, .int (nI S), .ref ma, .int (nI M), .ref ah, .ref bh, .ref ik, .ref la, .ref lg, .ref ce, .int vto])), (st, .inl (G 0, 196, .inl fst)), (od, .inl (G 1, 10, .inr (.inl g9))), (th, .inl (G 1, 10, .inr (.inl g31)))] H → va_D A [(h0, .inr (11, [.ref st, .int (nI N), .int (nI B), .ref rp, .int vrs, .int vrb, .int vhs, .int vca, .int vxs, .int vxb, .ref tp, .int (nI T), .int vfa, .int vbr, .int vba, .int vsp, .int vhe, .int vtk, .int vva, .ref cu, .ref lt, .ref od, .ref th, .ref be, .ref ln, .int (nI S), .ref ma, .int (nI M), .ref ah, .ref bh, .ref ik, .ref la, .ref lg, .ref ce, .int vto])), (st, .inl (G 0, 196, .inl fst)), (od, .inl (G 1, 10, .inr (.inl g9))), (th, .inl (G 1, 10, .inr (.inl g31)))] → va_S A s.heap H locs → ∀ (ls : Array Slot), lv_has ls 8 [(6, .int (nI j30)), (5, .int r21), (4, .int (nI j8)), (0, .ref h0), (1, .int (nI nn)), (2, .int x1), (3, .int x2)] → W p l e (headSpec (Cond.code yX11_layOdds cX11_layOdds 8 none :: GT) ({ frames := 3, cells := 0, slots := 0, locals := 72 } : Room)).room s m ([.ref h0, .int (nI nn), .int x1, .int x2] : List Value).toArray below meth c H locs 0 0 (MQ below (va_Qv (fun (u : (Nat → Int64) × (Nat → Int64)) => match u with | (ood, oth) => True) (fun (u : (Nat → Int64) × (Nat → Int64)) (t : State) => match u with | (ood, oth) => va_P (dC, dI) vwCl [(h0, .inr (11, [.ref st, .int (nI N), .int (nI B), .ref rp, .int vrs, .int vrb, .int vhs, .int vca, .int vxs, .int vxb, .ref tp, .int (nI T), .int vfa, .int vbr, .int vba, .int vsp, .int vhe, .int vtk, .int vva, .ref cu, .ref lt, .ref od, .ref th, .ref be, .ref ln, .int (nI S), .ref ma, .int (nI M), .ref ah, .ref bh, .ref ik, .ref la, .ref lg, .ref ce, .int vto])), (st, .inl (G 0, 196, .inl fst)), (od, .inl (G 1, 10, .inr (.inl ood))), (th, .inl (G 1, 10, .inr (.inl oth)))] t.heap ∧ va_D A [(h0, .inr (11, [.ref st, .int (nI N), .int (nI B), .ref rp, .int vrs, .int vrb, .int vhs, .int vca, .int vxs, .int vxb, .ref tp, .int (nI T), .int vfa, .int vbr, .int vba, .int vsp, .int vhe, .int vtk, .int vva, .ref cu, .ref lt, .ref od, .ref th, .ref be, .ref ln, .int (nI S), .ref ma, .int (nI M), .ref ah, .ref bh, .ref ik, .ref la, .ref lg, .ref ce, .int vto])), (st, .inl (G 0, 196, .inl fst)), (od, .inl (G 1, 10, .inr (.inl ood))), (th, .inl (G 1, 10, .inr (.inl oth)))]) A) ([.ref h0, .int (nI nn), .int x1, .int x2] : List Value).toArray s 0 0 A) (F0 m 112 ls []) := by
                        intro nf
                        induction nf with
                        | zero => intro j30 h1 h2; exact absurd h1 (by omega)
                        | succ nf ih112_32 =>
                          intro j30 hn33 hj34 hlo_j30 g31 H locs hP hD hS ls hl
                          refine lv_iload hx hb dX11_layOdds_112 (lv_at hl 0 rfl) ?_
                          refine lv_bipush (v := 10) hx hb dX11_layOdds_114 rfl ?_
                          refine lv_icmp_ge (tgt := 195) hx hb dX11_layOdds_116 rfl (fun c35 => ?_) (fun c35 => ?_)
                          · skip
                            have tn731_ : nIT j30 := fun _ => nI_toInt (by first | omega | (have t := leI c35; omega))
                            have n36 : 10 ≤ j30 := by have t := leI c35; rw [show (nI (j30)).toInt = ((j30 : Nat) : Int) from tn731_ ()] at t; have : (10 : Int32).toInt = 10 := qI_10; omega
                            refine lv_iconst (v := 0) hx hb dX11_layOdds_195 rfl ?_
                            refine lv_istore (lv' := [(6, .int 0), (5, .int r21), (4, .int (nI j8)), (0, .ref h0), (1, .int (nI nn)), (2, .int x1), (3, .int x2)]) hx hb dX11_layOdds_196 hl (by decide) rfl (fun ls hl => ?_)
                            have loop198_39 : ∀ (nf j37 : Nat), 10 + 1 ≤ j37 + nf → j37 ≤ 10 → ∀ (g38 : Nat → Int64) (H : Heap) (locs : List Loc), va_P (dC, dI) vwCl [(h0, .inr (11, [.ref st, .int (nI N), .int (nI B), .ref rp, .int vrs, .int vrb, .int vhs, .int vca, .int vxs, .int vxb, .ref tp, .int (nI T), .int vfa, .int vbr, .int vba, .int vsp, .int vhe, .int vtk, .int vva, .ref cu, .ref lt, .ref od, .ref th, .ref be, .ref ln, .int (nI S), .ref ma, .int (nI M), .ref ah, .ref bh, .ref ik, .ref la, .ref lg, .ref ce, .int vto])), (st, .inl (G 0, 196, .inl fst)), (od, .inl (G 1, 10, .inr (.inl g38))), (th, .inl (G 1, 10, .inr (.inl g31)))] H → va_D A [(h0, .inr (11, [.ref st, .int (nI N), .int (nI B), .ref rp, .int vrs, .int vrb, .int vhs, .int vca, .int vxs, .int vxb, .ref tp, .int (nI T), .int vfa, .int vbr, .int vba, .int vsp, .int vhe, .int vtk, .int vva, .ref cu, .ref lt, .ref od, .ref th, .ref be, .ref ln, .int (nI S), .ref ma, .int (nI M), .ref ah, .ref bh, .ref ik, .ref la, .ref lg, .ref ce, .int vto])), (st, .inl (G 0, 196, .inl fst)), (od, .inl (G 1, 10, .inr (.inl g38))), (th, .inl (G 1, 10, .inr (.inl g31)))] → va_S A s.heap H locs → ∀ (ls : Array Slot), lv_has ls 8 [(6, .int (nI j37)), (5, .int r21), (4, .int (nI j8)), (0, .ref h0), (1, .int (nI nn)), (2, .int x1), (3, .int x2)] → W p l e (headSpec (Cond.code yX11_layOdds cX11_layOdds 8 none :: GT) ({ frames := 3, cells := 0, slots := 0, locals := 72 } : Room)).room s m ([.ref h0, .int (nI nn), .int x1, .int x2] : List Value).toArray below meth c H locs 0 0 (MQ below (va_Qv (fun (u : (Nat → Int64) × (Nat → Int64)) => match u with | (ood, oth) => True) (fun (u : (Nat → Int64) × (Nat → Int64)) (t : State) => match u with | (ood, oth) => va_P (dC, dI) vwCl [(h0, .inr (11, [.ref st, .int (nI N), .int (nI B), .ref rp, .int vrs, .int vrb, .int vhs, .int vca, .int vxs, .int vxb, .ref tp, .int (nI T), .int vfa, .int vbr, .int vba, .int vsp, .int vhe, .int vtk, .int vva, .ref cu, .ref lt, .ref od, .ref th, .ref be, .ref ln, .int (nI S), .ref ma, .int (nI M), .ref ah, .ref bh, .ref ik, .ref la, .ref lg, .ref ce, .int vto])), (st, .inl (G 0, 196, .inl fst)), (od, .inl (G 1, 10, .inr (.inl ood))), (th, .inl (G 1, 10, .inr (.inl oth)))] t.heap ∧ va_D A [(h0, .inr (11, [.ref st, .int (nI N), .int (nI B), .ref rp, .int vrs, .int vrb, .int vhs, .int vca, .int vxs, .int vxb, .ref tp, .int (nI T), .int vfa, .int vbr, .int vba, .int vsp, .int vhe, .int vtk, .int vva, .ref cu, .ref lt, .ref od, .ref th, .ref be, .ref ln, .int (nI S), .ref ma, .int (nI M), .ref ah, .ref bh, .ref ik, .ref la, .ref lg, .ref ce, .int vto])), (st, .inl (G 0, 196, .inl fst)), (od, .inl (G 1, 10, .inr (.inl ood))), (th, .inl (G 1, 10, .inr (.inl oth)))]) A) ([.ref h0, .int (nI nn), .int x1, .int x2] : List Value).toArray s 0 0 A) (F0 m 198 ls []) := by
                              intro nf
                              induction nf with
                              | zero => intro j37 h1 h2; exact absurd h1 (by omega)
                              | succ nf ih198_39 =>
                                intro j37 hn40 hj41 g38 H locs hP hD hS ls hl
                                refine lv_iload hx hb dX11_layOdds_198 (lv_at hl 0 rfl) ?_
                                refine lv_bipush (v := 10) hx hb dX11_layOdds_200 rfl ?_
                                refine lv_icmp_ge (tgt := 225) hx hb dX11_layOdds_202 rfl (fun c42 => ?_) (fun c42 => ?_)
                                · skip
                                  have tn732_ : nIT j37 := fun _ => nI_toInt (by first | omega | (have t := leI c42; omega))
                                  have n43 : 10 ≤ j37 := by have t := leI c42; rw [show (nI (j37)).toInt = ((j37 : Nat) : Int) from tn732_ ()] at t; have : (10 : Int32).toInt = 10 := qI_10; omega
                                  refine lv_iinc (v := nI (j8 + 1)) (lv' := [(4, .int (nI (j8 + 1))), (6, .int (nI j37)), (5, .int r21), (0, .ref h0), (1, .int (nI nn)), (2, .int x1), (3, .int x2)]) hx hb dX11_layOdds_225 hl (k := 2) rfl (by rw [show Int32.ofInt 1 = nI 1 from by decide]; exact nI_add _ _) (by decide) rfl (fun ls hl => ?_)
                                  refine lv_goto (tgt := 40) hx hb dX11_layOdds_228 rfl ?_
                                  exact ih40_11 (j8 + 1) (by omega) (by omega) g38 g31 _ _ hP hD hS ls (lv_sub hl [0, 3, 4, 5, 6] rfl)
                                · skip
                                  have tn733_ : nIT j37 := fun _ => nI_toInt (by first | omega | (have t := nleI c42; omega))
                                  have n44 : j37 < 10 := by have t := nleI c42; rw [show (nI (j37)).toInt = ((j37 : Nat) : Int) from tn733_ ()] at t; have : (10 : Int32).toInt = 10 := qI_10; omega
                                  refine lv_aload_n hx hb dX11_layOdds_205 rfl (lv_at hl 3 rfl) ?_
                                  refine va_get (D := (dC, dI)) (ci := 11) (v := .ref od) (C := RX11) (T := TX11) (N := 35) hx hb hg inG11 hown hK.1 hP 0 rfl rfl 21 (Nat.le_of_ble_eq_true rfl) (hg _ wt_899) (fun _ h9 => h9) rfl dX11_layOdds_206 ?_
                                  refine lv_iload hx hb dX11_layOdds_209 (lv_at hl 0 rfl) ?_
                                  refine lv_aload_n hx hb dX11_layOdds_211 rfl (lv_at hl 3 rfl) ?_
                                  refine va_get (D := (dC, dI)) (ci := 11) (v := .ref th) (C := RX11) (T := TX11) (N := 35) hx hb hg inG11 hown hK.1 hP 0 rfl rfl 22 (Nat.le_of_ble_eq_true rfl) (hg _ wt_900) (fun _ h9 => h9) rfl dX11_layOdds_212 ?_
                                  refine lv_iload hx hb dX11_layOdds_215 (lv_at hl 0 rfl) ?_
                                  refine va_lald hx hb hK.1 hP 3 1 rfl rfl (vp_in_nI (by first | omega | (have t_hj5 := hj5; have t_n7 := n7; have t_hj13 := hj13; have t_n16 := n16; have t_hb_k19 := hb_k19; have t_hj27 := hj27; have t_n29 := n29; have t_hj34 := hj34; have t_hlo_j30 := hlo_j30; have t_n36 := n36; have t_hj41 := hj41; have t_n44 := n44; have tnb_ := nib12 tn728_ tn719_ tn720_ tn721_ tn722_ tn723_ tn724_ tn727_ tn729_ tn730_ tn731_ tn733_; omega)) (by decide)) dX11_layOdds_217 ?_
                                  refine lv_cgl (y := g31 j37) (by rw [nI_clamp (by omega)]) ?_
                                  refine va_last hx hb hK.1 hP hD hS 2 1 rfl rfl (vp_in_nI (by first | omega | (have t_hj5 := hj5; have t_n7 := n7; have t_hj13 := hj13; have t_n16 := n16; have t_hb_k19 := hb_k19; have t_hj27 := hj27; have t_n29 := n29; have t_hj34 := hj34; have t_hlo_j30 := hlo_j30; have t_n36 := n36; have t_hj41 := hj41; have t_n44 := n44; have tnb_ := nib12 tn728_ tn719_ tn720_ tn721_ tn722_ tn723_ tn724_ tn727_ tn729_ tn730_ tn731_ tn733_; omega)) (by decide)) dX11_layOdds_218 (fun H locs hP hD hS => ?_)
                                  rw [nI_clamp (by omega)] at hP hD
                                  refine lv_iinc (v := nI (j37 + 1)) (lv' := [(6, .int (nI (j37 + 1))), (5, .int r21), (4, .int (nI j8)), (0, .ref h0), (1, .int (nI nn)), (2, .int x1), (3, .int x2)]) hx hb dX11_layOdds_219 hl (k := 0) rfl (by rw [show Int32.ofInt 1 = nI 1 from by decide]; exact nI_add _ _) (by decide) rfl (fun ls hl => ?_)
                                  refine lv_goto (tgt := 198) hx hb dX11_layOdds_222 rfl ?_
                                  exact ih198_39 (j37 + 1) (by omega) (by omega) (vp_updL g38 j37 (g31 j37)) _ _ hP hD hS ls (lv_sub hl [0, 1, 2, 3, 4, 5, 6] rfl)
                            exact loop198_39 (10 + 1) 0 (by omega) (by omega) g9 _ _ hP hD hS ls (lv_sub hl [0, 1, 2, 3, 4, 5, 6] rfl)
                          · skip
                            have tn734_ : nIT j30 := fun _ => nI_toInt (by first | omega | (have t := nleI c35; omega))
                            have n45 : j30 < 10 := by have t := nleI c35; rw [show (nI (j30)).toInt = ((j30 : Nat) : Int) from tn734_ ()] at t; have : (10 : Int32).toInt = 10 := qI_10; omega
                            refine lv_iload hx hb dX11_layOdds_119 (lv_at hl 2 rfl) ?_
                            refine lv_iload_n hx hb dX11_layOdds_121 rfl (lv_at hl 6 rfl) ?_
                            refine lv_icmp_ne (tgt := 134) hx hb dX11_layOdds_122 rfl (fun c46 => ?_) (fun c46 => ?_)
                            · skip
                              refine lv_iload hx hb dX11_layOdds_134 (lv_at hl 0 rfl) ?_
                              refine lv_istore (lv' := [(7, .int (nI j30)), (6, .int (nI j30)), (5, .int r21), (4, .int (nI j8)), (0, .ref h0), (1, .int (nI nn)), (2, .int x1), (3, .int x2)]) hx hb dX11_layOdds_136 hl (by decide) rfl (fun ls hl => ?_)
                              refine lv_aload_n hx hb dX11_layOdds_138 rfl (lv_at hl 4 rfl) ?_
                              refine va_get (D := (dC, dI)) (ci := 11) (v := .ref th) (C := RX11) (T := TX11) (N := 35) hx hb hg inG11 hown hK.1 hP 0 rfl rfl 22 (Nat.le_of_ble_eq_true rfl) (hg _ wt_900) (fun _ h9 => h9) rfl dX11_layOdds_139 ?_
                              refine lv_iload hx hb dX11_layOdds_142 (lv_at hl 0 rfl) ?_
                              refine lv_iconst (v := 1) hx hb dX11_layOdds_144 rfl ?_
                              refine lv_isub hx hb dX11_layOdds_145 ?_
                              refine lv_cg (y := nI (j30 - 1)) (by rw [show (1 : Int32) = nI 1 from rfl]; exact pk_sub (by have t_hj5 := hj5; have t_n7 := n7; have t_hj13 := hj13; have t_n16 := n16; have t_hb_k19 := hb_k19; have t_hj27 := hj27; have t_n29 := n29; have t_hj34 := hj34; have t_hlo_j30 := hlo_j30; have t_n45 := n45; have t_c46 := neI c46; have tnb_ := nib11 tn728_ tn719_ tn720_ tn721_ tn722_ tn723_ tn724_ tn727_ tn729_ tn730_ tn734_; omega)) ?_
                              refine lv_dup2_11 hx hb dX11_layOdds_146 rfl rfl ?_
                              refine va_lald hx hb hK.1 hP 3 1 rfl rfl (vp_in_nI (by first | omega | (have t_hj5 := hj5; have t_n7 := n7; have t_hj13 := hj13; have t_n16 := n16; have t_hb_k19 := hb_k19; have t_hj27 := hj27; have t_n29 := n29; have t_hj34 := hj34; have t_hlo_j30 := hlo_j30; have t_n45 := n45; have t_c46 := neI c46; have tnb_ := nib11 tn728_ tn719_ tn720_ tn721_ tn722_ tn723_ tn724_ tn727_ tn729_ tn730_ tn734_; omega)) (by decide)) dX11_layOdds_147 ?_
                              refine lv_cgl (y := g31 (j30 - 1)) (by rw [nI_clamp (by omega)]) ?_
                              refine lv_iload hx hb dX11_layOdds_148 (lv_at hl 2 rfl) ?_
                              refine lv_i2l (v := r21.toInt64) hx hb dX11_layOdds_150 rfl ?_
                              refine lv_aload_n hx hb dX11_layOdds_151 rfl (lv_at hl 4 rfl) ?_
                              refine va_get (D := (dC, dI)) (ci := 11) (v := .ref od) (C := RX11) (T := TX11) (N := 35) hx hb hg inG11 hown hK.1 hP 0 rfl rfl 21 (Nat.le_of_ble_eq_true rfl) (hg _ wt_899) (fun _ h9 => h9) rfl dX11_layOdds_152 ?_
                              refine lv_iload hx hb dX11_layOdds_155 (lv_at hl 1 rfl) ?_
                              refine va_lald hx hb hK.1 hP 2 1 rfl rfl (vp_in_nI (by first | omega | (have t_hj5 := hj5; have t_n7 := n7; have t_hj13 := hj13; have t_n16 := n16; have t_hb_k19 := hb_k19; have t_hj27 := hj27; have t_n29 := n29; have t_hj34 := hj34; have t_hlo_j30 := hlo_j30; have t_n45 := n45; have t_c46 := neI c46; have tnb_ := nib11 tn728_ tn719_ tn720_ tn721_ tn722_ tn723_ tn724_ tn727_ tn729_ tn730_ tn734_; omega)) (by decide)) dX11_layOdds_157 ?_
                              refine lv_cgl (y := g9 j30) (by rw [nI_clamp (by omega)]) ?_
                              refine lv_lmul hx hb dX11_layOdds_158 ?_
                              refine lv_ladd hx hb dX11_layOdds_159 ?_
                              refine lv_topl (fun v47 ev47 => ?_)
                              refine va_last hx hb hK.1 hP hD hS 3 1 rfl rfl (vp_in_nI (by first | omega | (have t_hj5 := hj5; have t_n7 := n7; have t_hj13 := hj13; have t_n16 := n16; have t_hb_k19 := hb_k19; have t_hj27 := hj27; have t_n29 := n29; have t_hj34 := hj34; have t_hlo_j30 := hlo_j30; have t_n45 := n45; have t_c46 := neI c46; have tnb_ := nib11 tn728_ tn719_ tn720_ tn721_ tn722_ tn723_ tn724_ tn727_ tn729_ tn730_ tn734_; omega)) (by decide)) dX11_layOdds_160 (fun H locs hP hD hS => ?_)
                              rw [nI_clamp (by omega)] at hP hD
                              refine lv_aload_n hx hb dX11_layOdds_161 rfl (lv_at hl 4 rfl) ?_
                              refine va_get (D := (dC, dI)) (ci := 11) (v := .ref th) (C := RX11) (T := TX11) (N := 35) hx hb hg inG11 hown hK.1 hP 0 rfl rfl 22 (Nat.le_of_ble_eq_true rfl) (hg _ wt_900) (fun _ h9 => h9) rfl dX11_layOdds_162 ?_
                              refine lv_iload hx hb dX11_layOdds_165 (lv_at hl 0 rfl) ?_
                              refine lv_iconst (v := 1) hx hb dX11_layOdds_167 rfl ?_
                              have hPc := hP.sub (ws' := []) [] rfl
                              refine va_calli (va_runS (As := [.int (nI j30), .int 1]) (rest := [.ref th]) ⟨hx, hb, hml, hown, hg⟩ (c_X11_deeper l dC dI G _ j30 1 (by first | omega | (have t_hj5 := hj5; have t_n7 := n7; have t_hj13 := hj13; have t_n16 := n16; have t_hb_k19 := hb_k19; have t_hj27 := hj27; have t_n29 := n29; have t_hj34 := hj34; have t_hlo_j30 := hlo_j30; have t_n45 := n45; have t_c46 := neI c46; have tnb_ := nib11 tn728_ tn719_ tn720_ tn721_ tn722_ tn723_ tn724_ tn727_ tn729_ tn730_ tn734_; have : (1 : Int32).toInt = 1 := qI_1; omega)) (by first | omega | (have t_hj5 := hj5; have t_n7 := n7; have t_hj13 := hj13; have t_n16 := n16; have t_hb_k19 := hb_k19; have t_hj27 := hj27; have t_n29 := n29; have t_hj34 := hj34; have t_hlo_j30 := hlo_j30; have t_n45 := n45; have t_c46 := neI c46; have tnb_ := nib11 tn728_ tn719_ tn720_ tn721_ tn722_ tn723_ tn724_ tn727_ tn729_ tn730_ tn734_; have : (1 : Int32).toInt = 1 := qI_1; omega))) (kwS hg mfX11_deeper wt_1128 ⟨Nat.le_of_ble_eq_true rfl, Nat.le_of_ble_eq_true rfl⟩) (preSR hK hPc) rfl rfl hl.1 rfl (lv_room (Nat.le_of_ble_eq_true rfl)) dX11_layOdds_168 ⟨Nat.le_of_ble_eq_true rfl, Nat.le_of_ble_eq_true rfl⟩) hS (fun q h1 h2 => absurd h2 (Nat.not_le.mpr h1)) (fun q h => hA q (Nat.le_trans hS.1 h)) (fun r48 ur48 t H1 locs ht hvm w49 hB hz1 hk1 hS => ?_)
                              have hP := keepR hP hk1
                              obtain ⟨w49, w49x⟩ := w49
                              have hs50 : j30 ≤ (min 9 (j30 + 1)) ∧ (min 9 (j30 + 1)) ≤ 9 := (by omega)
                              subst w49
                              refine lv_dup2_11 hx hb dX11_layOdds_171 rfl rfl ?_
                              refine va_lald hx hb hK.1 hP 3 1 rfl rfl (vp_in_nI (by first | omega | (have t_hj5 := hj5; have t_n7 := n7; have t_hj13 := hj13; have t_n16 := n16; have t_hb_k19 := hb_k19; have t_hj27 := hj27; have t_n29 := n29; have t_hj34 := hj34; have t_hlo_j30 := hlo_j30; have t_n45 := n45; have t_c46 := neI c46; have t_hs50 := hs50; have tnb_ := nib11 tn728_ tn719_ tn720_ tn721_ tn722_ tn723_ tn724_ tn727_ tn729_ tn730_ tn734_; omega)) (by decide)) dX11_layOdds_172 ?_
                              refine lv_cgl (y := (vp_updL g31 (j30 - 1) v47) (min 9 (j30 + 1))) (by rw [nI_clamp (by omega)]) ?_
                              refine lv_bipush (v := 20) hx hb dX11_layOdds_173 rfl ?_
                              refine lv_iload hx hb dX11_layOdds_175 (lv_at hl 2 rfl) ?_
                              refine lv_isub hx hb dX11_layOdds_177 ?_
                              refine lv_i2l (v := (20 - r21).toInt64) hx hb dX11_layOdds_178 rfl ?_
                              refine lv_aload_n hx hb dX11_layOdds_179 rfl (lv_at hl 4 rfl) ?_
                              refine va_get (D := (dC, dI)) (ci := 11) (v := .ref od) (C := RX11) (T := TX11) (N := 35) hx hb hg inG11 hown hK.1 hP 0 rfl rfl 21 (Nat.le_of_ble_eq_true rfl) (hg _ wt_899) (fun _ h9 => h9) rfl dX11_layOdds_180 ?_
                              refine lv_iload hx hb dX11_layOdds_183 (lv_at hl 1 rfl) ?_
                              refine va_lald hx hb hK.1 hP 2 1 rfl rfl (vp_in_nI (by first | omega | (have t_hj5 := hj5; have t_n7 := n7; have t_hj13 := hj13; have t_n16 := n16; have t_hb_k19 := hb_k19; have t_hj27 := hj27; have t_n29 := n29; have t_hj34 := hj34; have t_hlo_j30 := hlo_j30; have t_n45 := n45; have t_c46 := neI c46; have t_hs50 := hs50; have tnb_ := nib11 tn728_ tn719_ tn720_ tn721_ tn722_ tn723_ tn724_ tn727_ tn729_ tn730_ tn734_; omega)) (by decide)) dX11_layOdds_185 ?_
                              refine lv_cgl (y := g9 j30) (by rw [nI_clamp (by omega)]) ?_
                              refine lv_lmul hx hb dX11_layOdds_186 ?_
                              refine lv_topl (fun v51 ev51 => ?_)
                              refine lv_ladd hx hb dX11_layOdds_187 ?_
                              refine lv_topl (fun v52 ev52 => ?_)
                              refine va_last hx hb hK.1 hP hD hS 3 1 rfl rfl (vp_in_nI (by first | omega | (have t_hj5 := hj5; have t_n7 := n7; have t_hj13 := hj13; have t_n16 := n16; have t_hb_k19 := hb_k19; have t_hj27 := hj27; have t_n29 := n29; have t_hj34 := hj34; have t_hlo_j30 := hlo_j30; have t_n45 := n45; have t_c46 := neI c46; have t_hs50 := hs50; have tnb_ := nib11 tn728_ tn719_ tn720_ tn721_ tn722_ tn723_ tn724_ tn727_ tn729_ tn730_ tn734_; omega)) (by decide)) dX11_layOdds_188 (fun H locs hP hD hS => ?_)
                              rw [nI_clamp (by omega)] at hP hD
                              refine lv_iinc (v := nI (j30 + 1)) (lv' := [(6, .int (nI (j30 + 1))), (7, .int (nI j30)), (5, .int r21), (4, .int (nI j8)), (0, .ref h0), (1, .int (nI nn)), (2, .int x1), (3, .int x2)]) hx hb dX11_layOdds_189 hl (k := 1) rfl (by rw [show Int32.ofInt 1 = nI 1 from by decide]; exact nI_add _ _) (by decide) rfl (fun ls hl => ?_)
                              refine lv_goto (tgt := 112) hx hb dX11_layOdds_192 rfl ?_
                              exact ih112_32 (j30 + 1) (by omega) (by omega) (by omega) (vp_updL (vp_updL g31 (j30 - 1) v47) (min 9 (j30 + 1)) v52) _ _ hP hD hS ls (lv_sub hl [0, 2, 3, 4, 5, 6, 7] rfl)
                            · skip
                              refine lv_iload hx hb dX11_layOdds_125 (lv_at hl 0 rfl) ?_
                              refine lv_iconst (v := 2) hx hb dX11_layOdds_127 rfl ?_
                              have hPc := hP.sub (ws' := []) [] rfl
                              refine va_calli (va_runS (As := [.int (nI j30), .int 2]) (rest := []) ⟨hx, hb, hml, hown, hg⟩ (c_X11_deeper l dC dI G _ j30 2 (by first | omega | (have t_hj5 := hj5; have t_n7 := n7; have t_hj13 := hj13; have t_n16 := n16; have t_hb_k19 := hb_k19; have t_hj27 := hj27; have t_n29 := n29; have t_hj34 := hj34; have t_hlo_j30 := hlo_j30; have t_n45 := n45; have t_c46 := eqI c46; have tnb_ := nib11 tn728_ tn719_ tn720_ tn721_ tn722_ tn723_ tn724_ tn727_ tn729_ tn730_ tn734_; have : (2 : Int32).toInt = 2 := qI_2; omega)) (by first | omega | (have t_hj5 := hj5; have t_n7 := n7; have t_hj13 := hj13; have t_n16 := n16; have t_hb_k19 := hb_k19; have t_hj27 := hj27; have t_n29 := n29; have t_hj34 := hj34; have t_hlo_j30 := hlo_j30; have t_n45 := n45; have t_c46 := eqI c46; have tnb_ := nib11 tn728_ tn719_ tn720_ tn721_ tn722_ tn723_ tn724_ tn727_ tn729_ tn730_ tn734_; have : (2 : Int32).toInt = 2 := qI_2; omega))) (kwS hg mfX11_deeper wt_1128 ⟨Nat.le_of_ble_eq_true rfl, Nat.le_of_ble_eq_true rfl⟩) (preSR hK hPc) rfl rfl hl.1 rfl (lv_room (Nat.le_of_ble_eq_true rfl)) dX11_layOdds_128 ⟨Nat.le_of_ble_eq_true rfl, Nat.le_of_ble_eq_true rfl⟩) hS (fun q h1 h2 => absurd h2 (Nat.not_le.mpr h1)) (fun q h => hA q (Nat.le_trans hS.1 h)) (fun r53 ur53 t H1 locs ht hvm w54 hB hz1 hk1 hS => ?_)
                              have hP := keepR hP hk1
                              obtain ⟨w54, w54x⟩ := w54
                              have hs55 : j30 ≤ (min 9 (j30 + 2)) ∧ (min 9 (j30 + 2)) ≤ 9 := (by omega)
                              subst w54
                              refine lv_goto (tgt := 136) hx hb dX11_layOdds_131 rfl ?_
                              refine lv_istore (lv' := [(7, .int (nI (min 9 (j30 + 2)))), (6, .int (nI j30)), (5, .int r21), (4, .int (nI j8)), (0, .ref h0), (1, .int (nI nn)), (2, .int x1), (3, .int x2)]) hx hb dX11_layOdds_136 hl (by decide) rfl (fun ls hl => ?_)
                              refine lv_aload_n hx hb dX11_layOdds_138 rfl (lv_at hl 4 rfl) ?_
                              refine va_get (D := (dC, dI)) (ci := 11) (v := .ref th) (C := RX11) (T := TX11) (N := 35) hx hb hg inG11 hown hK.1 hP 0 rfl rfl 22 (Nat.le_of_ble_eq_true rfl) (hg _ wt_900) (fun _ h9 => h9) rfl dX11_layOdds_139 ?_
                              refine lv_iload hx hb dX11_layOdds_142 (lv_at hl 0 rfl) ?_
                              refine lv_iconst (v := 1) hx hb dX11_layOdds_144 rfl ?_
                              refine lv_isub hx hb dX11_layOdds_145 ?_
                              refine lv_cg (y := nI ((min 9 (j30 + 2)) - 1)) (by rw [show (1 : Int32) = nI 1 from rfl]; exact pk_sub (by have t_hj5 := hj5; have t_n7 := n7; have t_hj13 := hj13; have t_n16 := n16; have t_hb_k19 := hb_k19; have t_hj27 := hj27; have t_n29 := n29; have t_hj34 := hj34; have t_hlo_j30 := hlo_j30; have t_n45 := n45; have t_c46 := eqI c46; have t_hs55 := hs55; have tnb_ := nib11 tn728_ tn719_ tn720_ tn721_ tn722_ tn723_ tn724_ tn727_ tn729_ tn730_ tn734_; omega)) ?_
                              refine lv_dup2_11 hx hb dX11_layOdds_146 rfl rfl ?_
                              refine va_lald hx hb hK.1 hP 3 1 rfl rfl (vp_in_nI (by first | omega | (have t_hj5 := hj5; have t_n7 := n7; have t_hj13 := hj13; have t_n16 := n16; have t_hb_k19 := hb_k19; have t_hj27 := hj27; have t_n29 := n29; have t_hj34 := hj34; have t_hlo_j30 := hlo_j30; have t_n45 := n45; have t_c46 := eqI c46; have t_hs55 := hs55; have tnb_ := nib11 tn728_ tn719_ tn720_ tn721_ tn722_ tn723_ tn724_ tn727_ tn729_ tn730_ tn734_; omega)) (by decide)) dX11_layOdds_147 ?_
                              refine lv_cgl (y := g31 ((min 9 (j30 + 2)) - 1)) (by rw [nI_clamp (by omega)]) ?_
                              refine lv_iload hx hb dX11_layOdds_148 (lv_at hl 2 rfl) ?_
                              refine lv_i2l (v := r21.toInt64) hx hb dX11_layOdds_150 rfl ?_
                              refine lv_aload_n hx hb dX11_layOdds_151 rfl (lv_at hl 4 rfl) ?_
                              refine va_get (D := (dC, dI)) (ci := 11) (v := .ref od) (C := RX11) (T := TX11) (N := 35) hx hb hg inG11 hown hK.1 hP 0 rfl rfl 21 (Nat.le_of_ble_eq_true rfl) (hg _ wt_899) (fun _ h9 => h9) rfl dX11_layOdds_152 ?_
                              refine lv_iload hx hb dX11_layOdds_155 (lv_at hl 1 rfl) ?_
                              refine va_lald hx hb hK.1 hP 2 1 rfl rfl (vp_in_nI (by first | omega | (have t_hj5 := hj5; have t_n7 := n7; have t_hj13 := hj13; have t_n16 := n16; have t_hb_k19 := hb_k19; have t_hj27 := hj27; have t_n29 := n29; have t_hj34 := hj34; have t_hlo_j30 := hlo_j30; have t_n45 := n45; have t_c46 := eqI c46; have t_hs55 := hs55; have tnb_ := nib11 tn728_ tn719_ tn720_ tn721_ tn722_ tn723_ tn724_ tn727_ tn729_ tn730_ tn734_; omega)) (by decide)) dX11_layOdds_157 ?_
                              refine lv_cgl (y := g9 j30) (by rw [nI_clamp (by omega)]) ?_
                              refine lv_lmul hx hb dX11_layOdds_158 ?_
                              refine lv_ladd hx hb dX11_layOdds_159 ?_
                              refine lv_topl (fun v56 ev56 => ?_)
                              refine va_last hx hb hK.1 hP hD hS 3 1 rfl rfl (vp_in_nI (by first | omega | (have t_hj5 := hj5; have t_n7 := n7; have t_hj13 := hj13; have t_n16 := n16; have t_hb_k19 := hb_k19; have t_hj27 := hj27; have t_n29 := n29; have t_hj34 := hj34; have t_hlo_j30 := hlo_j30; have t_n45 := n45; have t_c46 := eqI c46; have t_hs55 := hs55; have tnb_ := nib11 tn728_ tn719_ tn720_ tn721_ tn722_ tn723_ tn724_ tn727_ tn729_ tn730_ tn734_; omega)) (by decide)) dX11_layOdds_160 (fun H locs hP hD hS => ?_)
                              rw [nI_clamp (by omega)] at hP hD
                              refine lv_aload_n hx hb dX11_layOdds_161 rfl (lv_at hl 4 rfl) ?_
                              refine va_get (D := (dC, dI)) (ci := 11) (v := .ref th) (C := RX11) (T := TX11) (N := 35) hx hb hg inG11 hown hK.1 hP 0 rfl rfl 22 (Nat.le_of_ble_eq_true rfl) (hg _ wt_900) (fun _ h9 => h9) rfl dX11_layOdds_162 ?_
                              refine lv_iload hx hb dX11_layOdds_165 (lv_at hl 0 rfl) ?_
                              refine lv_iconst (v := 1) hx hb dX11_layOdds_167 rfl ?_
                              have hPc := hP.sub (ws' := []) [] rfl
                              refine va_calli (va_runS (As := [.int (nI (min 9 (j30 + 2))), .int 1]) (rest := [.ref th]) ⟨hx, hb, hml, hown, hg⟩ (c_X11_deeper l dC dI G _ (min 9 (j30 + 2)) 1 (by first | omega | (have t_hj5 := hj5; have t_n7 := n7; have t_hj13 := hj13; have t_n16 := n16; have t_hb_k19 := hb_k19; have t_hj27 := hj27; have t_n29 := n29; have t_hj34 := hj34; have t_hlo_j30 := hlo_j30; have t_n45 := n45; have t_c46 := eqI c46; have t_hs55 := hs55; have tnb_ := nib11 tn728_ tn719_ tn720_ tn721_ tn722_ tn723_ tn724_ tn727_ tn729_ tn730_ tn734_; have : (1 : Int32).toInt = 1 := qI_1; omega)) (by first | omega | (have t_hj5 := hj5; have t_n7 := n7; have t_hj13 := hj13; have t_n16 := n16; have t_hb_k19 := hb_k19; have t_hj27 := hj27; have t_n29 := n29; have t_hj34 := hj34; have t_hlo_j30 := hlo_j30; have t_n45 := n45; have t_c46 := eqI c46; have t_hs55 := hs55; have tnb_ := nib11 tn728_ tn719_ tn720_ tn721_ tn722_ tn723_ tn724_ tn727_ tn729_ tn730_ tn734_; have : (1 : Int32).toInt = 1 := qI_1; omega))) (kwS hg mfX11_deeper wt_1128 ⟨Nat.le_of_ble_eq_true rfl, Nat.le_of_ble_eq_true rfl⟩) (preSR hK hPc) rfl rfl hl.1 rfl (lv_room (Nat.le_of_ble_eq_true rfl)) dX11_layOdds_168 ⟨Nat.le_of_ble_eq_true rfl, Nat.le_of_ble_eq_true rfl⟩) hS (fun q h1 h2 => absurd h2 (Nat.not_le.mpr h1)) (fun q h => hA q (Nat.le_trans hS.1 h)) (fun r57 ur57 t H1 locs ht hvm w58 hB hz1 hk1 hS => ?_)
                              have hP := keepR hP hk1
                              obtain ⟨w58, w58x⟩ := w58
                              have hs59 : (min 9 (j30 + 2)) ≤ (min 9 ((min 9 (j30 + 2)) + 1)) ∧ (min 9 ((min 9 (j30 + 2)) + 1)) ≤ 9 := (by omega)
                              subst w58
                              refine lv_dup2_11 hx hb dX11_layOdds_171 rfl rfl ?_
                              refine va_lald hx hb hK.1 hP 3 1 rfl rfl (vp_in_nI (by first | omega | (have t_hj5 := hj5; have t_n7 := n7; have t_hj13 := hj13; have t_n16 := n16; have t_hb_k19 := hb_k19; have t_hj27 := hj27; have t_n29 := n29; have t_hj34 := hj34; have t_hlo_j30 := hlo_j30; have t_n45 := n45; have t_c46 := eqI c46; have t_hs55 := hs55; have t_hs59 := hs59; have tnb_ := nib11 tn728_ tn719_ tn720_ tn721_ tn722_ tn723_ tn724_ tn727_ tn729_ tn730_ tn734_; omega)) (by decide)) dX11_layOdds_172 ?_
                              refine lv_cgl (y := (vp_updL g31 ((min 9 (j30 + 2)) - 1) v56) (min 9 ((min 9 (j30 + 2)) + 1))) (by rw [nI_clamp (by omega)]) ?_
                              refine lv_bipush (v := 20) hx hb dX11_layOdds_173 rfl ?_
                              refine lv_iload hx hb dX11_layOdds_175 (lv_at hl 2 rfl) ?_
                              refine lv_isub hx hb dX11_layOdds_177 ?_
                              refine lv_i2l (v := (20 - r21).toInt64) hx hb dX11_layOdds_178 rfl ?_
                              refine lv_aload_n hx hb dX11_layOdds_179 rfl (lv_at hl 4 rfl) ?_
                              refine va_get (D := (dC, dI)) (ci := 11) (v := .ref od) (C := RX11) (T := TX11) (N := 35) hx hb hg inG11 hown hK.1 hP 0 rfl rfl 21 (Nat.le_of_ble_eq_true rfl) (hg _ wt_899) (fun _ h9 => h9) rfl dX11_layOdds_180 ?_
                              refine lv_iload hx hb dX11_layOdds_183 (lv_at hl 1 rfl) ?_
                              refine va_lald hx hb hK.1 hP 2 1 rfl rfl (vp_in_nI (by first | omega | (have t_hj5 := hj5; have t_n7 := n7; have t_hj13 := hj13; have t_n16 := n16; have t_hb_k19 := hb_k19; have t_hj27 := hj27; have t_n29 := n29; have t_hj34 := hj34; have t_hlo_j30 := hlo_j30; have t_n45 := n45; have t_c46 := eqI c46; have t_hs55 := hs55; have t_hs59 := hs59; have tnb_ := nib11 tn728_ tn719_ tn720_ tn721_ tn722_ tn723_ tn724_ tn727_ tn729_ tn730_ tn734_; omega)) (by decide)) dX11_layOdds_185 ?_
                              refine lv_cgl (y := g9 j30) (by rw [nI_clamp (by omega)]) ?_
                              refine lv_lmul hx hb dX11_layOdds_186 ?_
                              refine lv_topl (fun v60 ev60 => ?_)
                              refine lv_ladd hx hb dX11_layOdds_187 ?_
                              refine lv_topl (fun v61 ev61 => ?_)
                              refine va_last hx hb hK.1 hP hD hS 3 1 rfl rfl (vp_in_nI (by first | omega | (have t_hj5 := hj5; have t_n7 := n7; have t_hj13 := hj13; have t_n16 := n16; have t_hb_k19 := hb_k19; have t_hj27 := hj27; have t_n29 := n29; have t_hj34 := hj34; have t_hlo_j30 := hlo_j30; have t_n45 := n45; have t_c46 := eqI c46; have t_hs55 := hs55; have t_hs59 := hs59; have tnb_ := nib11 tn728_ tn719_ tn720_ tn721_ tn722_ tn723_ tn724_ tn727_ tn729_ tn730_ tn734_; omega)) (by decide)) dX11_layOdds_188 (fun H locs hP hD hS => ?_)
                              rw [nI_clamp (by omega)] at hP hD
                              refine lv_iinc (v := nI (j30 + 1)) (lv' := [(6, .int (nI (j30 + 1))), (7, .int (nI (min 9 (j30 + 2)))), (5, .int r21), (4, .int (nI j8)), (0, .ref h0), (1, .int (nI nn)), (2, .int x1), (3, .int x2)]) hx hb dX11_layOdds_189 hl (k := 1) rfl (by rw [show Int32.ofInt 1 = nI 1 from by decide]; exact nI_add _ _) (by decide) rfl (fun ls hl => ?_)
                              refine lv_goto (tgt := 112) hx hb dX11_layOdds_192 rfl ?_
                              exact ih112_32 (j30 + 1) (by omega) (by omega) (by omega) (vp_updL (vp_updL g31 ((min 9 (j30 + 2)) - 1) v56) (min 9 ((min 9 (j30 + 2)) + 1)) v61) _ _ hP hD hS ls (lv_sub hl [0, 2, 3, 4, 5, 6, 7] rfl)
                      exact loop112_32 (10 + 1) 1 (by omega) (by omega) (by omega) (vp_updL g24 0 (20 * (g9 0))) _ _ hP hD hS ls (lv_sub hl [0, 1, 2, 3, 4, 5, 6] rfl)
                    · skip
                      have tn735_ : nIT j23 := fun _ => nI_toInt (by first | omega | (have t := nleI c28; omega))
                      have n62 : j23 < 10 := by have t := nleI c28; rw [show (nI (j23)).toInt = ((j23 : Nat) : Int) from tn735_ ()] at t; have : (10 : Int32).toInt = 10 := qI_10; omega
                      refine lv_aload_n hx hb dX11_layOdds_79 rfl (lv_at hl 3 rfl) ?_
                      refine va_get (D := (dC, dI)) (ci := 11) (v := .ref th) (C := RX11) (T := TX11) (N := 35) hx hb hg inG11 hown hK.1 hP 0 rfl rfl 22 (Nat.le_of_ble_eq_true rfl) (hg _ wt_900) (fun _ h9 => h9) rfl dX11_layOdds_80 ?_
                      refine lv_iload hx hb dX11_layOdds_83 (lv_at hl 0 rfl) ?_
                      refine lv_lconst (v := 0) hx hb dX11_layOdds_85 (by decide) ?_
                      refine va_last hx hb hK.1 hP hD hS 3 1 rfl rfl (vp_in_nI (by first | omega | (have t_hj5 := hj5; have t_n7 := n7; have t_hj13 := hj13; have t_n16 := n16; have t_hb_k19 := hb_k19; have t_hj27 := hj27; have t_n62 := n62; have tnb_ := nib10 tn728_ tn719_ tn720_ tn721_ tn722_ tn723_ tn724_ tn727_ tn729_ tn735_; omega)) (by decide)) dX11_layOdds_86 (fun H locs hP hD hS => ?_)
                      rw [nI_clamp (by omega)] at hP hD
                      refine lv_iinc (v := nI (j23 + 1)) (lv' := [(6, .int (nI (j23 + 1))), (5, .int r21), (4, .int (nI j8)), (0, .ref h0), (1, .int (nI nn)), (2, .int x1), (3, .int x2)]) hx hb dX11_layOdds_87 hl (k := 0) rfl (by rw [show Int32.ofInt 1 = nI 1 from by decide]; exact nI_add _ _) (by decide) rfl (fun ls hl => ?_)
                      refine lv_goto (tgt := 72) hx hb dX11_layOdds_90 rfl ?_
                      exact ih72_25 (j23 + 1) (by omega) (by omega) (vp_updL g24 j23 0) _ _ hP hD hS ls (lv_sub hl [0, 1, 2, 3, 4, 5, 6] rfl)
                exact loop72_25 (10 + 1) 0 (by omega) (by omega) g10 _ _ hP hD hS ls (lv_sub hl [0, 1, 2, 3, 4, 5, 6] rfl)
              refine lv_icmp_ne (tgt := 63) hx hb dX11_layOdds_56 rfl (fun c63 => ?_) (fun c63 => ?_)
              · skip
                refine lv_iconst (v := 0) hx hb dX11_layOdds_63 rfl ?_
                exact cut64_20 0 _ _ (by omega) hP hD hS ls (lv_sub hl [0, 1, 2, 3, 4] rfl)
              · skip
                refine lv_iconst (v := 1) hx hb dX11_layOdds_59 rfl ?_
                refine lv_goto (tgt := 64) hx hb dX11_layOdds_60 rfl ?_
                exact cut64_20 1 _ _ (by omega) hP hD hS ls (lv_sub hl [0, 1, 2, 3, 4] rfl)
        exact loop40_11 (nn + 1) 0 (by omega) (by omega) g2 fth _ _ hP hD hS ls (lv_sub hl [0, 1, 2, 3, 4] rfl)
      · skip
        have tn736_ : nIT j1 := fun _ => nI_toInt (by first | omega | (have t := nleI c6; omega))
        have n64 : j1 < 10 := by have t := nleI c6; rw [show (nI (j1)).toInt = ((j1 : Nat) : Int) from tn736_ ()] at t; have : (10 : Int32).toInt = 10 := qI_10; omega
        refine lv_aload_n hx hb dX11_layOdds_10 rfl (lv_at hl 1 rfl) ?_
        refine va_get (D := (dC, dI)) (ci := 11) (v := .ref od) (C := RX11) (T := TX11) (N := 35) hx hb hg inG11 hown hK.1 hP 0 rfl rfl 21 (Nat.le_of_ble_eq_true rfl) (hg _ wt_899) (fun _ h9 => h9) rfl dX11_layOdds_11 ?_
        refine lv_iload hx hb dX11_layOdds_14 (lv_at hl 0 rfl) ?_
        refine lv_iload hx hb dX11_layOdds_16 (lv_at hl 0 rfl) ?_
        refine lv_aload_n hx hb dX11_layOdds_18 rfl (lv_at hl 1 rfl) ?_
        have hPc := hP.sub (ws' := [(h0, .inr (11, [.ref st, .int (nI N), .int (nI B), .ref rp, .int vrs, .int vrb, .int vhs, .int vca, .int vxs, .int vxb, .ref tp, .int (nI T), .int vfa, .int vbr, .int vba, .int vsp, .int vhe, .int vtk, .int vva, .ref cu, .ref lt, .ref od, .ref th, .ref be, .ref ln, .int (nI S), .ref ma, .int (nI M), .ref ah, .ref bh, .ref ik, .ref la, .ref lg, .ref ce, .int vto])), (st, .inl (G 0, 196, .inl fst))]) [0, 1] rfl
        have tn737_ : nIT nn := fun _ => nI_toInt (by first | omega | (have t_hj5 := hj5; have t_n64 := n64; omega))
        refine va_calli (va_runV (As := []) (rest := [.int (nI j1), .int (nI j1), .ref od]) ⟨hx, hb, hml, hown, hg⟩ (c_X11_startNow l dC dI G _ h0 st N B rp tp T cu lt od th be ln S ma M ah bh ik la lg ce vrs vrb vhs vca vxs vxb vfa vbr vba vsp vhe vtk vva vto fst hN hB_ hT_ hS0 hM_ hst) (kwV hg mfX11_startNow wt_1044 ⟨Nat.le_of_ble_eq_true rfl, Nat.le_of_ble_eq_true rfl⟩) (preVR hK hPc (ci := 11) (r := (RX11, TX11, 35)) rfl rfl) rfl rfl hl.1 rfl (lv_room (Nat.le_of_ble_eq_true rfl)) dX11_layOdds_19 ⟨Nat.le_of_ble_eq_true rfl, Nat.le_of_ble_eq_true rfl⟩) hS (fun q h1 h2 => absurd h2 (Nat.not_le.mpr h1)) (fun q h => hA q (Nat.le_trans hS.1 h)) (fun r65 ur65 t H1 locs ht hvm w66 hB hz1 hk1 hS => ?_)
        have hP := keepR hP hk1
        obtain ⟨w66, w66x⟩ := w66
        obtain ⟨k67, w66, w66a, w66b⟩ := w66
        subst w66
        have cut30_69 : ∀ (y68 : Int64) (H : Heap) (locs : List Loc), va_P (dC, dI) vwCl [(h0, .inr (11, [.ref st, .int (nI N), .int (nI B), .ref rp, .int vrs, .int vrb, .int vhs, .int vca, .int vxs, .int vxb, .ref tp, .int (nI T), .int vfa, .int vbr, .int vba, .int vsp, .int vhe, .int vtk, .int vva, .ref cu, .ref lt, .ref od, .ref th, .ref be, .ref ln, .int (nI S), .ref ma, .int (nI M), .ref ah, .ref bh, .ref ik, .ref la, .ref lg, .ref ce, .int vto])), (st, .inl (G 0, 196, .inl fst)), (od, .inl (G 1, 10, .inr (.inl g2))), (th, .inl (G 1, 10, .inr (.inl fth)))] H → va_D A [(h0, .inr (11, [.ref st, .int (nI N), .int (nI B), .ref rp, .int vrs, .int vrb, .int vhs, .int vca, .int vxs, .int vxb, .ref tp, .int (nI T), .int vfa, .int vbr, .int vba, .int vsp, .int vhe, .int vtk, .int vva, .ref cu, .ref lt, .ref od, .ref th, .ref be, .ref ln, .int (nI S), .ref ma, .int (nI M), .ref ah, .ref bh, .ref ik, .ref la, .ref lg, .ref ce, .int vto])), (st, .inl (G 0, 196, .inl fst)), (od, .inl (G 1, 10, .inr (.inl g2))), (th, .inl (G 1, 10, .inr (.inl fth)))] → va_S A s.heap H locs → ∀ (ls : Array Slot), lv_has ls 8 [(4, .int (nI j1)), (0, .ref h0), (1, .int (nI nn)), (2, .int x1), (3, .int x2)] → W p l e (headSpec (Cond.code yX11_layOdds cX11_layOdds 8 none :: GT) ({ frames := 3, cells := 0, slots := 0, locals := 72 } : Room)).room s m ([.ref h0, .int (nI nn), .int x1, .int x2] : List Value).toArray below meth c H locs 0 0 (MQ below (va_Qv (fun (u : (Nat → Int64) × (Nat → Int64)) => match u with | (ood, oth) => True) (fun (u : (Nat → Int64) × (Nat → Int64)) (t : State) => match u with | (ood, oth) => va_P (dC, dI) vwCl [(h0, .inr (11, [.ref st, .int (nI N), .int (nI B), .ref rp, .int vrs, .int vrb, .int vhs, .int vca, .int vxs, .int vxb, .ref tp, .int (nI T), .int vfa, .int vbr, .int vba, .int vsp, .int vhe, .int vtk, .int vva, .ref cu, .ref lt, .ref od, .ref th, .ref be, .ref ln, .int (nI S), .ref ma, .int (nI M), .ref ah, .ref bh, .ref ik, .ref la, .ref lg, .ref ce, .int vto])), (st, .inl (G 0, 196, .inl fst)), (od, .inl (G 1, 10, .inr (.inl ood))), (th, .inl (G 1, 10, .inr (.inl oth)))] t.heap ∧ va_D A [(h0, .inr (11, [.ref st, .int (nI N), .int (nI B), .ref rp, .int vrs, .int vrb, .int vhs, .int vca, .int vxs, .int vxb, .ref tp, .int (nI T), .int vfa, .int vbr, .int vba, .int vsp, .int vhe, .int vtk, .int vva, .ref cu, .ref lt, .ref od, .ref th, .ref be, .ref ln, .int (nI S), .ref ma, .int (nI M), .ref ah, .ref bh, .ref ik, .ref la, .ref lg, .ref ce, .int vto])), (st, .inl (G 0, 196, .inl fst)), (od, .inl (G 1, 10, .inr (.inl ood))), (th, .inl (G 1, 10, .inr (.inl oth)))]) A) ([.ref h0, .int (nI nn), .int x1, .int x2] : List Value).toArray s 0 0 A) (F0 m 30 ls [.long y68, .int (nI j1), .ref od]) := by
          intro y68 H locs hP hD hS ls hl
          have tn738_ : nIT k67 := fun _ => nI_toInt (by first | omega | (have t_hj5 := hj5; have t_n64 := n64; have t_w66a := w66a; have t_w66b := w66b; omega))
          refine va_last hx hb hK.1 hP hD hS 2 1 rfl rfl (vp_in_nI (by first | omega | (have t_hj5 := hj5; have t_n64 := n64; have t_w66a := w66a; have t_w66b := w66b; have tnb_ := nib8 tn737_ tn719_ tn720_ tn721_ tn722_ tn723_ tn736_ tn738_; omega)) (by decide)) dX11_layOdds_30 (fun H locs hP hD hS => ?_)
          rw [nI_clamp (by omega)] at hP hD
          refine lv_iinc (v := nI (j1 + 1)) (lv' := [(4, .int (nI (j1 + 1))), (0, .ref h0), (1, .int (nI nn)), (2, .int x1), (3, .int x2)]) hx hb dX11_layOdds_31 hl (k := 0) rfl (by rw [show Int32.ofInt 1 = nI 1 from by decide]; exact nI_add _ _) (by decide) rfl (fun ls hl => ?_)
          refine lv_goto (tgt := 3) hx hb dX11_layOdds_34 rfl ?_
          exact ih3_3 (j1 + 1) (by omega) (by omega) (vp_updL g2 j1 y68) _ _ hP hD hS ls (lv_sub hl [0, 1, 2, 3, 4] rfl)
        refine lv_icmp_ne (tgt := 29) hx hb dX11_layOdds_22 rfl (fun c70 => ?_) (fun c70 => ?_)
        · skip
          have tn739_ : nIT k67 := fun _ => nI_toInt (by omega)
          have n71 : j1 ≠ k67 := by have t := neI c70; rw [show (nI (j1)).toInt = ((j1 : Nat) : Int) from tn736_ ()] at t; rw [show (nI (k67)).toInt = ((k67 : Nat) : Int) from tn739_ ()] at t; omega
          refine lv_lconst (v := 0) hx hb dX11_layOdds_29 (by decide) ?_
          exact cut30_69 0 _ _ hP hD hS ls (lv_sub hl [0, 1, 2, 3, 4] rfl)
        · skip
          have tn740_ : nIT k67 := fun _ => nI_toInt (by omega)
          have n72 : j1 = k67 := by have t := eqI c70; rw [show (nI (j1)).toInt = ((j1 : Nat) : Int) from tn736_ ()] at t; rw [show (nI (k67)).toInt = ((k67 : Nat) : Int) from tn740_ ()] at t; omega
          refine lv_lconst (v := 1) hx hb dX11_layOdds_25 (by decide) ?_
          refine lv_goto (tgt := 30) hx hb dX11_layOdds_26 rfl ?_
          exact cut30_69 1 _ _ hP hD hS ls (lv_sub hl [0, 1, 2, 3, 4] rfl)
  exact loop3_3 (10 + 1) 0 (by omega) (by omega) fod _ _ hP hD hS ls (lv_sub hl [0, 1, 2, 3, 4] rfl)

set_option maxHeartbeats 1000000 in
set_option maxRecDepth 100000 in
theorem c_X11_lowest (l : Launch) (dC : Nat → ClassId) (dI : Nat → Nat → Nat) (G : Nat → ClassId) (sz : Nat) (what : Int32) (x1 x2 : Int64) (hx2 : x2.toInt ≠ 0) : Met l yX11_lowest (Cond.code yX11_lowest cX11_lowest 11 (some .long) :: GT) ({ frames := 0, cells := 0, slots := 0, locals := 0 } : Room) (PcR [.long x1, .long x2, .int what] dC dI G [] sz) (va_Ql (fun (r : Int64) (u : Unit) => match u with | _ => (True) ∧ True) (fun _ _ => True) (fun q : Nat => sz ≤ q)) 0 0 (fun q : Nat => sz ≤ q) := by
  refine Met.ofW (cc := cX11_lowest) (maxL := 11) (ret := (some .long)) (by decide) rfl ?_
  intro p e s m args below meth c s₁ Bd hml hv
  obtain ⟨rfl, hsz, hP, hK⟩ := hv
  have hx := Bd.exec
  have hb := Bd.bytes
  have hr := Bd.returns
  have hg : ∀ w ∈ GT, w.before ([.long x1, .long x2, .int what] : List Value).toArray s = true := fun w h => atoms_spec (ws := Cond.code yX11_lowest cX11_lowest 11 (some .long) :: GT) Bd.pre w (List.mem_cons_of_mem _ h)
  have hown : s.vm.findClass RX11 = some m.cls := findClass_of_methodNamed Bd.named
  have hlocks := Bd.notSynchronized
  subst hsz
  have hA : ∀ q : Nat, s.heap.size ≤ q → (fun q : Nat => s.heap.size ≤ q) q := fun _ h => h
  have hS : va_S (fun q : Nat => s.heap.size ≤ q) s.heap s.heap [] := va_S.rf
  have hl := lv_entry ([.long x1, .long x2, .int what]) (n := 11) (Nat.le_of_ble_eq_true rfl)
  rw [lg_entry_eq]
  generalize (lg_sl ([.long x1, .long x2, .int what]) ++ List.replicate (11 - (lg_sl ([.long x1, .long x2, .int what])).length) Slot.unset).toArray = ls at hl ⊢
  have hl : lv_has ls 11 [(0, .long x1), (2, .long x2), (4, .int what)] := hl
  refine lv_lload_n hx hb dX11_lowest_0 rfl (lv_at hl 0 rfl) ?_
  refine lv_lstore (lv' := [(5, .long x1), (0, .long x1), (2, .long x2), (4, .int what)]) hx hb dX11_lowest_1 hl (by decide) rfl (fun ls hl => ?_)
  refine lv_lload_n hx hb dX11_lowest_3 rfl (lv_at hl 2 rfl) ?_
  refine lv_lstore (lv' := [(7, .long x2), (5, .long x1), (0, .long x1), (2, .long x2), (4, .int what)]) hx hb dX11_lowest_4 hl (by decide) rfl (fun ls hl => ?_)
  have loop6_3 : ∀ (nf : Nat) (y1 : Int64) (y2 : Int64), y1.toInt.natAbs < nf → (y1.toInt ≠ 0 ∨ y2.toInt ≠ 0) → ∀ (H : Heap) (locs : List Loc), va_P (dC, dI) vwCl [] H → va_S (fun q : Nat => s.heap.size ≤ q) s.heap H locs → ∀ (ls : Array Slot), lv_has ls 11 [(7, .long y1), (5, .long y2), (0, .long x1), (2, .long x2), (4, .int what)] → W p l e (headSpec (Cond.code yX11_lowest cX11_lowest 11 (some .long) :: GT) ({ frames := 0, cells := 0, slots := 0, locals := 0 } : Room)).room s m ([.long x1, .long x2, .int what] : List Value).toArray below meth c H locs 0 0 (MQ below (va_Ql (fun (r : Int64) (u : Unit) => match u with | _ => (True) ∧ True) (fun _ _ => True) (fun q : Nat => s.heap.size ≤ q)) ([.long x1, .long x2, .int what] : List Value).toArray s 0 0 (fun q : Nat => s.heap.size ≤ q)) (F0 m 6 ls []) := by
    intro nf
    induction nf with
    | zero => intro y1 y2 h1; exact absurd h1 (Nat.not_lt_zero _)
    | succ nf ih6_3 =>
      intro y1 y2 hm4 hinv H locs hP hS ls hl
      refine lv_lload hx hb dX11_lowest_6 (lv_at hl 0 rfl) ?_
      refine lv_lconst (v := 0) hx hb dX11_lowest_8 (by decide) ?_
      refine W.lcmp hx hb dX11_lowest_9 ?_
      refine lv_if_eq (tgt := 31) hx hb dX11_lowest_10 rfl (fun c5 => ?_) (fun c5 => ?_)
      · skip
        refine lv_iload hx hb dX11_lowest_31 (lv_at hl 4 rfl) ?_
        refine lv_if_ne (tgt := 40) hx hb dX11_lowest_33 rfl (fun c6 => ?_) (fun c6 => ?_)
        · skip
          refine lv_lload_n hx hb dX11_lowest_40 rfl (lv_at hl 3 rfl) ?_
          refine lv_lload hx hb dX11_lowest_41 (lv_at hl 1 rfl) ?_
          refine lv_ldiv hx hb dX11_lowest_43 (by intro h0; have t0 := congrArg Int64.toInt h0; have z0 : (0 : Int64).toInt = 0 := qL_0; have t_hinv := hinv; have t_c5 := lcm_eq_t c5; have t_c6 := neI c6; have tqz_ := qz4_; omega) ?_
          have hpost : True := by
            trivial
          refine W.widen (k := 0) (n := 0) (Nat.le_of_ble_eq_true rfl) (Nat.le_of_ble_eq_true rfl) ?_
          exact W.lret (v := x2 / y2) hx hb hr (fun t ht hW => ⟨⟨x2 / y2, (), rfl, ⟨hpost, trivial⟩, trivial⟩, hS.F ht⟩) hS.2.2 dX11_lowest_44
        · skip
          refine lv_lload_n hx hb dX11_lowest_36 rfl (lv_at hl 2 rfl) ?_
          refine lv_goto (tgt := 41) hx hb dX11_lowest_37 rfl ?_
          refine lv_lload hx hb dX11_lowest_41 (lv_at hl 1 rfl) ?_
          refine lv_ldiv hx hb dX11_lowest_43 (by intro h0; have t0 := congrArg Int64.toInt h0; have z0 : (0 : Int64).toInt = 0 := qL_0; have t_hinv := hinv; have t_c5 := lcm_eq_t c5; have t_c6 := eqI c6; have tqz_ := qz4_; omega) ?_
          have hpost : True := by
            trivial
          refine W.widen (k := 0) (n := 0) (Nat.le_of_ble_eq_true rfl) (Nat.le_of_ble_eq_true rfl) ?_
          exact W.lret (v := x1 / y2) hx hb hr (fun t ht hW => ⟨⟨x1 / y2, (), rfl, ⟨hpost, trivial⟩, trivial⟩, hS.F ht⟩) hS.2.2 dX11_lowest_44
      · skip
        refine lv_lload hx hb dX11_lowest_13 (lv_at hl 1 rfl) ?_
        refine lv_lload hx hb dX11_lowest_15 (lv_at hl 0 rfl) ?_
        refine lv_lrem hx hb dX11_lowest_17 (by intro h0; have t0 := congrArg Int64.toInt h0; have z0 : (0 : Int64).toInt = 0 := qL_0; have t_hinv := hinv; have t_c5 := lcm_eq_f c5; have : (0 : Int64).toInt = 0 := qL_0; omega) ?_
        refine lv_lstore (lv' := [(9, .long (y2 - y2 / y1 * y1)), (7, .long y1), (5, .long y2), (0, .long x1), (2, .long x2), (4, .int what)]) hx hb dX11_lowest_18 hl (by decide) rfl (fun ls hl => ?_)
        refine lv_lload hx hb dX11_lowest_20 (lv_at hl 1 rfl) ?_
        refine lv_lstore (lv' := [(5, .long y1), (9, .long (y2 - y2 / y1 * y1)), (7, .long y1), (0, .long x1), (2, .long x2), (4, .int what)]) hx hb dX11_lowest_22 hl (by decide) rfl (fun ls hl => ?_)
        refine lv_lload hx hb dX11_lowest_24 (lv_at hl 1 rfl) ?_
        refine lv_lstore (lv' := [(7, .long (y2 - y2 / y1 * y1)), (5, .long y1), (9, .long (y2 - y2 / y1 * y1)), (0, .long x1), (2, .long x2), (4, .int what)]) hx hb dX11_lowest_26 hl (by decide) rfl (fun ls hl => ?_)
        refine lv_goto (tgt := 6) hx hb dX11_lowest_28 rfl ?_
        exact ih6_3 (y2 - y2 / y1 * y1) y1 (Nat.lt_of_lt_of_le (rem_lt (by have t_hinv := hinv; have t_c5 := lcm_eq_f c5; have : (0 : Int64).toInt = 0 := qL_0; omega)) (Nat.le_of_lt_succ hm4)) (Or.inr (by have t_hinv := hinv; have t_c5 := lcm_eq_f c5; have : (0 : Int64).toInt = 0 := qL_0; omega)) _ _ hP hS ls (lv_sub hl [0, 1, 3, 4, 5] rfl)
  exact loop6_3 (x2.toInt.natAbs + 1) x2 x1 (Nat.lt_succ_self _) (Or.inl hx2) _ _ hP hS ls (lv_sub hl [0, 1, 2, 3, 4] rfl)

set_option maxHeartbeats 1000000 in
set_option maxRecDepth 100000 in
theorem c_X11_wakes (l : Launch) (dC : Nat → ClassId) (dI : Nat → Nat → Nat) (G : Nat → ClassId) (sz : Nat) (h0 st N B rp tp T cu lt od th be ln S ma M ah bh ik la lg ce : Nat) (what vrs vrb vhs vca vxs vxb vfa vbr vba vsp vhe vtk vva vto : Int32) (fst : Nat → Int32) (fod : Nat → Int64) (fth : Nat → Int64) (hN : N ≤ 10) (hB : B ≤ 6) (hT : T ≤ 320) (hS0 : S ≤ 8) (hM : M ≤ 6) (hst : OKS fst) : Met l yX11_wakes (Cond.code yX11_wakes cX11_wakes 2 (some .long) :: GT) ({ frames := 4, cells := 0, slots := 0, locals := 99 } : Room) (PcW [.ref h0, .int what] dC dI G [(h0, .inr (11, [.ref st, .int (nI N), .int (nI B), .ref rp, .int vrs, .int vrb, .int vhs, .int vca, .int vxs, .int vxb, .ref tp, .int (nI T), .int vfa, .int vbr, .int vba, .int vsp, .int vhe, .int vtk, .int vva, .ref cu, .ref lt, .ref od, .ref th, .ref be, .ref ln, .int (nI S), .ref ma, .int (nI M), .ref ah, .ref bh, .ref ik, .ref la, .ref lg, .ref ce, .int vto])), (st, .inl (G 0, 196, .inl fst)), (od, .inl (G 1, 10, .inr (.inl fod))), (th, .inl (G 1, 10, .inr (.inl fth)))] sz) (va_Ql (fun (r : Int64) (u : (Nat → Int64) × (Nat → Int64)) => match u with | (ood, oth) => (True) ∧ True) (fun (u : (Nat → Int64) × (Nat → Int64)) (t : State) => match u with | (ood, oth) => va_P (dC, dI) vwCl [(h0, .inr (11, [.ref st, .int (nI N), .int (nI B), .ref rp, .int vrs, .int vrb, .int vhs, .int vca, .int vxs, .int vxb, .ref tp, .int (nI T), .int vfa, .int vbr, .int vba, .int vsp, .int vhe, .int vtk, .int vva, .ref cu, .ref lt, .ref od, .ref th, .ref be, .ref ln, .int (nI S), .ref ma, .int (nI M), .ref ah, .ref bh, .ref ik, .ref la, .ref lg, .ref ce, .int vto])), (st, .inl (G 0, 196, .inl fst)), (od, .inl (G 1, 10, .inr (.inl ood))), (th, .inl (G 1, 10, .inr (.inl oth)))] t.heap ∧ va_D (va_A [(h0, .inr (11, [.ref st, .int (nI N), .int (nI B), .ref rp, .int vrs, .int vrb, .int vhs, .int vca, .int vxs, .int vxb, .ref tp, .int (nI T), .int vfa, .int vbr, .int vba, .int vsp, .int vhe, .int vtk, .int vva, .ref cu, .ref lt, .ref od, .ref th, .ref be, .ref ln, .int (nI S), .ref ma, .int (nI M), .ref ah, .ref bh, .ref ik, .ref la, .ref lg, .ref ce, .int vto])), (st, .inl (G 0, 196, .inl fst)), (od, .inl (G 1, 10, .inr (.inl fod))), (th, .inl (G 1, 10, .inr (.inl fth)))] sz) [(h0, .inr (11, [.ref st, .int (nI N), .int (nI B), .ref rp, .int vrs, .int vrb, .int vhs, .int vca, .int vxs, .int vxb, .ref tp, .int (nI T), .int vfa, .int vbr, .int vba, .int vsp, .int vhe, .int vtk, .int vva, .ref cu, .ref lt, .ref od, .ref th, .ref be, .ref ln, .int (nI S), .ref ma, .int (nI M), .ref ah, .ref bh, .ref ik, .ref la, .ref lg, .ref ce, .int vto])), (st, .inl (G 0, 196, .inl fst)), (od, .inl (G 1, 10, .inr (.inl ood))), (th, .inl (G 1, 10, .inr (.inl oth)))]) (va_A [(h0, .inr (11, [.ref st, .int (nI N), .int (nI B), .ref rp, .int vrs, .int vrb, .int vhs, .int vca, .int vxs, .int vxb, .ref tp, .int (nI T), .int vfa, .int vbr, .int vba, .int vsp, .int vhe, .int vtk, .int vva, .ref cu, .ref lt, .ref od, .ref th, .ref be, .ref ln, .int (nI S), .ref ma, .int (nI M), .ref ah, .ref bh, .ref ik, .ref la, .ref lg, .ref ce, .int vto])), (st, .inl (G 0, 196, .inl fst)), (od, .inl (G 1, 10, .inr (.inl fod))), (th, .inl (G 1, 10, .inr (.inl fth)))] sz)) 0 0 (va_A [(h0, .inr (11, [.ref st, .int (nI N), .int (nI B), .ref rp, .int vrs, .int vrb, .int vhs, .int vca, .int vxs, .int vxb, .ref tp, .int (nI T), .int vfa, .int vbr, .int vba, .int vsp, .int vhe, .int vtk, .int vva, .ref cu, .ref lt, .ref od, .ref th, .ref be, .ref ln, .int (nI S), .ref ma, .int (nI M), .ref ah, .ref bh, .ref ik, .ref la, .ref lg, .ref ce, .int vto])), (st, .inl (G 0, 196, .inl fst)), (od, .inl (G 1, 10, .inr (.inl fod))), (th, .inl (G 1, 10, .inr (.inl fth)))] sz) := by
  have hB_ := hB
  have hM_ := hM
  have hT_ := hT
  have tn741_ : nIT N := fun _ => nI_toInt (by omega)
  have tn742_ : nIT B := fun _ => nI_toInt (by omega)
  have tn743_ : nIT T := fun _ => nI_toInt (by omega)
  have tn744_ : nIT S := fun _ => nI_toInt (by omega)
  have tn745_ : nIT M := fun _ => nI_toInt (by omega)
  refine Met.ofW (cc := cX11_wakes) (maxL := 2) (ret := (some .long)) (by decide) rfl ?_
  intro p e s m args below meth c s₁ Bd hml hv
  obtain ⟨rfl, hsz, hP, hK, hD0⟩ := hv
  have hx := Bd.exec
  have hb := Bd.bytes
  have hr := Bd.returns
  have hg : ∀ w ∈ GT, w.before ([.ref h0, .int what] : List Value).toArray s = true := fun w h => atoms_spec (ws := Cond.code yX11_wakes cX11_wakes 2 (some .long) :: GT) Bd.pre w (List.mem_cons_of_mem _ h)
  have hown : s.vm.findClass RX11 = some m.cls := findClass_of_methodNamed Bd.named
  have hlocks := Bd.notSynchronized
  subst hsz
  have hD := hD0.self (sz := s.heap.size)
  generalize hAe : va_A [(h0, .inr (11, [.ref st, .int (nI N), .int (nI B), .ref rp, .int vrs, .int vrb, .int vhs, .int vca, .int vxs, .int vxb, .ref tp, .int (nI T), .int vfa, .int vbr, .int vba, .int vsp, .int vhe, .int vtk, .int vva, .ref cu, .ref lt, .ref od, .ref th, .ref be, .ref ln, .int (nI S), .ref ma, .int (nI M), .ref ah, .ref bh, .ref ik, .ref la, .ref lg, .ref ce, .int vto])), (st, .inl (G 0, 196, .inl fst)), (od, .inl (G 1, 10, .inr (.inl fod))), (th, .inl (G 1, 10, .inr (.inl fth)))] s.heap.size = A at hD ⊢
  have hA : ∀ q : Nat, s.heap.size ≤ q → A q := fun q h => by rw [← hAe]; exact Or.inr h
  have hS : va_S A s.heap s.heap [] := va_S.rf
  have hl := lv_entry ([.ref h0, .int what]) (n := 2) (Nat.le_of_ble_eq_true rfl)
  rw [lg_entry_eq]
  generalize (lg_sl ([.ref h0, .int what]) ++ List.replicate (2 - (lg_sl ([.ref h0, .int what])).length) Slot.unset).toArray = ls at hl ⊢
  have hl : lv_has ls 2 [(0, .ref h0), (1, .int what)] := hl
  refine lv_iload_n hx hb dX11_wakes_0 rfl (lv_at hl 1 rfl) ?_
  refine lv_i2l (v := what.toInt64) hx hb dX11_wakes_1 rfl ?_
  refine lv_lconst (v := 0) hx hb dX11_wakes_2 (by decide) ?_
  refine lv_lconst (v := 1) hx hb dX11_wakes_3 (by decide) ?_
  have hPc := hP.sub (ws' := []) [] rfl
  refine va_calli (va_runS (As := [.long what.toInt64, .long 0, .long 1]) (rest := []) ⟨hx, hb, hml, hown, hg⟩ (c_X11_in l dC dI G _ what.toInt64 0 1) (kwS hg mfX11_in wt_992 ⟨Nat.le_of_ble_eq_true rfl, Nat.le_of_ble_eq_true rfl⟩) (preSR hK hPc) rfl rfl hl.1 rfl (lv_room (Nat.le_of_ble_eq_true rfl)) dX11_wakes_4 ⟨Nat.le_of_ble_eq_true rfl, Nat.le_of_ble_eq_true rfl⟩) hS (fun q h1 h2 => absurd h2 (Nat.not_le.mpr h1)) (fun q h => hA q (Nat.le_trans hS.1 h)) (fun r1 ur1 t H1 locs ht hvm w2 hB hz1 hk1 hS => ?_)
  have hP := keepR hP hk1
  obtain ⟨w2, w2x⟩ := w2
  try simp only [l_ii, show (0 : Int64).toInt = 0 from by decide, show (1 : Int64).toInt = 1 from by decide] at w2
  subst w2
  refine lv_if_ne (tgt := 14) hx hb dX11_wakes_7 rfl (fun c3 => ?_) (fun c3 => ?_)
  · skip
    have b4 := if10_p c3
    refine lv_aload_n hx hb dX11_wakes_14 rfl (lv_at hl 0 rfl) ?_
    refine lv_aload_n hx hb dX11_wakes_15 rfl (lv_at hl 0 rfl) ?_
    refine va_get (D := (dC, dI)) (ci := 11) (v := .int (nI N)) (C := RX11) (T := TX11) (N := 35) hx hb hg inG11 hown hK.1 hP 0 rfl rfl 1 (Nat.le_of_ble_eq_true rfl) (hg _ wt_879) (fun _ h9 => h9) rfl dX11_wakes_16 ?_
    refine lv_iconst (v := 0) hx hb dX11_wakes_19 rfl ?_
    refine lv_bipush (v := (-4)) hx hb dX11_wakes_20 rfl ?_
    obtain ⟨hPc, hDc, hFc⟩ := va_sub3 (ws' := [(h0, .inr (11, [.ref st, .int (nI N), .int (nI B), .ref rp, .int vrs, .int vrb, .int vhs, .int vca, .int vxs, .int vxb, .ref tp, .int (nI T), .int vfa, .int vbr, .int vba, .int vsp, .int vhe, .int vtk, .int vva, .ref cu, .ref lt, .ref od, .ref th, .ref be, .ref ln, .int (nI S), .ref ma, .int (nI M), .ref ah, .ref bh, .ref ik, .ref la, .ref lg, .ref ce, .int vto])), (st, .inl (G 0, 196, .inl fst)), (od, .inl (G 1, 10, .inr (.inl fod))), (th, .inl (G 1, 10, .inr (.inl fth)))]) hP hD hS hA [0, 1, 2, 3] (by decide +kernel) rfl
    refine va_callv (va_runV (As := [.int (nI N), .int 0, .int (-4)]) (rest := []) ⟨hx, hb, hml, hown, hg⟩ (c_X11_layOdds l dC dI G _ h0 N st N B rp tp T cu lt od th be ln S ma M ah bh ik la lg ce 0 (-4) vrs vrb vhs vca vxs vxb vfa vbr vba vsp vhe vtk vva vto fst fod fth hN hB_ hT_ hS0 hM_ hst hN) (kwV hg mfX11_layOdds wt_1119 ⟨Nat.le_of_ble_eq_true rfl, Nat.le_of_ble_eq_true rfl⟩) (preVW hK hPc hDc (ci := 11) (r := (RX11, TX11, 35)) rfl rfl) rfl rfl hl.1 rfl (lv_room (Nat.le_of_ble_eq_true rfl)) dX11_wakes_22 ⟨Nat.le_of_ble_eq_true rfl, Nat.le_of_ble_eq_true rfl⟩) hS (fun q _ h => hFc q h) hFc (fun ur5 t H1 locs ht hvm w6 hB hz1 hk1 hS => ?_)
    obtain ⟨u7, u8⟩ := ur5
    obtain ⟨hP1, hD1⟩ := hB
    rw [ht] at hP1
    obtain ⟨hP, hD⟩ := va_join (wr := []) (w1 := [(h0, .inr (11, [.ref st, .int (nI N), .int (nI B), .ref rp, .int vrs, .int vrb, .int vhs, .int vca, .int vxs, .int vxb, .ref tp, .int (nI T), .int vfa, .int vbr, .int vba, .int vsp, .int vhe, .int vtk, .int vva, .ref cu, .ref lt, .ref od, .ref th, .ref be, .ref ln, .int (nI S), .ref ma, .int (nI M), .ref ah, .ref bh, .ref ik, .ref la, .ref lg, .ref ce, .int vto])), (st, .inl (G 0, 196, .inl fst)), (od, .inl (G 1, 10, .inr (.inl u7))), (th, .inl (G 1, 10, .inr (.inl u8)))]) hP hD [0, 1, 2, 3] [] rfl rfl (by decide +kernel) (by decide +kernel) hk1 hFc hP1 hD1
    generalize H1 = H at hP hS ⊢
    refine lv_aload_n hx hb dX11_wakes_25 rfl (lv_at hl 0 rfl) ?_
    refine va_get (D := (dC, dI)) (ci := 11) (v := .ref od) (C := RX11) (T := TX11) (N := 35) hx hb hg inG11 hown hK.1 hP 0 rfl rfl 21 (Nat.le_of_ble_eq_true rfl) (hg _ wt_899) (fun _ h9 => h9) rfl dX11_wakes_26 ?_
    refine lv_iconst (v := 0) hx hb dX11_wakes_29 rfl ?_
    refine va_lald hx hb hK.1 hP 2 1 rfl rfl (vp_in_iff.mpr ⟨by decide, by decide⟩) dX11_wakes_30 ?_
    refine lv_cgl (y := u7 0) (by rfl) ?_
    refine lv_aload_n hx hb dX11_wakes_31 rfl (lv_at hl 0 rfl) ?_
    refine va_get (D := (dC, dI)) (ci := 11) (v := .int (nI N)) (C := RX11) (T := TX11) (N := 35) hx hb hg inG11 hown hK.1 hP 0 rfl rfl 1 (Nat.le_of_ble_eq_true rfl) (hg _ wt_879) (fun _ h9 => h9) rfl dX11_wakes_32 ?_
    have hPc := hP.sub (ws' := []) [] rfl
    refine va_calll (va_runS (As := [.int (nI N)]) (rest := [.long (u7 0)]) ⟨hx, hb, hml, hown, hg⟩ (c_X11_power l dC dI G _ N hN) (kwS hg mfX11_power wt_1131 ⟨Nat.le_of_ble_eq_true rfl, Nat.le_of_ble_eq_true rfl⟩) (preSR hK hPc) rfl rfl hl.1 rfl (lv_room (Nat.le_of_ble_eq_true rfl)) dX11_wakes_35 ⟨Nat.le_of_ble_eq_true rfl, Nat.le_of_ble_eq_true rfl⟩) hS (fun q h1 h2 => absurd h2 (Nat.not_le.mpr h1)) (fun q h => hA q (Nat.le_trans hS.1 h)) (fun r9 ur9 t H1 locs ht hvm w10 hB hz1 hk1 hS => ?_)
    have hP := keepR hP hk1
    obtain ⟨w10, w10x⟩ := w10
    subst w10
    refine lv_iload_n hx hb dX11_wakes_38 rfl (lv_at hl 1 rfl) ?_
    have hPc := hP.sub (ws' := []) [] rfl
    refine va_calll (va_runS (As := [.long (u7 0), .long (powF N), .int what]) (rest := []) ⟨hx, hb, hml, hown, hg⟩ (c_X11_lowest l dC dI G _ what (u7 0) (powF N) (powF_ne (by have t_b4 := b4; have tnb_ := nib5 tn741_ tn742_ tn743_ tn744_ tn745_; omega))) (kwS hg mfX11_lowest wt_1134 ⟨Nat.le_of_ble_eq_true rfl, Nat.le_of_ble_eq_true rfl⟩) (preSR hK hPc) rfl rfl hl.1 rfl (lv_room (Nat.le_of_ble_eq_true rfl)) dX11_wakes_39 ⟨Nat.le_of_ble_eq_true rfl, Nat.le_of_ble_eq_true rfl⟩) hS (fun q h1 h2 => absurd h2 (Nat.not_le.mpr h1)) (fun q h => hA q (Nat.le_trans hS.1 h)) (fun r11 ur11 t H1 locs ht hvm w12 hB hz1 hk1 hS => ?_)
    have hP := keepR hP hk1
    obtain ⟨w12, w12x⟩ := w12
    have hpost : True := by
      trivial
    obtain ⟨hP9, hD9⟩ := va_sub2 (ws' := [(h0, .inr (11, [.ref st, .int (nI N), .int (nI B), .ref rp, .int vrs, .int vrb, .int vhs, .int vca, .int vxs, .int vxb, .ref tp, .int (nI T), .int vfa, .int vbr, .int vba, .int vsp, .int vhe, .int vtk, .int vva, .ref cu, .ref lt, .ref od, .ref th, .ref be, .ref ln, .int (nI S), .ref ma, .int (nI M), .ref ah, .ref bh, .ref ik, .ref la, .ref lg, .ref ce, .int vto])), (st, .inl (G 0, 196, .inl fst)), (od, .inl (G 1, 10, .inr (.inl u7))), (th, .inl (G 1, 10, .inr (.inl u8)))]) hP hD [0, 1, 2, 3] (by decide +kernel) rfl
    refine W.widen (k := 0) (n := 0) (Nat.le_of_ble_eq_true rfl) (Nat.le_of_ble_eq_true rfl) ?_
    exact W.lret (v := r11) hx hb hr (fun t ht hW => ⟨⟨r11, (u7, u8), rfl, ⟨hpost, trivial⟩, ⟨by rw [ht]; exact hP9, hD9⟩⟩, hS.F ht⟩) hS.2.2 dX11_wakes_42
  · skip
    have b13 := if10_n c3
    refine lv_ldc2 (v := (-1)) hx hb hown (hg _ wt_1118) dX11_wakes_10 ?_
    have hpost : True := by
      trivial
    obtain ⟨hP9, hD9⟩ := va_sub2 (ws' := [(h0, .inr (11, [.ref st, .int (nI N), .int (nI B), .ref rp, .int vrs, .int vrb, .int vhs, .int vca, .int vxs, .int vxb, .ref tp, .int (nI T), .int vfa, .int vbr, .int vba, .int vsp, .int vhe, .int vtk, .int vva, .ref cu, .ref lt, .ref od, .ref th, .ref be, .ref ln, .int (nI S), .ref ma, .int (nI M), .ref ah, .ref bh, .ref ik, .ref la, .ref lg, .ref ce, .int vto])), (st, .inl (G 0, 196, .inl fst)), (od, .inl (G 1, 10, .inr (.inl fod))), (th, .inl (G 1, 10, .inr (.inl fth)))]) hP hD [0, 1, 2, 3] (by decide +kernel) rfl
    refine W.widen (k := 0) (n := 0) (Nat.le_of_ble_eq_true rfl) (Nat.le_of_ble_eq_true rfl) ?_
    exact W.lret (v := (-1)) hx hb hr (fun t ht hW => ⟨⟨(-1), (fod, fth), rfl, ⟨hpost, trivial⟩, ⟨by rw [ht]; exact hP9, hD9⟩⟩, hS.F ht⟩) hS.2.2 dX11_wakes_13

set_option maxHeartbeats 1000000 in
set_option maxRecDepth 100000 in
theorem c_X11_depth (l : Launch) (dC : Nat → ClassId) (dI : Nat → Nat → Nat) (G : Nat → ClassId) (sz : Nat) (h0 st N B rp tp T cu lt od th be ln S ma M ah bh ik la lg ce : Nat) (i d what vrs vrb vhs vca vxs vxb vfa vbr vba vsp vhe vtk vva vto : Int32) (fst : Nat → Int32) (fod : Nat → Int64) (fth : Nat → Int64) (hN : N ≤ 10) (hB : B ≤ 6) (hT : T ≤ 320) (hS0 : S ≤ 8) (hM : M ≤ 6) (hst : OKS fst) : Met l yX11_depth (Cond.code yX11_depth cX11_depth 4 (some .long) :: GT) ({ frames := 4, cells := 0, slots := 0, locals := 99 } : Room) (PcW [.ref h0, .int i, .int d, .int what] dC dI G [(h0, .inr (11, [.ref st, .int (nI N), .int (nI B), .ref rp, .int vrs, .int vrb, .int vhs, .int vca, .int vxs, .int vxb, .ref tp, .int (nI T), .int vfa, .int vbr, .int vba, .int vsp, .int vhe, .int vtk, .int vva, .ref cu, .ref lt, .ref od, .ref th, .ref be, .ref ln, .int (nI S), .ref ma, .int (nI M), .ref ah, .ref bh, .ref ik, .ref la, .ref lg, .ref ce, .int vto])), (st, .inl (G 0, 196, .inl fst)), (od, .inl (G 1, 10, .inr (.inl fod))), (th, .inl (G 1, 10, .inr (.inl fth)))] sz) (va_Ql (fun (r : Int64) (u : (Nat → Int64) × (Nat → Int64)) => match u with | (ood, oth) => (True) ∧ True) (fun (u : (Nat → Int64) × (Nat → Int64)) (t : State) => match u with | (ood, oth) => va_P (dC, dI) vwCl [(h0, .inr (11, [.ref st, .int (nI N), .int (nI B), .ref rp, .int vrs, .int vrb, .int vhs, .int vca, .int vxs, .int vxb, .ref tp, .int (nI T), .int vfa, .int vbr, .int vba, .int vsp, .int vhe, .int vtk, .int vva, .ref cu, .ref lt, .ref od, .ref th, .ref be, .ref ln, .int (nI S), .ref ma, .int (nI M), .ref ah, .ref bh, .ref ik, .ref la, .ref lg, .ref ce, .int vto])), (st, .inl (G 0, 196, .inl fst)), (od, .inl (G 1, 10, .inr (.inl ood))), (th, .inl (G 1, 10, .inr (.inl oth)))] t.heap ∧ va_D (va_A [(h0, .inr (11, [.ref st, .int (nI N), .int (nI B), .ref rp, .int vrs, .int vrb, .int vhs, .int vca, .int vxs, .int vxb, .ref tp, .int (nI T), .int vfa, .int vbr, .int vba, .int vsp, .int vhe, .int vtk, .int vva, .ref cu, .ref lt, .ref od, .ref th, .ref be, .ref ln, .int (nI S), .ref ma, .int (nI M), .ref ah, .ref bh, .ref ik, .ref la, .ref lg, .ref ce, .int vto])), (st, .inl (G 0, 196, .inl fst)), (od, .inl (G 1, 10, .inr (.inl fod))), (th, .inl (G 1, 10, .inr (.inl fth)))] sz) [(h0, .inr (11, [.ref st, .int (nI N), .int (nI B), .ref rp, .int vrs, .int vrb, .int vhs, .int vca, .int vxs, .int vxb, .ref tp, .int (nI T), .int vfa, .int vbr, .int vba, .int vsp, .int vhe, .int vtk, .int vva, .ref cu, .ref lt, .ref od, .ref th, .ref be, .ref ln, .int (nI S), .ref ma, .int (nI M), .ref ah, .ref bh, .ref ik, .ref la, .ref lg, .ref ce, .int vto])), (st, .inl (G 0, 196, .inl fst)), (od, .inl (G 1, 10, .inr (.inl ood))), (th, .inl (G 1, 10, .inr (.inl oth)))]) (va_A [(h0, .inr (11, [.ref st, .int (nI N), .int (nI B), .ref rp, .int vrs, .int vrb, .int vhs, .int vca, .int vxs, .int vxb, .ref tp, .int (nI T), .int vfa, .int vbr, .int vba, .int vsp, .int vhe, .int vtk, .int vva, .ref cu, .ref lt, .ref od, .ref th, .ref be, .ref ln, .int (nI S), .ref ma, .int (nI M), .ref ah, .ref bh, .ref ik, .ref la, .ref lg, .ref ce, .int vto])), (st, .inl (G 0, 196, .inl fst)), (od, .inl (G 1, 10, .inr (.inl fod))), (th, .inl (G 1, 10, .inr (.inl fth)))] sz)) 0 0 (va_A [(h0, .inr (11, [.ref st, .int (nI N), .int (nI B), .ref rp, .int vrs, .int vrb, .int vhs, .int vca, .int vxs, .int vxb, .ref tp, .int (nI T), .int vfa, .int vbr, .int vba, .int vsp, .int vhe, .int vtk, .int vva, .ref cu, .ref lt, .ref od, .ref th, .ref be, .ref ln, .int (nI S), .ref ma, .int (nI M), .ref ah, .ref bh, .ref ik, .ref la, .ref lg, .ref ce, .int vto])), (st, .inl (G 0, 196, .inl fst)), (od, .inl (G 1, 10, .inr (.inl fod))), (th, .inl (G 1, 10, .inr (.inl fth)))] sz) := by
  have hB_ := hB
  have hM_ := hM
  have hT_ := hT
  have tn746_ : nIT N := fun _ => nI_toInt (by omega)
  have tn747_ : nIT B := fun _ => nI_toInt (by omega)
  have tn748_ : nIT T := fun _ => nI_toInt (by omega)
  have tn749_ : nIT S := fun _ => nI_toInt (by omega)
  have tn750_ : nIT M := fun _ => nI_toInt (by omega)
  refine Met.ofW (cc := cX11_depth) (maxL := 4) (ret := (some .long)) (by decide) rfl ?_
  intro p e s m args below meth c s₁ Bd hml hv
  obtain ⟨rfl, hsz, hP, hK, hD0⟩ := hv
  have hx := Bd.exec
  have hb := Bd.bytes
  have hr := Bd.returns
  have hg : ∀ w ∈ GT, w.before ([.ref h0, .int i, .int d, .int what] : List Value).toArray s = true := fun w h => atoms_spec (ws := Cond.code yX11_depth cX11_depth 4 (some .long) :: GT) Bd.pre w (List.mem_cons_of_mem _ h)
  have hown : s.vm.findClass RX11 = some m.cls := findClass_of_methodNamed Bd.named
  have hlocks := Bd.notSynchronized
  subst hsz
  have hD := hD0.self (sz := s.heap.size)
  generalize hAe : va_A [(h0, .inr (11, [.ref st, .int (nI N), .int (nI B), .ref rp, .int vrs, .int vrb, .int vhs, .int vca, .int vxs, .int vxb, .ref tp, .int (nI T), .int vfa, .int vbr, .int vba, .int vsp, .int vhe, .int vtk, .int vva, .ref cu, .ref lt, .ref od, .ref th, .ref be, .ref ln, .int (nI S), .ref ma, .int (nI M), .ref ah, .ref bh, .ref ik, .ref la, .ref lg, .ref ce, .int vto])), (st, .inl (G 0, 196, .inl fst)), (od, .inl (G 1, 10, .inr (.inl fod))), (th, .inl (G 1, 10, .inr (.inl fth)))] s.heap.size = A at hD ⊢
  have hA : ∀ q : Nat, s.heap.size ≤ q → A q := fun q h => by rw [← hAe]; exact Or.inr h
  have hS : va_S A s.heap s.heap [] := va_S.rf
  have hl := lv_entry ([.ref h0, .int i, .int d, .int what]) (n := 4) (Nat.le_of_ble_eq_true rfl)
  rw [lg_entry_eq]
  generalize (lg_sl ([.ref h0, .int i, .int d, .int what]) ++ List.replicate (4 - (lg_sl ([.ref h0, .int i, .int d, .int what])).length) Slot.unset).toArray = ls at hl ⊢
  have hl : lv_has ls 4 [(0, .ref h0), (1, .int i), (2, .int d), (3, .int what)] := hl
  refine lv_aload_n hx hb dX11_depth_0 rfl (lv_at hl 0 rfl) ?_
  refine lv_iload_n hx hb dX11_depth_1 rfl (lv_at hl 1 rfl) ?_
  have hPc := hP.sub (ws' := [(h0, .inr (11, [.ref st, .int (nI N), .int (nI B), .ref rp, .int vrs, .int vrb, .int vhs, .int vca, .int vxs, .int vxb, .ref tp, .int (nI T), .int vfa, .int vbr, .int vba, .int vsp, .int vhe, .int vtk, .int vva, .ref cu, .ref lt, .ref od, .ref th, .ref be, .ref ln, .int (nI S), .ref ma, .int (nI M), .ref ah, .ref bh, .ref ik, .ref la, .ref lg, .ref ce, .int vto]))]) [0] rfl
  refine va_calli (va_runV (As := [.int i]) (rest := []) ⟨hx, hb, hml, hown, hg⟩ (c_X11_isStretch l dC dI G _ h0 st N B rp tp T cu lt od th be ln S ma M ah bh ik la lg ce i vrs vrb vhs vca vxs vxb vfa vbr vba vsp vhe vtk vva vto hN hB_ hT_ hS0 hM_) (kwV hg mfX11_isStretch wt_1052 ⟨Nat.le_of_ble_eq_true rfl, Nat.le_of_ble_eq_true rfl⟩) (preVR hK hPc (ci := 11) (r := (RX11, TX11, 35)) rfl rfl) rfl rfl hl.1 rfl (lv_room (Nat.le_of_ble_eq_true rfl)) dX11_depth_2 ⟨Nat.le_of_ble_eq_true rfl, Nat.le_of_ble_eq_true rfl⟩) hS (fun q h1 h2 => absurd h2 (Nat.not_le.mpr h1)) (fun q h => hA q (Nat.le_trans hS.1 h)) (fun r1 ur1 t H1 locs ht hvm w2 hB hz1 hk1 hS => ?_)
  have hP := keepR hP hk1
  obtain ⟨w2, w2x⟩ := w2
  try simp only [l_ii, show (0 : Int32).toInt = 0 from by decide] at w2
  try rw [show (nI (N)).toInt = ((N : Nat) : Int) from tn746_ ()] at w2
  subst w2
  refine lv_if_eq (tgt := 30) hx hb dX11_depth_5 rfl (fun c3 => ?_) (fun c3 => ?_)
  · skip
    have b4 := if10_n c3
    refine lv_ldc2 (v := (-1)) hx hb hown (hg _ wt_1118) dX11_depth_30 ?_
    have hpost : True := by
      trivial
    obtain ⟨hP9, hD9⟩ := va_sub2 (ws' := [(h0, .inr (11, [.ref st, .int (nI N), .int (nI B), .ref rp, .int vrs, .int vrb, .int vhs, .int vca, .int vxs, .int vxb, .ref tp, .int (nI T), .int vfa, .int vbr, .int vba, .int vsp, .int vhe, .int vtk, .int vva, .ref cu, .ref lt, .ref od, .ref th, .ref be, .ref ln, .int (nI S), .ref ma, .int (nI M), .ref ah, .ref bh, .ref ik, .ref la, .ref lg, .ref ce, .int vto])), (st, .inl (G 0, 196, .inl fst)), (od, .inl (G 1, 10, .inr (.inl fod))), (th, .inl (G 1, 10, .inr (.inl fth)))]) hP hD [0, 1, 2, 3] (by decide +kernel) rfl
    refine W.widen (k := 0) (n := 0) (Nat.le_of_ble_eq_true rfl) (Nat.le_of_ble_eq_true rfl) ?_
    exact W.lret (v := (-1)) hx hb hr (fun t ht hW => ⟨⟨(-1), (fod, fth), rfl, ⟨hpost, trivial⟩, ⟨by rw [ht]; exact hP9, hD9⟩⟩, hS.F ht⟩) hS.2.2 dX11_depth_33
  · skip
    have b5 := if10_p c3
    refine lv_iload_n hx hb dX11_depth_8 rfl (lv_at hl 2 rfl) ?_
    refine lv_i2l (v := d.toInt64) hx hb dX11_depth_9 rfl ?_
    refine lv_lconst (v := 0) hx hb dX11_depth_10 (by decide) ?_
    refine lv_ldc2 (v := 9) hx hb hown (hg _ wt_1069) dX11_depth_11 ?_
    have hPc := hP.sub (ws' := []) [] rfl
    refine va_calli (va_runS (As := [.long d.toInt64, .long 0, .long 9]) (rest := []) ⟨hx, hb, hml, hown, hg⟩ (c_X11_in l dC dI G _ d.toInt64 0 9) (kwS hg mfX11_in wt_992 ⟨Nat.le_of_ble_eq_true rfl, Nat.le_of_ble_eq_true rfl⟩) (preSR hK hPc) rfl rfl hl.1 rfl (lv_room (Nat.le_of_ble_eq_true rfl)) dX11_depth_14 ⟨Nat.le_of_ble_eq_true rfl, Nat.le_of_ble_eq_true rfl⟩) hS (fun q h1 h2 => absurd h2 (Nat.not_le.mpr h1)) (fun q h => hA q (Nat.le_trans hS.1 h)) (fun r6 ur6 t H1 locs ht hvm w7 hB hz1 hk1 hS => ?_)
    have hP := keepR hP hk1
    obtain ⟨w7, w7x⟩ := w7
    try simp only [l_ii, show (0 : Int64).toInt = 0 from by decide, show (9 : Int64).toInt = 9 from by decide] at w7
    subst w7
    refine lv_if_eq (tgt := 30) hx hb dX11_depth_17 rfl (fun c8 => ?_) (fun c8 => ?_)
    · skip
      have b9 := if10_n c8
      refine lv_ldc2 (v := (-1)) hx hb hown (hg _ wt_1118) dX11_depth_30 ?_
      have hpost : True := by
        trivial
      obtain ⟨hP9, hD9⟩ := va_sub2 (ws' := [(h0, .inr (11, [.ref st, .int (nI N), .int (nI B), .ref rp, .int vrs, .int vrb, .int vhs, .int vca, .int vxs, .int vxb, .ref tp, .int (nI T), .int vfa, .int vbr, .int vba, .int vsp, .int vhe, .int vtk, .int vva, .ref cu, .ref lt, .ref od, .ref th, .ref be, .ref ln, .int (nI S), .ref ma, .int (nI M), .ref ah, .ref bh, .ref ik, .ref la, .ref lg, .ref ce, .int vto])), (st, .inl (G 0, 196, .inl fst)), (od, .inl (G 1, 10, .inr (.inl fod))), (th, .inl (G 1, 10, .inr (.inl fth)))]) hP hD [0, 1, 2, 3] (by decide +kernel) rfl
      refine W.widen (k := 0) (n := 0) (Nat.le_of_ble_eq_true rfl) (Nat.le_of_ble_eq_true rfl) ?_
      exact W.lret (v := (-1)) hx hb hr (fun t ht hW => ⟨⟨(-1), (fod, fth), rfl, ⟨hpost, trivial⟩, ⟨by rw [ht]; exact hP9, hD9⟩⟩, hS.F ht⟩) hS.2.2 dX11_depth_33
    · skip
      have b10 := if10_p c8
      refine lv_iload_n hx hb dX11_depth_20 rfl (lv_at hl 3 rfl) ?_
      refine lv_i2l (v := what.toInt64) hx hb dX11_depth_21 rfl ?_
      refine lv_lconst (v := 0) hx hb dX11_depth_22 (by decide) ?_
      refine lv_lconst (v := 1) hx hb dX11_depth_23 (by decide) ?_
      have hPc := hP.sub (ws' := []) [] rfl
      refine va_calli (va_runS (As := [.long what.toInt64, .long 0, .long 1]) (rest := []) ⟨hx, hb, hml, hown, hg⟩ (c_X11_in l dC dI G _ what.toInt64 0 1) (kwS hg mfX11_in wt_992 ⟨Nat.le_of_ble_eq_true rfl, Nat.le_of_ble_eq_true rfl⟩) (preSR hK hPc) rfl rfl hl.1 rfl (lv_room (Nat.le_of_ble_eq_true rfl)) dX11_depth_24 ⟨Nat.le_of_ble_eq_true rfl, Nat.le_of_ble_eq_true rfl⟩) hS (fun q h1 h2 => absurd h2 (Nat.not_le.mpr h1)) (fun q h => hA q (Nat.le_trans hS.1 h)) (fun r11 ur11 t H1 locs ht hvm w12 hB hz1 hk1 hS => ?_)
      have hP := keepR hP hk1
      obtain ⟨w12, w12x⟩ := w12
      try simp only [l_ii, show (0 : Int64).toInt = 0 from by decide, show (1 : Int64).toInt = 1 from by decide] at w12
      subst w12
      refine lv_if_ne (tgt := 34) hx hb dX11_depth_27 rfl (fun c13 => ?_) (fun c13 => ?_)
      · skip
        have b14 := if10_p c13
        obtain ⟨ii, hii, rfl⟩ : ∃ j : Nat, j < 10 ∧ i = nI j := by
          have t_b5 := b5
          have t_b10 := b10
          have t_b14 := b14
          have t_n0 : (nI N).toInt = (N : Int) := tn746_ ()
          have t_n1 : (nI B).toInt = (B : Int) := tn747_ ()
          have t_n2 : (nI T).toInt = (T : Int) := tn748_ ()
          have t_n3 : (nI S).toInt = (S : Int) := tn749_ ()
          have t_n4 : (nI M).toInt = (M : Int) := tn750_ ()
          exact i32_nat (by omega) (by omega)
        obtain ⟨dd, hdd, rfl⟩ : ∃ j : Nat, j < 10 ∧ d = nI j := by
          have t_b5 := b5
          have t_b10 := b10
          have t_b14 := b14
          have t_hii := hii
          have t_n0 : (nI N).toInt = (N : Int) := tn746_ ()
          have t_n1 : (nI B).toInt = (B : Int) := tn747_ ()
          have t_n2 : (nI T).toInt = (T : Int) := tn748_ ()
          have t_n3 : (nI S).toInt = (S : Int) := tn749_ ()
          have t_n4 : (nI M).toInt = (M : Int) := tn750_ ()
          have tn751_ : nIT ii := fun _ => nI_toInt (by omega)
          have t_n5 : (nI ii).toInt = (ii : Int) := tn751_ ()
          exact i32_nat (by omega) (by omega)
        refine lv_aload_n hx hb dX11_depth_34 rfl (lv_at hl 0 rfl) ?_
        refine lv_iload_n hx hb dX11_depth_35 rfl (lv_at hl 1 rfl) ?_
        refine lv_iconst (v := 1) hx hb dX11_depth_36 rfl ?_
        refine lv_iadd hx hb dX11_depth_37 ?_
        refine lv_cg (y := nI (ii + 1)) (by rw [show (1 : Int32) = nI 1 from rfl]; exact nI_add _ _) ?_
        refine lv_iconst (v := 0) hx hb dX11_depth_38 rfl ?_
        refine lv_bipush (v := (-4)) hx hb dX11_depth_39 rfl ?_
        obtain ⟨hPc, hDc, hFc⟩ := va_sub3 (ws' := [(h0, .inr (11, [.ref st, .int (nI N), .int (nI B), .ref rp, .int vrs, .int vrb, .int vhs, .int vca, .int vxs, .int vxb, .ref tp, .int (nI T), .int vfa, .int vbr, .int vba, .int vsp, .int vhe, .int vtk, .int vva, .ref cu, .ref lt, .ref od, .ref th, .ref be, .ref ln, .int (nI S), .ref ma, .int (nI M), .ref ah, .ref bh, .ref ik, .ref la, .ref lg, .ref ce, .int vto])), (st, .inl (G 0, 196, .inl fst)), (od, .inl (G 1, 10, .inr (.inl fod))), (th, .inl (G 1, 10, .inr (.inl fth)))]) hP hD hS hA [0, 1, 2, 3] (by decide +kernel) rfl
        have tn752_ : nIT ii := fun _ => nI_toInt (by first | omega | (have t_b5 := b5; have t_b10 := b10; have t_b14 := b14; have t_hii := hii; have t_hdd := hdd; omega))
        have tn753_ : nIT dd := fun _ => nI_toInt (by first | omega | (have t_b5 := b5; have t_b10 := b10; have t_b14 := b14; have t_hii := hii; have t_hdd := hdd; omega))
        refine va_callv (va_runV (As := [.int (nI (ii + 1)), .int 0, .int (-4)]) (rest := []) ⟨hx, hb, hml, hown, hg⟩ (c_X11_layOdds l dC dI G _ h0 (ii + 1) st N B rp tp T cu lt od th be ln S ma M ah bh ik la lg ce 0 (-4) vrs vrb vhs vca vxs vxb vfa vbr vba vsp vhe vtk vva vto fst fod fth hN hB_ hT_ hS0 hM_ hst (by first | omega | (have t_b5 := b5; have t_b10 := b10; have t_b14 := b14; have t_hii := hii; have t_hdd := hdd; have tnb_ := nib7 tn746_ tn747_ tn748_ tn749_ tn750_ tn752_ tn753_; omega))) (kwV hg mfX11_layOdds wt_1119 ⟨Nat.le_of_ble_eq_true rfl, Nat.le_of_ble_eq_true rfl⟩) (preVW hK hPc hDc (ci := 11) (r := (RX11, TX11, 35)) rfl rfl) rfl rfl hl.1 rfl (lv_room (Nat.le_of_ble_eq_true rfl)) dX11_depth_41 ⟨Nat.le_of_ble_eq_true rfl, Nat.le_of_ble_eq_true rfl⟩) hS (fun q _ h => hFc q h) hFc (fun ur15 t H1 locs ht hvm w16 hB hz1 hk1 hS => ?_)
        obtain ⟨u17, u18⟩ := ur15
        obtain ⟨hP1, hD1⟩ := hB
        rw [ht] at hP1
        obtain ⟨hP, hD⟩ := va_join (wr := []) (w1 := [(h0, .inr (11, [.ref st, .int (nI N), .int (nI B), .ref rp, .int vrs, .int vrb, .int vhs, .int vca, .int vxs, .int vxb, .ref tp, .int (nI T), .int vfa, .int vbr, .int vba, .int vsp, .int vhe, .int vtk, .int vva, .ref cu, .ref lt, .ref od, .ref th, .ref be, .ref ln, .int (nI S), .ref ma, .int (nI M), .ref ah, .ref bh, .ref ik, .ref la, .ref lg, .ref ce, .int vto])), (st, .inl (G 0, 196, .inl fst)), (od, .inl (G 1, 10, .inr (.inl u17))), (th, .inl (G 1, 10, .inr (.inl u18)))]) hP hD [0, 1, 2, 3] [] rfl rfl (by decide +kernel) (by decide +kernel) hk1 hFc hP1 hD1
        generalize H1 = H at hP hS ⊢
        refine lv_aload_n hx hb dX11_depth_44 rfl (lv_at hl 0 rfl) ?_
        refine va_get (D := (dC, dI)) (ci := 11) (v := .ref od) (C := RX11) (T := TX11) (N := 35) hx hb hg inG11 hown hK.1 hP 0 rfl rfl 21 (Nat.le_of_ble_eq_true rfl) (hg _ wt_899) (fun _ h9 => h9) rfl dX11_depth_45 ?_
        refine lv_iload_n hx hb dX11_depth_48 rfl (lv_at hl 2 rfl) ?_
        refine va_lald hx hb hK.1 hP 2 1 rfl rfl (vp_in_nI (by first | omega | (have t_b5 := b5; have t_b10 := b10; have t_b14 := b14; have t_hii := hii; have t_hdd := hdd; have tnb_ := nib7 tn746_ tn747_ tn748_ tn749_ tn750_ tn752_ tn753_; omega)) (by decide)) dX11_depth_49 ?_
        refine lv_cgl (y := u17 dd) (by rw [nI_clamp (by omega)]) ?_
        refine lv_iload_n hx hb dX11_depth_50 rfl (lv_at hl 1 rfl) ?_
        refine lv_iconst (v := 1) hx hb dX11_depth_51 rfl ?_
        refine lv_iadd hx hb dX11_depth_52 ?_
        refine lv_cg (y := nI (ii + 1)) (by rw [show (1 : Int32) = nI 1 from rfl]; exact nI_add _ _) ?_
        have hPc := hP.sub (ws' := []) [] rfl
        refine va_calll (va_runS (As := [.int (nI (ii + 1))]) (rest := [.long (u17 dd)]) ⟨hx, hb, hml, hown, hg⟩ (c_X11_power l dC dI G _ (ii + 1) (by first | omega | (have t_b5 := b5; have t_b10 := b10; have t_b14 := b14; have t_hii := hii; have t_hdd := hdd; have tnb_ := nib7 tn746_ tn747_ tn748_ tn749_ tn750_ tn752_ tn753_; omega))) (kwS hg mfX11_power wt_1131 ⟨Nat.le_of_ble_eq_true rfl, Nat.le_of_ble_eq_true rfl⟩) (preSR hK hPc) rfl rfl hl.1 rfl (lv_room (Nat.le_of_ble_eq_true rfl)) dX11_depth_53 ⟨Nat.le_of_ble_eq_true rfl, Nat.le_of_ble_eq_true rfl⟩) hS (fun q h1 h2 => absurd h2 (Nat.not_le.mpr h1)) (fun q h => hA q (Nat.le_trans hS.1 h)) (fun r19 ur19 t H1 locs ht hvm w20 hB hz1 hk1 hS => ?_)
        have hP := keepR hP hk1
        obtain ⟨w20, w20x⟩ := w20
        subst w20
        refine lv_iload_n hx hb dX11_depth_56 rfl (lv_at hl 3 rfl) ?_
        have hPc := hP.sub (ws' := []) [] rfl
        refine va_calll (va_runS (As := [.long (u17 dd), .long (powF (ii + 1)), .int what]) (rest := []) ⟨hx, hb, hml, hown, hg⟩ (c_X11_lowest l dC dI G _ what (u17 dd) (powF (ii + 1)) (powF_ne (by have t_b5 := b5; have t_b10 := b10; have t_b14 := b14; have t_hii := hii; have t_hdd := hdd; have tnb_ := nib7 tn746_ tn747_ tn748_ tn749_ tn750_ tn752_ tn753_; omega))) (kwS hg mfX11_lowest wt_1134 ⟨Nat.le_of_ble_eq_true rfl, Nat.le_of_ble_eq_true rfl⟩) (preSR hK hPc) rfl rfl hl.1 rfl (lv_room (Nat.le_of_ble_eq_true rfl)) dX11_depth_57 ⟨Nat.le_of_ble_eq_true rfl, Nat.le_of_ble_eq_true rfl⟩) hS (fun q h1 h2 => absurd h2 (Nat.not_le.mpr h1)) (fun q h => hA q (Nat.le_trans hS.1 h)) (fun r21 ur21 t H1 locs ht hvm w22 hB hz1 hk1 hS => ?_)
        have hP := keepR hP hk1
        obtain ⟨w22, w22x⟩ := w22
        have hpost : True := by
          trivial
        obtain ⟨hP9, hD9⟩ := va_sub2 (ws' := [(h0, .inr (11, [.ref st, .int (nI N), .int (nI B), .ref rp, .int vrs, .int vrb, .int vhs, .int vca, .int vxs, .int vxb, .ref tp, .int (nI T), .int vfa, .int vbr, .int vba, .int vsp, .int vhe, .int vtk, .int vva, .ref cu, .ref lt, .ref od, .ref th, .ref be, .ref ln, .int (nI S), .ref ma, .int (nI M), .ref ah, .ref bh, .ref ik, .ref la, .ref lg, .ref ce, .int vto])), (st, .inl (G 0, 196, .inl fst)), (od, .inl (G 1, 10, .inr (.inl u17))), (th, .inl (G 1, 10, .inr (.inl u18)))]) hP hD [0, 1, 2, 3] (by decide +kernel) rfl
        refine W.widen (k := 0) (n := 0) (Nat.le_of_ble_eq_true rfl) (Nat.le_of_ble_eq_true rfl) ?_
        exact W.lret (v := r21) hx hb hr (fun t ht hW => ⟨⟨r21, (u17, u18), rfl, ⟨hpost, trivial⟩, ⟨by rw [ht]; exact hP9, hD9⟩⟩, hS.F ht⟩) hS.2.2 dX11_depth_60
      · skip
        have b23 := if10_n c13
        refine lv_ldc2 (v := (-1)) hx hb hown (hg _ wt_1118) dX11_depth_30 ?_
        have hpost : True := by
          trivial
        obtain ⟨hP9, hD9⟩ := va_sub2 (ws' := [(h0, .inr (11, [.ref st, .int (nI N), .int (nI B), .ref rp, .int vrs, .int vrb, .int vhs, .int vca, .int vxs, .int vxb, .ref tp, .int (nI T), .int vfa, .int vbr, .int vba, .int vsp, .int vhe, .int vtk, .int vva, .ref cu, .ref lt, .ref od, .ref th, .ref be, .ref ln, .int (nI S), .ref ma, .int (nI M), .ref ah, .ref bh, .ref ik, .ref la, .ref lg, .ref ce, .int vto])), (st, .inl (G 0, 196, .inl fst)), (od, .inl (G 1, 10, .inr (.inl fod))), (th, .inl (G 1, 10, .inr (.inl fth)))]) hP hD [0, 1, 2, 3] (by decide +kernel) rfl
        refine W.widen (k := 0) (n := 0) (Nat.le_of_ble_eq_true rfl) (Nat.le_of_ble_eq_true rfl) ?_
        exact W.lret (v := (-1)) hx hb hr (fun t ht hW => ⟨⟨(-1), (fod, fth), rfl, ⟨hpost, trivial⟩, ⟨by rw [ht]; exact hP9, hD9⟩⟩, hS.F ht⟩) hS.2.2 dX11_depth_33

set_option maxHeartbeats 1000000 in
set_option maxRecDepth 100000 in
theorem c_X11_awake (l : Launch) (dC : Nat → ClassId) (dI : Nat → Nat → Nat) (G : Nat → ClassId) (sz : Nat) (h0 st N B rp tp T cu lt od th be ln S ma M ah bh ik la lg ce : Nat) (i what vrs vrb vhs vca vxs vxb vfa vbr vba vsp vhe vtk vva vto : Int32) (fst : Nat → Int32) (fod : Nat → Int64) (fth : Nat → Int64) (hN : N ≤ 10) (hB : B ≤ 6) (hT : T ≤ 320) (hS0 : S ≤ 8) (hM : M ≤ 6) (hst : OKS fst) : Met l yX11_awake (Cond.code yX11_awake cX11_awake 3 (some .long) :: GT) ({ frames := 5, cells := 0, slots := 0, locals := 122 } : Room) (PcW [.ref h0, .int i, .int what] dC dI G [(h0, .inr (11, [.ref st, .int (nI N), .int (nI B), .ref rp, .int vrs, .int vrb, .int vhs, .int vca, .int vxs, .int vxb, .ref tp, .int (nI T), .int vfa, .int vbr, .int vba, .int vsp, .int vhe, .int vtk, .int vva, .ref cu, .ref lt, .ref od, .ref th, .ref be, .ref ln, .int (nI S), .ref ma, .int (nI M), .ref ah, .ref bh, .ref ik, .ref la, .ref lg, .ref ce, .int vto])), (st, .inl (G 0, 196, .inl fst)), (od, .inl (G 1, 10, .inr (.inl fod))), (th, .inl (G 1, 10, .inr (.inl fth)))] sz) (va_Ql (fun (r : Int64) (u : (Nat → Int64) × (Nat → Int64)) => match u with | (ood, oth) => (True) ∧ True) (fun (u : (Nat → Int64) × (Nat → Int64)) (t : State) => match u with | (ood, oth) => va_P (dC, dI) vwCl [(h0, .inr (11, [.ref st, .int (nI N), .int (nI B), .ref rp, .int vrs, .int vrb, .int vhs, .int vca, .int vxs, .int vxb, .ref tp, .int (nI T), .int vfa, .int vbr, .int vba, .int vsp, .int vhe, .int vtk, .int vva, .ref cu, .ref lt, .ref od, .ref th, .ref be, .ref ln, .int (nI S), .ref ma, .int (nI M), .ref ah, .ref bh, .ref ik, .ref la, .ref lg, .ref ce, .int vto])), (st, .inl (G 0, 196, .inl fst)), (od, .inl (G 1, 10, .inr (.inl ood))), (th, .inl (G 1, 10, .inr (.inl oth)))] t.heap ∧ va_D (va_A [(h0, .inr (11, [.ref st, .int (nI N), .int (nI B), .ref rp, .int vrs, .int vrb, .int vhs, .int vca, .int vxs, .int vxb, .ref tp, .int (nI T), .int vfa, .int vbr, .int vba, .int vsp, .int vhe, .int vtk, .int vva, .ref cu, .ref lt, .ref od, .ref th, .ref be, .ref ln, .int (nI S), .ref ma, .int (nI M), .ref ah, .ref bh, .ref ik, .ref la, .ref lg, .ref ce, .int vto])), (st, .inl (G 0, 196, .inl fst)), (od, .inl (G 1, 10, .inr (.inl fod))), (th, .inl (G 1, 10, .inr (.inl fth)))] sz) [(h0, .inr (11, [.ref st, .int (nI N), .int (nI B), .ref rp, .int vrs, .int vrb, .int vhs, .int vca, .int vxs, .int vxb, .ref tp, .int (nI T), .int vfa, .int vbr, .int vba, .int vsp, .int vhe, .int vtk, .int vva, .ref cu, .ref lt, .ref od, .ref th, .ref be, .ref ln, .int (nI S), .ref ma, .int (nI M), .ref ah, .ref bh, .ref ik, .ref la, .ref lg, .ref ce, .int vto])), (st, .inl (G 0, 196, .inl fst)), (od, .inl (G 1, 10, .inr (.inl ood))), (th, .inl (G 1, 10, .inr (.inl oth)))]) (va_A [(h0, .inr (11, [.ref st, .int (nI N), .int (nI B), .ref rp, .int vrs, .int vrb, .int vhs, .int vca, .int vxs, .int vxb, .ref tp, .int (nI T), .int vfa, .int vbr, .int vba, .int vsp, .int vhe, .int vtk, .int vva, .ref cu, .ref lt, .ref od, .ref th, .ref be, .ref ln, .int (nI S), .ref ma, .int (nI M), .ref ah, .ref bh, .ref ik, .ref la, .ref lg, .ref ce, .int vto])), (st, .inl (G 0, 196, .inl fst)), (od, .inl (G 1, 10, .inr (.inl fod))), (th, .inl (G 1, 10, .inr (.inl fth)))] sz)) 0 0 (va_A [(h0, .inr (11, [.ref st, .int (nI N), .int (nI B), .ref rp, .int vrs, .int vrb, .int vhs, .int vca, .int vxs, .int vxb, .ref tp, .int (nI T), .int vfa, .int vbr, .int vba, .int vsp, .int vhe, .int vtk, .int vva, .ref cu, .ref lt, .ref od, .ref th, .ref be, .ref ln, .int (nI S), .ref ma, .int (nI M), .ref ah, .ref bh, .ref ik, .ref la, .ref lg, .ref ce, .int vto])), (st, .inl (G 0, 196, .inl fst)), (od, .inl (G 1, 10, .inr (.inl fod))), (th, .inl (G 1, 10, .inr (.inl fth)))] sz) := by
  have hB_ := hB
  have hM_ := hM
  have hT_ := hT
  have tn754_ : nIT N := fun _ => nI_toInt (by omega)
  have tn755_ : nIT B := fun _ => nI_toInt (by omega)
  have tn756_ : nIT T := fun _ => nI_toInt (by omega)
  have tn757_ : nIT S := fun _ => nI_toInt (by omega)
  have tn758_ : nIT M := fun _ => nI_toInt (by omega)
  refine Met.ofW (cc := cX11_awake) (maxL := 3) (ret := (some .long)) (by decide) rfl ?_
  intro p e s m args below meth c s₁ Bd hml hv
  obtain ⟨rfl, hsz, hP, hK, hD0⟩ := hv
  have hx := Bd.exec
  have hb := Bd.bytes
  have hr := Bd.returns
  have hg : ∀ w ∈ GT, w.before ([.ref h0, .int i, .int what] : List Value).toArray s = true := fun w h => atoms_spec (ws := Cond.code yX11_awake cX11_awake 3 (some .long) :: GT) Bd.pre w (List.mem_cons_of_mem _ h)
  have hown : s.vm.findClass RX11 = some m.cls := findClass_of_methodNamed Bd.named
  have hlocks := Bd.notSynchronized
  subst hsz
  have hD := hD0.self (sz := s.heap.size)
  generalize hAe : va_A [(h0, .inr (11, [.ref st, .int (nI N), .int (nI B), .ref rp, .int vrs, .int vrb, .int vhs, .int vca, .int vxs, .int vxb, .ref tp, .int (nI T), .int vfa, .int vbr, .int vba, .int vsp, .int vhe, .int vtk, .int vva, .ref cu, .ref lt, .ref od, .ref th, .ref be, .ref ln, .int (nI S), .ref ma, .int (nI M), .ref ah, .ref bh, .ref ik, .ref la, .ref lg, .ref ce, .int vto])), (st, .inl (G 0, 196, .inl fst)), (od, .inl (G 1, 10, .inr (.inl fod))), (th, .inl (G 1, 10, .inr (.inl fth)))] s.heap.size = A at hD ⊢
  have hA : ∀ q : Nat, s.heap.size ≤ q → A q := fun q h => by rw [← hAe]; exact Or.inr h
  have hS : va_S A s.heap s.heap [] := va_S.rf
  have hl := lv_entry ([.ref h0, .int i, .int what]) (n := 3) (Nat.le_of_ble_eq_true rfl)
  rw [lg_entry_eq]
  generalize (lg_sl ([.ref h0, .int i, .int what]) ++ List.replicate (3 - (lg_sl ([.ref h0, .int i, .int what])).length) Slot.unset).toArray = ls at hl ⊢
  have hl : lv_has ls 3 [(0, .ref h0), (1, .int i), (2, .int what)] := hl
  refine lv_aload_n hx hb dX11_awake_0 rfl (lv_at hl 0 rfl) ?_
  refine lv_iload_n hx hb dX11_awake_1 rfl (lv_at hl 1 rfl) ?_
  refine lv_iconst (v := 0) hx hb dX11_awake_2 rfl ?_
  refine lv_iload_n hx hb dX11_awake_3 rfl (lv_at hl 2 rfl) ?_
  obtain ⟨hPc, hDc, hFc⟩ := va_sub3 (ws' := [(h0, .inr (11, [.ref st, .int (nI N), .int (nI B), .ref rp, .int vrs, .int vrb, .int vhs, .int vca, .int vxs, .int vxb, .ref tp, .int (nI T), .int vfa, .int vbr, .int vba, .int vsp, .int vhe, .int vtk, .int vva, .ref cu, .ref lt, .ref od, .ref th, .ref be, .ref ln, .int (nI S), .ref ma, .int (nI M), .ref ah, .ref bh, .ref ik, .ref la, .ref lg, .ref ce, .int vto])), (st, .inl (G 0, 196, .inl fst)), (od, .inl (G 1, 10, .inr (.inl fod))), (th, .inl (G 1, 10, .inr (.inl fth)))]) hP hD hS hA [0, 1, 2, 3] (by decide +kernel) rfl
  refine va_calll (va_runV (As := [.int i, .int 0, .int what]) (rest := []) ⟨hx, hb, hml, hown, hg⟩ (c_X11_depth l dC dI G _ h0 st N B rp tp T cu lt od th be ln S ma M ah bh ik la lg ce i 0 what vrs vrb vhs vca vxs vxb vfa vbr vba vsp vhe vtk vva vto fst fod fth hN hB_ hT_ hS0 hM_ hst) (kwV hg mfX11_depth wt_1141 ⟨Nat.le_of_ble_eq_true rfl, Nat.le_of_ble_eq_true rfl⟩) (preVW hK hPc hDc (ci := 11) (r := (RX11, TX11, 35)) rfl rfl) rfl rfl hl.1 rfl (lv_room (Nat.le_of_ble_eq_true rfl)) dX11_awake_4 ⟨Nat.le_of_ble_eq_true rfl, Nat.le_of_ble_eq_true rfl⟩) hS (fun q _ h => hFc q h) hFc (fun r1 ur1 t H1 locs ht hvm w2 hB hz1 hk1 hS => ?_)
  obtain ⟨u3, u4⟩ := ur1
  obtain ⟨hP1, hD1⟩ := hB
  rw [ht] at hP1
  obtain ⟨hP, hD⟩ := va_join (wr := []) (w1 := [(h0, .inr (11, [.ref st, .int (nI N), .int (nI B), .ref rp, .int vrs, .int vrb, .int vhs, .int vca, .int vxs, .int vxb, .ref tp, .int (nI T), .int vfa, .int vbr, .int vba, .int vsp, .int vhe, .int vtk, .int vva, .ref cu, .ref lt, .ref od, .ref th, .ref be, .ref ln, .int (nI S), .ref ma, .int (nI M), .ref ah, .ref bh, .ref ik, .ref la, .ref lg, .ref ce, .int vto])), (st, .inl (G 0, 196, .inl fst)), (od, .inl (G 1, 10, .inr (.inl u3))), (th, .inl (G 1, 10, .inr (.inl u4)))]) hP hD [0, 1, 2, 3] [] rfl rfl (by decide +kernel) (by decide +kernel) hk1 hFc hP1 hD1
  generalize H1 = H at hP hS ⊢
  obtain ⟨w2, w2x⟩ := w2
  have hpost : True := by
    trivial
  obtain ⟨hP9, hD9⟩ := va_sub2 (ws' := [(h0, .inr (11, [.ref st, .int (nI N), .int (nI B), .ref rp, .int vrs, .int vrb, .int vhs, .int vca, .int vxs, .int vxb, .ref tp, .int (nI T), .int vfa, .int vbr, .int vba, .int vsp, .int vhe, .int vtk, .int vva, .ref cu, .ref lt, .ref od, .ref th, .ref be, .ref ln, .int (nI S), .ref ma, .int (nI M), .ref ah, .ref bh, .ref ik, .ref la, .ref lg, .ref ce, .int vto])), (st, .inl (G 0, 196, .inl fst)), (od, .inl (G 1, 10, .inr (.inl u3))), (th, .inl (G 1, 10, .inr (.inl u4)))]) hP hD [0, 1, 2, 3] (by decide +kernel) rfl
  refine W.widen (k := 0) (n := 0) (Nat.le_of_ble_eq_true rfl) (Nat.le_of_ble_eq_true rfl) ?_
  exact W.lret (v := r1) hx hb hr (fun t ht hW => ⟨⟨r1, (u3, u4), rfl, ⟨hpost, trivial⟩, ⟨by rw [ht]; exact hP9, hD9⟩⟩, hS.F ht⟩) hS.2.2 dX11_awake_7

theorem okS_mv {fs : Nat → Int32} (h : OKS fs) {a b : Nat} (h1 : 38 ≤ a) (h2 : a < 48) (h3 : 38 ≤ b) (h4 : b < 48) : okS a (fs b) := by
  have k := (h b (by omega)).2.1 (by omega) (by omega)
  exact okS_or h1 h2 k.1 k.2
theorem okS_cp {a b j : Nat} {x : Int32} (ha : a % 49 = 0) (hb : b % 49 = 0) (h : okS (a + j) x) : okS (b + j) x := by
  have e : (b + j) % 49 = (a + j) % 49 := by omega
  unfold okS at h ⊢
  rw [e]
  exact h
def OKL (f : Nat → Int32) : Prop := ∀ q : Nat, q < 8 → (0 ≤ (f (4 * q)).toInt ∧ (f (4 * q)).toInt < 10) ∧ (f (4 * q + 1) = -4 ∨ (0 ≤ (f (4 * q + 1)).toInt ∧ (f (4 * q + 1)).toInt < 6)) ∧ (0 ≤ (f (4 * q + 2)).toInt ∧ (f (4 * q + 2)).toInt < 6)
theorem OKL.add {f : Nat → Int32} (h : OKL f) {k : Nat} {i a b x : Int32} (hi : 0 ≤ i.toInt ∧ i.toInt < 10) (ha : a = -4 ∨ (0 ≤ a.toInt ∧ a.toInt < 6)) (hb : 0 ≤ b.toInt ∧ b.toInt < 6) : OKL (upd (upd (upd (upd f (4 * k) i) (4 * k + 1) a) (4 * k + 2) b) (4 * k + 3) x) := by
  intro q hq
  have h0 := h q hq
  by_cases e : q = k
  · subst e
    unfold upd
    refine ⟨?_, ?_, ?_⟩
    · rw [if_neg (by omega), if_neg (by omega), if_neg (by omega), if_pos rfl]; exact hi
    · rw [if_neg (by omega), if_neg (by omega), if_pos rfl]; exact ha
    · rw [if_neg (by omega), if_pos rfl]; exact hb
  · unfold upd
    refine ⟨?_, ?_, ?_⟩
    · rw [if_neg (by omega), if_neg (by omega), if_neg (by omega), if_neg (by omega)]; exact h0.1
    · rw [if_neg (by omega), if_neg (by omega), if_neg (by omega), if_neg (by omega)]; exact h0.2.1
    · rw [if_neg (by omega), if_neg (by omega), if_neg (by omega), if_neg (by omega)]; exact h0.2.2
theorem m4I {x : Int32} (h : x.toInt = -4) : x = -4 := Int32.toInt_inj.mp (by rw [h]; decide)
theorem nI01 {k : Nat} (h : k ≤ 1) : nI k = 0 ∨ nI k = 1 := by
  rcases (show k = 0 ∨ k = 1 by omega) with e | e <;> subst e
  · exact Or.inl rfl
  · exact Or.inr rfl
theorem im1 {x : Int32} (h0 : 0 ≤ x.toInt) (h1 : x.toInt ≤ 40) : (x - 1).toInt = x.toInt - 1 := by
  have e0 : (x - 1).toInt = (x.toInt - (1 : Int32).toInt).bmod (2 ^ 32) := Int32.toInt_sub x 1
  have e1 : (1 : Int32).toInt = 1 := by decide
  rw [e1, Int.bmod_eq_of_le (by omega) (by omega)] at e0
  exact e0
theorem rd_ix {k j : Nat} {x : Int32} (hk : k < 4) (h1 : 1 ≤ j) (hx : 0 ≤ x.toInt) (hs : x.toInt + (j : Int) < 40) : ∃ z : Nat, z < 160 ∧ 1 ≤ z ∧ (nI (40 * k) + x) + nI j = nI z := by
  obtain ⟨x', hx', rfl⟩ := i32_nat (x := x) (n := 40) hx (by omega)
  rw [nI_toInt (by omega)] at hs
  exact ⟨40 * k + x' + j, by omega, by omega, by rw [nI_add, nI_add]⟩
theorem add64 (a b : Int32) : (a.toInt64 + b.toInt64).toInt = a.toInt + b.toInt := by
  have e0 : (a.toInt64 + b.toInt64).toInt = (a.toInt64.toInt + b.toInt64.toInt).bmod (2 ^ 64) := Int64.toInt_add _ _
  have h1 := a.toInt_lt
  have h2 := a.le_toInt
  have h3 := b.toInt_lt
  have h4 := b.le_toInt
  rw [Int32.toInt_toInt64, Int32.toInt_toInt64, Int.bmod_eq_of_le (by omega) (by omega)] at e0
  exact e0
set_option maxHeartbeats 1000000 in
set_option maxRecDepth 100000 in
theorem c_X11_bitsOf (l : Launch) (dC : Nat → ClassId) (dI : Nat → Nat → Nat) (G : Nat → ClassId) (sz : Nat) (x1 : Int32)  : Met l yX11_bitsOf (Cond.code yX11_bitsOf cX11_bitsOf 3 (some .int) :: GT) ({ frames := 0, cells := 0, slots := 0, locals := 0 } : Room) (PcR [.int x1] dC dI G [] sz) (va_Qi (fun (r : Int32) (u : Unit) => match u with | _ => (True) ∧ True) (fun _ _ => True) (fun q : Nat => sz ≤ q)) 0 0 (fun q : Nat => sz ≤ q) := by
  refine Met.ofW (cc := cX11_bitsOf) (maxL := 3) (ret := (some .int)) (by decide) rfl ?_
  intro p e s m args below meth c s₁ Bd hml hv
  obtain ⟨rfl, hsz, hP, hK⟩ := hv
  have hx := Bd.exec
  have hb := Bd.bytes
  have hr := Bd.returns
  have hg : ∀ w ∈ GT, w.before ([.int x1] : List Value).toArray s = true := fun w h => atoms_spec (ws := Cond.code yX11_bitsOf cX11_bitsOf 3 (some .int) :: GT) Bd.pre w (List.mem_cons_of_mem _ h)
  have hown : s.vm.findClass RX11 = some m.cls := findClass_of_methodNamed Bd.named
  have hlocks := Bd.notSynchronized
  subst hsz
  have hA : ∀ q : Nat, s.heap.size ≤ q → (fun q : Nat => s.heap.size ≤ q) q := fun _ h => h
  have hS : va_S (fun q : Nat => s.heap.size ≤ q) s.heap s.heap [] := va_S.rf
  have hl := lv_entry ([.int x1]) (n := 3) (Nat.le_of_ble_eq_true rfl)
  rw [lg_entry_eq]
  generalize (lg_sl ([.int x1]) ++ List.replicate (3 - (lg_sl ([.int x1])).length) Slot.unset).toArray = ls at hl ⊢
  have hl : lv_has ls 3 [(0, .int x1)] := hl
  refine lv_iconst (v := 0) hx hb dX11_bitsOf_0 rfl ?_
  refine lv_istore_n (lv' := [(1, .int 0), (0, .int x1)]) hx hb dX11_bitsOf_1 rfl hl (by decide) rfl (fun ls hl => ?_)
  refine lv_iconst (v := 0) hx hb dX11_bitsOf_2 rfl ?_
  refine lv_istore_n (lv' := [(2, .int 0), (1, .int 0), (0, .int x1)]) hx hb dX11_bitsOf_3 rfl hl (by decide) rfl (fun ls hl => ?_)
  have loop4_3 : ∀ (nf j1 : Nat), 10 + 1 ≤ j1 + nf → j1 ≤ 10 → ∀ (y2 : Int32) (H : Heap) (locs : List Loc), va_P (dC, dI) vwCl [] H → va_S (fun q : Nat => s.heap.size ≤ q) s.heap H locs → ∀ (ls : Array Slot), lv_has ls 3 [(2, .int (nI j1)), (1, .int y2), (0, .int x1)] → W p l e (headSpec (Cond.code yX11_bitsOf cX11_bitsOf 3 (some .int) :: GT) ({ frames := 0, cells := 0, slots := 0, locals := 0 } : Room)).room s m ([.int x1] : List Value).toArray below meth c H locs 0 0 (MQ below (va_Qi (fun (r : Int32) (u : Unit) => match u with | _ => (True) ∧ True) (fun _ _ => True) (fun q : Nat => s.heap.size ≤ q)) ([.int x1] : List Value).toArray s 0 0 (fun q : Nat => s.heap.size ≤ q)) (F0 m 4 ls []) := by
    intro nf
    induction nf with
    | zero => intro j1 h1 h2; exact absurd h1 (by omega)
    | succ nf ih4_3 =>
      intro j1 hn4 hj5 y2 H locs hP hS ls hl
      refine lv_iload_n hx hb dX11_bitsOf_4 rfl (lv_at hl 0 rfl) ?_
      refine lv_bipush (v := 10) hx hb dX11_bitsOf_5 rfl ?_
      refine lv_icmp_ge (tgt := 24) hx hb dX11_bitsOf_7 rfl (fun c6 => ?_) (fun c6 => ?_)
      · skip
        have tn759_ : nIT j1 := fun _ => nI_toInt (by first | omega | (have t := leI c6; omega))
        have n7 : 10 ≤ j1 := by have t := leI c6; rw [show (nI (j1)).toInt = ((j1 : Nat) : Int) from tn759_ ()] at t; have : (10 : Int32).toInt = 10 := qI_10; omega
        refine lv_iload_n hx hb dX11_bitsOf_24 rfl (lv_at hl 1 rfl) ?_
        have hpost : True := by
          trivial
        refine W.widen (k := 0) (n := 0) (Nat.le_of_ble_eq_true rfl) (Nat.le_of_ble_eq_true rfl) ?_
        exact W.iret (v := y2) hx hb hr (fun t ht hW => ⟨⟨y2, (), rfl, ⟨hpost, trivial⟩, trivial⟩, hS.F ht⟩) hS.2.2 dX11_bitsOf_25
      · skip
        have tn760_ : nIT j1 := fun _ => nI_toInt (by first | omega | (have t := nleI c6; omega))
        have n8 : j1 < 10 := by have t := nleI c6; rw [show (nI (j1)).toInt = ((j1 : Nat) : Int) from tn760_ ()] at t; have : (10 : Int32).toInt = 10 := qI_10; omega
        refine lv_iload_n hx hb dX11_bitsOf_10 rfl (lv_at hl 1 rfl) ?_
        refine lv_iload_n hx hb dX11_bitsOf_11 rfl (lv_at hl 2 rfl) ?_
        refine lv_iload_n hx hb dX11_bitsOf_12 rfl (lv_at hl 0 rfl) ?_
        refine lv_ishr hx hb dX11_bitsOf_13 ?_
        refine lv_iconst (v := 1) hx hb dX11_bitsOf_14 rfl ?_
        refine lv_iand hx hb dX11_bitsOf_15 ?_
        refine lv_topi (fun v9 ev9 => ?_)
        refine lv_iadd hx hb dX11_bitsOf_16 ?_
        refine lv_istore_n (lv' := [(1, .int (y2 + v9)), (2, .int (nI j1)), (0, .int x1)]) hx hb dX11_bitsOf_17 rfl hl (by decide) rfl (fun ls hl => ?_)
        refine lv_iinc (v := nI (j1 + 1)) (lv' := [(2, .int (nI (j1 + 1))), (1, .int (y2 + v9)), (0, .int x1)]) hx hb dX11_bitsOf_18 hl (k := 1) rfl (by rw [show Int32.ofInt 1 = nI 1 from by decide]; exact nI_add _ _) (by decide) rfl (fun ls hl => ?_)
        refine lv_goto (tgt := 4) hx hb dX11_bitsOf_21 rfl ?_
        exact ih4_3 (j1 + 1) (by omega) (by omega) (y2 + v9) _ _ hP hS ls (lv_sub hl [0, 1, 2] rfl)
  exact loop4_3 (10 + 1) 0 (by omega) (by omega) 0 _ _ hP hS ls (lv_sub hl [0, 1, 2] rfl)

set_option maxHeartbeats 1000000 in
set_option maxRecDepth 100000 in
theorem c_X11_quiet (l : Launch) (dC : Nat → ClassId) (dI : Nat → Nat → Nat) (G : Nat → ClassId) (sz : Nat) (h0 st N B rp tp T cu lt od th be ln S ma M ah bh ik la lg ce : Nat) (mm what vrs vrb vhs vca vxs vxb vfa vbr vba vsp vhe vtk vva vto : Int32) (fst : Nat → Int32) (fod : Nat → Int64) (fth : Nat → Int64) (hN : N ≤ 10) (hB : B ≤ 6) (hT : T ≤ 320) (hS0 : S ≤ 8) (hM : M ≤ 6) (hst : OKS fst) : Met l yX11_quiet (Cond.code yX11_quiet cX11_quiet 7 (some .long) :: GT) ({ frames := 4, cells := 0, slots := 0, locals := 99 } : Room) (PcW [.ref h0, .int mm, .int what] dC dI G [(h0, .inr (11, [.ref st, .int (nI N), .int (nI B), .ref rp, .int vrs, .int vrb, .int vhs, .int vca, .int vxs, .int vxb, .ref tp, .int (nI T), .int vfa, .int vbr, .int vba, .int vsp, .int vhe, .int vtk, .int vva, .ref cu, .ref lt, .ref od, .ref th, .ref be, .ref ln, .int (nI S), .ref ma, .int (nI M), .ref ah, .ref bh, .ref ik, .ref la, .ref lg, .ref ce, .int vto])), (st, .inl (G 0, 196, .inl fst)), (od, .inl (G 1, 10, .inr (.inl fod))), (th, .inl (G 1, 10, .inr (.inl fth)))] sz) (va_Ql (fun (r : Int64) (u : (Nat → Int64) × (Nat → Int64)) => match u with | (ood, oth) => (True) ∧ True) (fun (u : (Nat → Int64) × (Nat → Int64)) (t : State) => match u with | (ood, oth) => va_P (dC, dI) vwCl [(h0, .inr (11, [.ref st, .int (nI N), .int (nI B), .ref rp, .int vrs, .int vrb, .int vhs, .int vca, .int vxs, .int vxb, .ref tp, .int (nI T), .int vfa, .int vbr, .int vba, .int vsp, .int vhe, .int vtk, .int vva, .ref cu, .ref lt, .ref od, .ref th, .ref be, .ref ln, .int (nI S), .ref ma, .int (nI M), .ref ah, .ref bh, .ref ik, .ref la, .ref lg, .ref ce, .int vto])), (st, .inl (G 0, 196, .inl fst)), (od, .inl (G 1, 10, .inr (.inl ood))), (th, .inl (G 1, 10, .inr (.inl oth)))] t.heap ∧ va_D (va_A [(h0, .inr (11, [.ref st, .int (nI N), .int (nI B), .ref rp, .int vrs, .int vrb, .int vhs, .int vca, .int vxs, .int vxb, .ref tp, .int (nI T), .int vfa, .int vbr, .int vba, .int vsp, .int vhe, .int vtk, .int vva, .ref cu, .ref lt, .ref od, .ref th, .ref be, .ref ln, .int (nI S), .ref ma, .int (nI M), .ref ah, .ref bh, .ref ik, .ref la, .ref lg, .ref ce, .int vto])), (st, .inl (G 0, 196, .inl fst)), (od, .inl (G 1, 10, .inr (.inl fod))), (th, .inl (G 1, 10, .inr (.inl fth)))] sz) [(h0, .inr (11, [.ref st, .int (nI N), .int (nI B), .ref rp, .int vrs, .int vrb, .int vhs, .int vca, .int vxs, .int vxb, .ref tp, .int (nI T), .int vfa, .int vbr, .int vba, .int vsp, .int vhe, .int vtk, .int vva, .ref cu, .ref lt, .ref od, .ref th, .ref be, .ref ln, .int (nI S), .ref ma, .int (nI M), .ref ah, .ref bh, .ref ik, .ref la, .ref lg, .ref ce, .int vto])), (st, .inl (G 0, 196, .inl fst)), (od, .inl (G 1, 10, .inr (.inl ood))), (th, .inl (G 1, 10, .inr (.inl oth)))]) (va_A [(h0, .inr (11, [.ref st, .int (nI N), .int (nI B), .ref rp, .int vrs, .int vrb, .int vhs, .int vca, .int vxs, .int vxb, .ref tp, .int (nI T), .int vfa, .int vbr, .int vba, .int vsp, .int vhe, .int vtk, .int vva, .ref cu, .ref lt, .ref od, .ref th, .ref be, .ref ln, .int (nI S), .ref ma, .int (nI M), .ref ah, .ref bh, .ref ik, .ref la, .ref lg, .ref ce, .int vto])), (st, .inl (G 0, 196, .inl fst)), (od, .inl (G 1, 10, .inr (.inl fod))), (th, .inl (G 1, 10, .inr (.inl fth)))] sz)) 0 0 (va_A [(h0, .inr (11, [.ref st, .int (nI N), .int (nI B), .ref rp, .int vrs, .int vrb, .int vhs, .int vca, .int vxs, .int vxb, .ref tp, .int (nI T), .int vfa, .int vbr, .int vba, .int vsp, .int vhe, .int vtk, .int vva, .ref cu, .ref lt, .ref od, .ref th, .ref be, .ref ln, .int (nI S), .ref ma, .int (nI M), .ref ah, .ref bh, .ref ik, .ref la, .ref lg, .ref ce, .int vto])), (st, .inl (G 0, 196, .inl fst)), (od, .inl (G 1, 10, .inr (.inl fod))), (th, .inl (G 1, 10, .inr (.inl fth)))] sz) := by
  have hB_ := hB
  have hM_ := hM
  have hT_ := hT
  have tn761_ : nIT N := fun _ => nI_toInt (by omega)
  have tn762_ : nIT B := fun _ => nI_toInt (by omega)
  have tn763_ : nIT T := fun _ => nI_toInt (by omega)
  have tn764_ : nIT S := fun _ => nI_toInt (by omega)
  have tn765_ : nIT M := fun _ => nI_toInt (by omega)
  refine Met.ofW (cc := cX11_quiet) (maxL := 7) (ret := (some .long)) (by decide) rfl ?_
  intro p e s m args below meth c s₁ Bd hml hv
  obtain ⟨rfl, hsz, hP, hK, hD0⟩ := hv
  have hx := Bd.exec
  have hb := Bd.bytes
  have hr := Bd.returns
  have hg : ∀ w ∈ GT, w.before ([.ref h0, .int mm, .int what] : List Value).toArray s = true := fun w h => atoms_spec (ws := Cond.code yX11_quiet cX11_quiet 7 (some .long) :: GT) Bd.pre w (List.mem_cons_of_mem _ h)
  have hown : s.vm.findClass RX11 = some m.cls := findClass_of_methodNamed Bd.named
  have hlocks := Bd.notSynchronized
  subst hsz
  have hD := hD0.self (sz := s.heap.size)
  generalize hAe : va_A [(h0, .inr (11, [.ref st, .int (nI N), .int (nI B), .ref rp, .int vrs, .int vrb, .int vhs, .int vca, .int vxs, .int vxb, .ref tp, .int (nI T), .int vfa, .int vbr, .int vba, .int vsp, .int vhe, .int vtk, .int vva, .ref cu, .ref lt, .ref od, .ref th, .ref be, .ref ln, .int (nI S), .ref ma, .int (nI M), .ref ah, .ref bh, .ref ik, .ref la, .ref lg, .ref ce, .int vto])), (st, .inl (G 0, 196, .inl fst)), (od, .inl (G 1, 10, .inr (.inl fod))), (th, .inl (G 1, 10, .inr (.inl fth)))] s.heap.size = A at hD ⊢
  have hA : ∀ q : Nat, s.heap.size ≤ q → A q := fun q h => by rw [← hAe]; exact Or.inr h
  have hS : va_S A s.heap s.heap [] := va_S.rf
  have hl := lv_entry ([.ref h0, .int mm, .int what]) (n := 7) (Nat.le_of_ble_eq_true rfl)
  rw [lg_entry_eq]
  generalize (lg_sl ([.ref h0, .int mm, .int what]) ++ List.replicate (7 - (lg_sl ([.ref h0, .int mm, .int what])).length) Slot.unset).toArray = ls at hl ⊢
  have hl : lv_has ls 7 [(0, .ref h0), (1, .int mm), (2, .int what)] := hl
  refine lv_iload_n hx hb dX11_quiet_0 rfl (lv_at hl 1 rfl) ?_
  refine lv_i2l (v := mm.toInt64) hx hb dX11_quiet_1 rfl ?_
  refine lv_lconst (v := 0) hx hb dX11_quiet_2 (by decide) ?_
  refine lv_ldc2 (v := 4) hx hb hown (hg _ wt_1175) dX11_quiet_3 ?_
  have hPc := hP.sub (ws' := []) [] rfl
  refine va_calli (va_runS (As := [.long mm.toInt64, .long 0, .long 4]) (rest := []) ⟨hx, hb, hml, hown, hg⟩ (c_X11_in l dC dI G _ mm.toInt64 0 4) (kwS hg mfX11_in wt_992 ⟨Nat.le_of_ble_eq_true rfl, Nat.le_of_ble_eq_true rfl⟩) (preSR hK hPc) rfl rfl hl.1 rfl (lv_room (Nat.le_of_ble_eq_true rfl)) dX11_quiet_6 ⟨Nat.le_of_ble_eq_true rfl, Nat.le_of_ble_eq_true rfl⟩) hS (fun q h1 h2 => absurd h2 (Nat.not_le.mpr h1)) (fun q h => hA q (Nat.le_trans hS.1 h)) (fun r1 ur1 t H1 locs ht hvm w2 hB hz1 hk1 hS => ?_)
  have hP := keepR hP hk1
  obtain ⟨w2, w2x⟩ := w2
  try simp only [l_ii, show (0 : Int64).toInt = 0 from by decide, show (4 : Int64).toInt = 4 from by decide] at w2
  subst w2
  have cut24_3 : ∀ (H : Heap) (locs : List Loc), va_P (dC, dI) vwCl [(h0, .inr (11, [.ref st, .int (nI N), .int (nI B), .ref rp, .int vrs, .int vrb, .int vhs, .int vca, .int vxs, .int vxb, .ref tp, .int (nI T), .int vfa, .int vbr, .int vba, .int vsp, .int vhe, .int vtk, .int vva, .ref cu, .ref lt, .ref od, .ref th, .ref be, .ref ln, .int (nI S), .ref ma, .int (nI M), .ref ah, .ref bh, .ref ik, .ref la, .ref lg, .ref ce, .int vto])), (st, .inl (G 0, 196, .inl fst)), (od, .inl (G 1, 10, .inr (.inl fod))), (th, .inl (G 1, 10, .inr (.inl fth)))] H → va_D A [(h0, .inr (11, [.ref st, .int (nI N), .int (nI B), .ref rp, .int vrs, .int vrb, .int vhs, .int vca, .int vxs, .int vxb, .ref tp, .int (nI T), .int vfa, .int vbr, .int vba, .int vsp, .int vhe, .int vtk, .int vva, .ref cu, .ref lt, .ref od, .ref th, .ref be, .ref ln, .int (nI S), .ref ma, .int (nI M), .ref ah, .ref bh, .ref ik, .ref la, .ref lg, .ref ce, .int vto])), (st, .inl (G 0, 196, .inl fst)), (od, .inl (G 1, 10, .inr (.inl fod))), (th, .inl (G 1, 10, .inr (.inl fth)))] → va_S A s.heap H locs → ∀ (ls : Array Slot), lv_has ls 7 [(0, .ref h0), (1, .int mm), (2, .int what)] → W p l e (headSpec (Cond.code yX11_quiet cX11_quiet 7 (some .long) :: GT) ({ frames := 4, cells := 0, slots := 0, locals := 99 } : Room)).room s m ([.ref h0, .int mm, .int what] : List Value).toArray below meth c H locs 0 0 (MQ below (va_Ql (fun (r : Int64) (u : (Nat → Int64) × (Nat → Int64)) => match u with | (ood, oth) => (True) ∧ True) (fun (u : (Nat → Int64) × (Nat → Int64)) (t : State) => match u with | (ood, oth) => va_P (dC, dI) vwCl [(h0, .inr (11, [.ref st, .int (nI N), .int (nI B), .ref rp, .int vrs, .int vrb, .int vhs, .int vca, .int vxs, .int vxb, .ref tp, .int (nI T), .int vfa, .int vbr, .int vba, .int vsp, .int vhe, .int vtk, .int vva, .ref cu, .ref lt, .ref od, .ref th, .ref be, .ref ln, .int (nI S), .ref ma, .int (nI M), .ref ah, .ref bh, .ref ik, .ref la, .ref lg, .ref ce, .int vto])), (st, .inl (G 0, 196, .inl fst)), (od, .inl (G 1, 10, .inr (.inl ood))), (th, .inl (G 1, 10, .inr (.inl oth)))] t.heap ∧ va_D A [(h0, .inr (11, [.ref st, .int (nI N), .int (nI B), .ref rp, .int vrs, .int vrb, .int vhs, .int vca, .int vxs, .int vxb, .ref tp, .int (nI T), .int vfa, .int vbr, .int vba, .int vsp, .int vhe, .int vtk, .int vva, .ref cu, .ref lt, .ref od, .ref th, .ref be, .ref ln, .int (nI S), .ref ma, .int (nI M), .ref ah, .ref bh, .ref ik, .ref la, .ref lg, .ref ce, .int vto])), (st, .inl (G 0, 196, .inl fst)), (od, .inl (G 1, 10, .inr (.inl ood))), (th, .inl (G 1, 10, .inr (.inl oth)))]) A) ([.ref h0, .int mm, .int what] : List Value).toArray s 0 0 A) (F0 m 24 ls []) := by
    intro  H locs hP hD hS ls hl
    refine lv_ldc2 (v := (-1)) hx hb hown (hg _ wt_1118) dX11_quiet_24 ?_
    have hpost : True := by
      trivial
    obtain ⟨hP9, hD9⟩ := va_sub2 (ws' := [(h0, .inr (11, [.ref st, .int (nI N), .int (nI B), .ref rp, .int vrs, .int vrb, .int vhs, .int vca, .int vxs, .int vxb, .ref tp, .int (nI T), .int vfa, .int vbr, .int vba, .int vsp, .int vhe, .int vtk, .int vva, .ref cu, .ref lt, .ref od, .ref th, .ref be, .ref ln, .int (nI S), .ref ma, .int (nI M), .ref ah, .ref bh, .ref ik, .ref la, .ref lg, .ref ce, .int vto])), (st, .inl (G 0, 196, .inl fst)), (od, .inl (G 1, 10, .inr (.inl fod))), (th, .inl (G 1, 10, .inr (.inl fth)))]) hP hD [0, 1, 2, 3] (by decide +kernel) rfl
    refine W.widen (k := 0) (n := 0) (Nat.le_of_ble_eq_true rfl) (Nat.le_of_ble_eq_true rfl) ?_
    exact W.lret (v := (-1)) hx hb hr (fun t ht hW => ⟨⟨(-1), (fod, fth), rfl, ⟨hpost, trivial⟩, ⟨by rw [ht]; exact hP9, hD9⟩⟩, hS.F ht⟩) hS.2.2 dX11_quiet_27
  refine lv_if_eq (tgt := 24) hx hb dX11_quiet_9 rfl (fun c4 => ?_) (fun c4 => ?_)
  · skip
    have b5 := if10_n c4
    exact cut24_3  _ _ hP hD hS ls (lv_sub hl [0, 1, 2] rfl)
  · skip
    have b6 := if10_p c4
    refine lv_iload_n hx hb dX11_quiet_12 rfl (lv_at hl 2 rfl) ?_
    refine lv_i2l (v := what.toInt64) hx hb dX11_quiet_13 rfl ?_
    refine lv_lconst (v := 0) hx hb dX11_quiet_14 (by decide) ?_
    refine lv_ldc2 (v := 2) hx hb hown (hg _ wt_1056) dX11_quiet_15 ?_
    have hPc := hP.sub (ws' := []) [] rfl
    refine va_calli (va_runS (As := [.long what.toInt64, .long 0, .long 2]) (rest := []) ⟨hx, hb, hml, hown, hg⟩ (c_X11_in l dC dI G _ what.toInt64 0 2) (kwS hg mfX11_in wt_992 ⟨Nat.le_of_ble_eq_true rfl, Nat.le_of_ble_eq_true rfl⟩) (preSR hK hPc) rfl rfl hl.1 rfl (lv_room (Nat.le_of_ble_eq_true rfl)) dX11_quiet_18 ⟨Nat.le_of_ble_eq_true rfl, Nat.le_of_ble_eq_true rfl⟩) hS (fun q h1 h2 => absurd h2 (Nat.not_le.mpr h1)) (fun q h => hA q (Nat.le_trans hS.1 h)) (fun r7 ur7 t H1 locs ht hvm w8 hB hz1 hk1 hS => ?_)
    have hP := keepR hP hk1
    obtain ⟨w8, w8x⟩ := w8
    try simp only [l_ii, show (0 : Int64).toInt = 0 from by decide, show (2 : Int64).toInt = 2 from by decide] at w8
    subst w8
    refine lv_if_ne (tgt := 28) hx hb dX11_quiet_21 rfl (fun c9 => ?_) (fun c9 => ?_)
    · skip
      have b10 := if10_p c9
      refine lv_ldc2 (v := 4000000000000000000) hx hb hown (hg _ wt_1154) dX11_quiet_28 ?_
      refine lv_lstore_n (lv' := [(3, .long 4000000000000000000), (0, .ref h0), (1, .int mm), (2, .int what)]) hx hb dX11_quiet_31 rfl hl (by decide) rfl (fun ls hl => ?_)
      refine lv_iconst (v := 0) hx hb dX11_quiet_32 rfl ?_
      refine lv_istore (lv' := [(5, .int 0), (3, .long 4000000000000000000), (0, .ref h0), (1, .int mm), (2, .int what)]) hx hb dX11_quiet_33 hl (by decide) rfl (fun ls hl => ?_)
      refine lv_iconst (v := 0) hx hb dX11_quiet_35 rfl ?_
      refine lv_istore (lv' := [(6, .int 0), (5, .int 0), (3, .long 4000000000000000000), (0, .ref h0), (1, .int mm), (2, .int what)]) hx hb dX11_quiet_36 hl (by decide) rfl (fun ls hl => ?_)
      have loop38_16 : ∀ (nf j11 : Nat), 1024 + 1 ≤ j11 + nf → j11 ≤ 1024 → ∀ (y12 : Int32) (y13 : Int64) (g14 : Nat → Int64) (g15 : Nat → Int64) (H : Heap) (locs : List Loc), va_P (dC, dI) vwCl [(h0, .inr (11, [.ref st, .int (nI N), .int (nI B), .ref rp, .int vrs, .int vrb, .int vhs, .int vca, .int vxs, .int vxb, .ref tp, .int (nI T), .int vfa, .int vbr, .int vba, .int vsp, .int vhe, .int vtk, .int vva, .ref cu, .ref lt, .ref od, .ref th, .ref be, .ref ln, .int (nI S), .ref ma, .int (nI M), .ref ah, .ref bh, .ref ik, .ref la, .ref lg, .ref ce, .int vto])), (st, .inl (G 0, 196, .inl fst)), (od, .inl (G 1, 10, .inr (.inl g14))), (th, .inl (G 1, 10, .inr (.inl g15)))] H → va_D A [(h0, .inr (11, [.ref st, .int (nI N), .int (nI B), .ref rp, .int vrs, .int vrb, .int vhs, .int vca, .int vxs, .int vxb, .ref tp, .int (nI T), .int vfa, .int vbr, .int vba, .int vsp, .int vhe, .int vtk, .int vva, .ref cu, .ref lt, .ref od, .ref th, .ref be, .ref ln, .int (nI S), .ref ma, .int (nI M), .ref ah, .ref bh, .ref ik, .ref la, .ref lg, .ref ce, .int vto])), (st, .inl (G 0, 196, .inl fst)), (od, .inl (G 1, 10, .inr (.inl g14))), (th, .inl (G 1, 10, .inr (.inl g15)))] → va_S A s.heap H locs → ∀ (ls : Array Slot), lv_has ls 7 [(6, .int (nI j11)), (5, .int y12), (3, .long y13), (0, .ref h0), (1, .int mm), (2, .int what)] → W p l e (headSpec (Cond.code yX11_quiet cX11_quiet 7 (some .long) :: GT) ({ frames := 4, cells := 0, slots := 0, locals := 99 } : Room)).room s m ([.ref h0, .int mm, .int what] : List Value).toArray below meth c H locs 0 0 (MQ below (va_Ql (fun (r : Int64) (u : (Nat → Int64) × (Nat → Int64)) => match u with | (ood, oth) => (True) ∧ True) (fun (u : (Nat → Int64) × (Nat → Int64)) (t : State) => match u with | (ood, oth) => va_P (dC, dI) vwCl [(h0, .inr (11, [.ref st, .int (nI N), .int (nI B), .ref rp, .int vrs, .int vrb, .int vhs, .int vca, .int vxs, .int vxb, .ref tp, .int (nI T), .int vfa, .int vbr, .int vba, .int vsp, .int vhe, .int vtk, .int vva, .ref cu, .ref lt, .ref od, .ref th, .ref be, .ref ln, .int (nI S), .ref ma, .int (nI M), .ref ah, .ref bh, .ref ik, .ref la, .ref lg, .ref ce, .int vto])), (st, .inl (G 0, 196, .inl fst)), (od, .inl (G 1, 10, .inr (.inl ood))), (th, .inl (G 1, 10, .inr (.inl oth)))] t.heap ∧ va_D A [(h0, .inr (11, [.ref st, .int (nI N), .int (nI B), .ref rp, .int vrs, .int vrb, .int vhs, .int vca, .int vxs, .int vxb, .ref tp, .int (nI T), .int vfa, .int vbr, .int vba, .int vsp, .int vhe, .int vtk, .int vva, .ref cu, .ref lt, .ref od, .ref th, .ref be, .ref ln, .int (nI S), .ref ma, .int (nI M), .ref ah, .ref bh, .ref ik, .ref la, .ref lg, .ref ce, .int vto])), (st, .inl (G 0, 196, .inl fst)), (od, .inl (G 1, 10, .inr (.inl ood))), (th, .inl (G 1, 10, .inr (.inl oth)))]) A) ([.ref h0, .int mm, .int what] : List Value).toArray s 0 0 A) (F0 m 38 ls []) := by
        intro nf
        induction nf with
        | zero => intro j11 h1 h2; exact absurd h1 (by omega)
        | succ nf ih38_16 =>
          intro j11 hn17 hj18 y12 y13 g14 g15 H locs hP hD hS ls hl
          refine lv_iload hx hb dX11_quiet_38 (lv_at hl 0 rfl) ?_
          refine lv_iconst (v := 1) hx hb dX11_quiet_40 rfl ?_
          refine lv_aload_n hx hb dX11_quiet_41 rfl (lv_at hl 3 rfl) ?_
          refine va_get (D := (dC, dI)) (ci := 11) (v := .int (nI N)) (C := RX11) (T := TX11) (N := 35) hx hb hg inG11 hown hK.1 hP 0 rfl rfl 1 (Nat.le_of_ble_eq_true rfl) (hg _ wt_879) (fun _ h9 => h9) rfl dX11_quiet_42 ?_
          refine lv_ishl hx hb dX11_quiet_45 ?_
          obtain ⟨k19, hk19, ek19⟩ := shl_le (N := N) (by omega)
          refine lv_cg (y := nI k19) (by exact ek19) ?_
          refine lv_icmp_ge (tgt := 122) hx hb dX11_quiet_46 rfl (fun c20 => ?_) (fun c20 => ?_)
          · skip
            have tn766_ : nIT j11 := fun _ => nI_toInt (by first | omega | (have t := leI c20; omega))
            have tn767_ : nIT k19 := fun _ => nI_toInt (by omega)
            have n21 : k19 ≤ j11 := by have t := leI c20; rw [show (nI (j11)).toInt = ((j11 : Nat) : Int) from tn766_ ()] at t; rw [show (nI (k19)).toInt = ((k19 : Nat) : Int) from tn767_ ()] at t; omega
            refine lv_iload_n hx hb dX11_quiet_122 rfl (lv_at hl 5 rfl) ?_
            refine lv_iconst (v := 2) hx hb dX11_quiet_123 rfl ?_
            have cut145_23 : ∀ (y22 : Int64) (H : Heap) (locs : List Loc), va_P (dC, dI) vwCl [(h0, .inr (11, [.ref st, .int (nI N), .int (nI B), .ref rp, .int vrs, .int vrb, .int vhs, .int vca, .int vxs, .int vxb, .ref tp, .int (nI T), .int vfa, .int vbr, .int vba, .int vsp, .int vhe, .int vtk, .int vva, .ref cu, .ref lt, .ref od, .ref th, .ref be, .ref ln, .int (nI S), .ref ma, .int (nI M), .ref ah, .ref bh, .ref ik, .ref la, .ref lg, .ref ce, .int vto])), (st, .inl (G 0, 196, .inl fst)), (od, .inl (G 1, 10, .inr (.inl g14))), (th, .inl (G 1, 10, .inr (.inl g15)))] H → va_D A [(h0, .inr (11, [.ref st, .int (nI N), .int (nI B), .ref rp, .int vrs, .int vrb, .int vhs, .int vca, .int vxs, .int vxb, .ref tp, .int (nI T), .int vfa, .int vbr, .int vba, .int vsp, .int vhe, .int vtk, .int vva, .ref cu, .ref lt, .ref od, .ref th, .ref be, .ref ln, .int (nI S), .ref ma, .int (nI M), .ref ah, .ref bh, .ref ik, .ref la, .ref lg, .ref ce, .int vto])), (st, .inl (G 0, 196, .inl fst)), (od, .inl (G 1, 10, .inr (.inl g14))), (th, .inl (G 1, 10, .inr (.inl g15)))] → va_S A s.heap H locs → ∀ (ls : Array Slot), lv_has ls 7 [(6, .int (nI j11)), (5, .int y12), (3, .long y13), (0, .ref h0), (1, .int mm), (2, .int what)] → W p l e (headSpec (Cond.code yX11_quiet cX11_quiet 7 (some .long) :: GT) ({ frames := 4, cells := 0, slots := 0, locals := 99 } : Room)).room s m ([.ref h0, .int mm, .int what] : List Value).toArray below meth c H locs 0 0 (MQ below (va_Ql (fun (r : Int64) (u : (Nat → Int64) × (Nat → Int64)) => match u with | (ood, oth) => (True) ∧ True) (fun (u : (Nat → Int64) × (Nat → Int64)) (t : State) => match u with | (ood, oth) => va_P (dC, dI) vwCl [(h0, .inr (11, [.ref st, .int (nI N), .int (nI B), .ref rp, .int vrs, .int vrb, .int vhs, .int vca, .int vxs, .int vxb, .ref tp, .int (nI T), .int vfa, .int vbr, .int vba, .int vsp, .int vhe, .int vtk, .int vva, .ref cu, .ref lt, .ref od, .ref th, .ref be, .ref ln, .int (nI S), .ref ma, .int (nI M), .ref ah, .ref bh, .ref ik, .ref la, .ref lg, .ref ce, .int vto])), (st, .inl (G 0, 196, .inl fst)), (od, .inl (G 1, 10, .inr (.inl ood))), (th, .inl (G 1, 10, .inr (.inl oth)))] t.heap ∧ va_D A [(h0, .inr (11, [.ref st, .int (nI N), .int (nI B), .ref rp, .int vrs, .int vrb, .int vhs, .int vca, .int vxs, .int vxb, .ref tp, .int (nI T), .int vfa, .int vbr, .int vba, .int vsp, .int vhe, .int vtk, .int vva, .ref cu, .ref lt, .ref od, .ref th, .ref be, .ref ln, .int (nI S), .ref ma, .int (nI M), .ref ah, .ref bh, .ref ik, .ref la, .ref lg, .ref ce, .int vto])), (st, .inl (G 0, 196, .inl fst)), (od, .inl (G 1, 10, .inr (.inl ood))), (th, .inl (G 1, 10, .inr (.inl oth)))]) A) ([.ref h0, .int mm, .int what] : List Value).toArray s 0 0 A) (F0 m 145 ls [.long y22]) := by
              intro y22 H locs hP hD hS ls hl
              have hpost : True := by
                trivial
              obtain ⟨hP9, hD9⟩ := va_sub2 (ws' := [(h0, .inr (11, [.ref st, .int (nI N), .int (nI B), .ref rp, .int vrs, .int vrb, .int vhs, .int vca, .int vxs, .int vxb, .ref tp, .int (nI T), .int vfa, .int vbr, .int vba, .int vsp, .int vhe, .int vtk, .int vva, .ref cu, .ref lt, .ref od, .ref th, .ref be, .ref ln, .int (nI S), .ref ma, .int (nI M), .ref ah, .ref bh, .ref ik, .ref la, .ref lg, .ref ce, .int vto])), (st, .inl (G 0, 196, .inl fst)), (od, .inl (G 1, 10, .inr (.inl g14))), (th, .inl (G 1, 10, .inr (.inl g15)))]) hP hD [0, 1, 2, 3] (by decide +kernel) rfl
              refine W.widen (k := 0) (n := 0) (Nat.le_of_ble_eq_true rfl) (Nat.le_of_ble_eq_true rfl) ?_
              exact W.lret (v := y22) hx hb hr (fun t ht hW => ⟨⟨y22, (g14, g15), rfl, ⟨hpost, trivial⟩, ⟨by rw [ht]; exact hP9, hD9⟩⟩, hS.F ht⟩) hS.2.2 dX11_quiet_145
            refine lv_icmp_ne (tgt := 133) hx hb dX11_quiet_124 rfl (fun c24 => ?_) (fun c24 => ?_)
            · skip
              refine lv_lload_n hx hb dX11_quiet_133 rfl (lv_at hl 2 rfl) ?_
              refine lv_aload_n hx hb dX11_quiet_134 rfl (lv_at hl 3 rfl) ?_
              refine va_get (D := (dC, dI)) (ci := 11) (v := .int (nI N)) (C := RX11) (T := TX11) (N := 35) hx hb hg inG11 hown hK.1 hP 0 rfl rfl 1 (Nat.le_of_ble_eq_true rfl) (hg _ wt_879) (fun _ h9 => h9) rfl dX11_quiet_135 ?_
              have hPc := hP.sub (ws' := []) [] rfl
              refine va_calll (va_runS (As := [.int (nI N)]) (rest := [.long y13]) ⟨hx, hb, hml, hown, hg⟩ (c_X11_power l dC dI G _ N hN) (kwS hg mfX11_power wt_1131 ⟨Nat.le_of_ble_eq_true rfl, Nat.le_of_ble_eq_true rfl⟩) (preSR hK hPc) rfl rfl hl.1 rfl (lv_room (Nat.le_of_ble_eq_true rfl)) dX11_quiet_138 ⟨Nat.le_of_ble_eq_true rfl, Nat.le_of_ble_eq_true rfl⟩) hS (fun q h1 h2 => absurd h2 (Nat.not_le.mpr h1)) (fun q h => hA q (Nat.le_trans hS.1 h)) (fun r25 ur25 t H1 locs ht hvm w26 hB hz1 hk1 hS => ?_)
              have hP := keepR hP hk1
              obtain ⟨w26, w26x⟩ := w26
              subst w26
              refine lv_iload_n hx hb dX11_quiet_141 rfl (lv_at hl 5 rfl) ?_
              have hPc := hP.sub (ws' := []) [] rfl
              refine va_calll (va_runS (As := [.long y13, .long (powF N), .int what]) (rest := []) ⟨hx, hb, hml, hown, hg⟩ (c_X11_lowest l dC dI G _ what y13 (powF N) (powF_ne (by have t_b6 := b6; have t_b10 := b10; have t_hj18 := hj18; have t_hk19 := hk19; have t_n21 := n21; have t_c24 := neI c24; have : (2 : Int32).toInt = 2 := qI_2; have tnb_ := nib7 tn761_ tn762_ tn763_ tn764_ tn765_ tn766_ tn767_; omega))) (kwS hg mfX11_lowest wt_1134 ⟨Nat.le_of_ble_eq_true rfl, Nat.le_of_ble_eq_true rfl⟩) (preSR hK hPc) rfl rfl hl.1 rfl (lv_room (Nat.le_of_ble_eq_true rfl)) dX11_quiet_142 ⟨Nat.le_of_ble_eq_true rfl, Nat.le_of_ble_eq_true rfl⟩) hS (fun q h1 h2 => absurd h2 (Nat.not_le.mpr h1)) (fun q h => hA q (Nat.le_trans hS.1 h)) (fun r27 ur27 t H1 locs ht hvm w28 hB hz1 hk1 hS => ?_)
              have hP := keepR hP hk1
              obtain ⟨w28, w28x⟩ := w28
              exact cut145_23 r27 _ _ hP hD hS ls (lv_sub hl [0, 1, 2, 3, 4, 5] rfl)
            · skip
              refine lv_iload hx hb dX11_quiet_127 (lv_at hl 1 rfl) ?_
              refine lv_i2l (v := y12.toInt64) hx hb dX11_quiet_129 rfl ?_
              refine lv_goto (tgt := 145) hx hb dX11_quiet_130 rfl ?_
              exact cut145_23 y12.toInt64 _ _ hP hD hS ls (lv_sub hl [0, 1, 2, 3, 4, 5] rfl)
          · skip
            have tn768_ : nIT j11 := fun _ => nI_toInt (by first | omega | (have t := nleI c20; omega))
            have tn769_ : nIT k19 := fun _ => nI_toInt (by omega)
            have n29 : j11 < k19 := by have t := nleI c20; rw [show (nI (j11)).toInt = ((j11 : Nat) : Int) from tn768_ ()] at t; rw [show (nI (k19)).toInt = ((k19 : Nat) : Int) from tn769_ ()] at t; omega
            refine lv_iload hx hb dX11_quiet_49 (lv_at hl 0 rfl) ?_
            have hPc := hP.sub (ws' := []) [] rfl
            refine va_calli (va_runS (As := [.int (nI j11)]) (rest := []) ⟨hx, hb, hml, hown, hg⟩ (c_X11_bitsOf l dC dI G _ (nI j11)) (kwS hg mfX11_bitsOf wt_1176 ⟨Nat.le_of_ble_eq_true rfl, Nat.le_of_ble_eq_true rfl⟩) (preSR hK hPc) rfl rfl hl.1 rfl (lv_room (Nat.le_of_ble_eq_true rfl)) dX11_quiet_51 ⟨Nat.le_of_ble_eq_true rfl, Nat.le_of_ble_eq_true rfl⟩) hS (fun q h1 h2 => absurd h2 (Nat.not_le.mpr h1)) (fun q h => hA q (Nat.le_trans hS.1 h)) (fun r30 ur30 t H1 locs ht hvm w31 hB hz1 hk1 hS => ?_)
            have hP := keepR hP hk1
            obtain ⟨w31, w31x⟩ := w31
            refine lv_iload_n hx hb dX11_quiet_54 rfl (lv_at hl 4 rfl) ?_
            have cut116_36 : ∀ (y32 : Int32) (y33 : Int64) (g34 : Nat → Int64) (g35 : Nat → Int64) (H : Heap) (locs : List Loc), va_P (dC, dI) vwCl [(h0, .inr (11, [.ref st, .int (nI N), .int (nI B), .ref rp, .int vrs, .int vrb, .int vhs, .int vca, .int vxs, .int vxb, .ref tp, .int (nI T), .int vfa, .int vbr, .int vba, .int vsp, .int vhe, .int vtk, .int vva, .ref cu, .ref lt, .ref od, .ref th, .ref be, .ref ln, .int (nI S), .ref ma, .int (nI M), .ref ah, .ref bh, .ref ik, .ref la, .ref lg, .ref ce, .int vto])), (st, .inl (G 0, 196, .inl fst)), (od, .inl (G 1, 10, .inr (.inl g34))), (th, .inl (G 1, 10, .inr (.inl g35)))] H → va_D A [(h0, .inr (11, [.ref st, .int (nI N), .int (nI B), .ref rp, .int vrs, .int vrb, .int vhs, .int vca, .int vxs, .int vxb, .ref tp, .int (nI T), .int vfa, .int vbr, .int vba, .int vsp, .int vhe, .int vtk, .int vva, .ref cu, .ref lt, .ref od, .ref th, .ref be, .ref ln, .int (nI S), .ref ma, .int (nI M), .ref ah, .ref bh, .ref ik, .ref la, .ref lg, .ref ce, .int vto])), (st, .inl (G 0, 196, .inl fst)), (od, .inl (G 1, 10, .inr (.inl g34))), (th, .inl (G 1, 10, .inr (.inl g35)))] → va_S A s.heap H locs → ∀ (ls : Array Slot), lv_has ls 7 [(6, .int (nI j11)), (5, .int y32), (3, .long y33), (0, .ref h0), (1, .int mm), (2, .int what)] → W p l e (headSpec (Cond.code yX11_quiet cX11_quiet 7 (some .long) :: GT) ({ frames := 4, cells := 0, slots := 0, locals := 99 } : Room)).room s m ([.ref h0, .int mm, .int what] : List Value).toArray below meth c H locs 0 0 (MQ below (va_Ql (fun (r : Int64) (u : (Nat → Int64) × (Nat → Int64)) => match u with | (ood, oth) => (True) ∧ True) (fun (u : (Nat → Int64) × (Nat → Int64)) (t : State) => match u with | (ood, oth) => va_P (dC, dI) vwCl [(h0, .inr (11, [.ref st, .int (nI N), .int (nI B), .ref rp, .int vrs, .int vrb, .int vhs, .int vca, .int vxs, .int vxb, .ref tp, .int (nI T), .int vfa, .int vbr, .int vba, .int vsp, .int vhe, .int vtk, .int vva, .ref cu, .ref lt, .ref od, .ref th, .ref be, .ref ln, .int (nI S), .ref ma, .int (nI M), .ref ah, .ref bh, .ref ik, .ref la, .ref lg, .ref ce, .int vto])), (st, .inl (G 0, 196, .inl fst)), (od, .inl (G 1, 10, .inr (.inl ood))), (th, .inl (G 1, 10, .inr (.inl oth)))] t.heap ∧ va_D A [(h0, .inr (11, [.ref st, .int (nI N), .int (nI B), .ref rp, .int vrs, .int vrb, .int vhs, .int vca, .int vxs, .int vxb, .ref tp, .int (nI T), .int vfa, .int vbr, .int vba, .int vsp, .int vhe, .int vtk, .int vva, .ref cu, .ref lt, .ref od, .ref th, .ref be, .ref ln, .int (nI S), .ref ma, .int (nI M), .ref ah, .ref bh, .ref ik, .ref la, .ref lg, .ref ce, .int vto])), (st, .inl (G 0, 196, .inl fst)), (od, .inl (G 1, 10, .inr (.inl ood))), (th, .inl (G 1, 10, .inr (.inl oth)))]) A) ([.ref h0, .int mm, .int what] : List Value).toArray s 0 0 A) (F0 m 116 ls []) := by
              intro y32 y33 g34 g35 H locs hP hD hS ls hl
              refine lv_iinc (v := nI (j11 + 1)) (lv' := [(6, .int (nI (j11 + 1))), (5, .int y32), (3, .long y33), (0, .ref h0), (1, .int mm), (2, .int what)]) hx hb dX11_quiet_116 hl (k := 0) rfl (by rw [show Int32.ofInt 1 = nI 1 from by decide]; exact nI_add _ _) (by decide) rfl (fun ls hl => ?_)
              refine lv_goto (tgt := 38) hx hb dX11_quiet_119 rfl ?_
              exact ih38_16 (j11 + 1) (by omega) (by omega) y32 y33 g34 g35 _ _ hP hD hS ls (lv_sub hl [0, 1, 2, 3, 4, 5] rfl)
            refine lv_icmp_gt (tgt := 116) hx hb dX11_quiet_55 rfl (fun c37 => ?_) (fun c37 => ?_)
            · skip
              exact cut116_36 y12 y13 g14 g15 _ _ hP hD hS ls (lv_sub hl [0, 1, 2, 3, 4, 5] rfl)
            · skip
              refine lv_aload_n hx hb dX11_quiet_58 rfl (lv_at hl 3 rfl) ?_
              refine lv_aload_n hx hb dX11_quiet_59 rfl (lv_at hl 3 rfl) ?_
              refine va_get (D := (dC, dI)) (ci := 11) (v := .int (nI N)) (C := RX11) (T := TX11) (N := 35) hx hb hg inG11 hown hK.1 hP 0 rfl rfl 1 (Nat.le_of_ble_eq_true rfl) (hg _ wt_879) (fun _ h9 => h9) rfl dX11_quiet_60 ?_
              refine lv_iload hx hb dX11_quiet_63 (lv_at hl 0 rfl) ?_
              refine lv_bipush (v := (-4)) hx hb dX11_quiet_65 rfl ?_
              obtain ⟨hPc, hDc, hFc⟩ := va_sub3 (ws' := [(h0, .inr (11, [.ref st, .int (nI N), .int (nI B), .ref rp, .int vrs, .int vrb, .int vhs, .int vca, .int vxs, .int vxb, .ref tp, .int (nI T), .int vfa, .int vbr, .int vba, .int vsp, .int vhe, .int vtk, .int vva, .ref cu, .ref lt, .ref od, .ref th, .ref be, .ref ln, .int (nI S), .ref ma, .int (nI M), .ref ah, .ref bh, .ref ik, .ref la, .ref lg, .ref ce, .int vto])), (st, .inl (G 0, 196, .inl fst)), (od, .inl (G 1, 10, .inr (.inl g14))), (th, .inl (G 1, 10, .inr (.inl g15)))]) hP hD hS hA [0, 1, 2, 3] (by decide +kernel) rfl
              refine va_callv (va_runV (As := [.int (nI N), .int (nI j11), .int (-4)]) (rest := []) ⟨hx, hb, hml, hown, hg⟩ (c_X11_layOdds l dC dI G _ h0 N st N B rp tp T cu lt od th be ln S ma M ah bh ik la lg ce (nI j11) (-4) vrs vrb vhs vca vxs vxb vfa vbr vba vsp vhe vtk vva vto fst g14 g15 hN hB_ hT_ hS0 hM_ hst hN) (kwV hg mfX11_layOdds wt_1119 ⟨Nat.le_of_ble_eq_true rfl, Nat.le_of_ble_eq_true rfl⟩) (preVW hK hPc hDc (ci := 11) (r := (RX11, TX11, 35)) rfl rfl) rfl rfl hl.1 rfl (lv_room (Nat.le_of_ble_eq_true rfl)) dX11_quiet_67 ⟨Nat.le_of_ble_eq_true rfl, Nat.le_of_ble_eq_true rfl⟩) hS (fun q _ h => hFc q h) hFc (fun ur38 t H1 locs ht hvm w39 hB hz1 hk1 hS => ?_)
              obtain ⟨u40, u41⟩ := ur38
              obtain ⟨hP1, hD1⟩ := hB
              rw [ht] at hP1
              obtain ⟨hP, hD⟩ := va_join (wr := []) (w1 := [(h0, .inr (11, [.ref st, .int (nI N), .int (nI B), .ref rp, .int vrs, .int vrb, .int vhs, .int vca, .int vxs, .int vxb, .ref tp, .int (nI T), .int vfa, .int vbr, .int vba, .int vsp, .int vhe, .int vtk, .int vva, .ref cu, .ref lt, .ref od, .ref th, .ref be, .ref ln, .int (nI S), .ref ma, .int (nI M), .ref ah, .ref bh, .ref ik, .ref la, .ref lg, .ref ce, .int vto])), (st, .inl (G 0, 196, .inl fst)), (od, .inl (G 1, 10, .inr (.inl u40))), (th, .inl (G 1, 10, .inr (.inl u41)))]) hP hD [0, 1, 2, 3] [] rfl rfl (by decide +kernel) (by decide +kernel) hk1 hFc hP1 hD1
              generalize H1 = H at hP hS ⊢
              refine lv_aload_n hx hb dX11_quiet_70 rfl (lv_at hl 3 rfl) ?_
              refine va_get (D := (dC, dI)) (ci := 11) (v := .ref od) (C := RX11) (T := TX11) (N := 35) hx hb hg inG11 hown hK.1 hP 0 rfl rfl 21 (Nat.le_of_ble_eq_true rfl) (hg _ wt_899) (fun _ h9 => h9) rfl dX11_quiet_71 ?_
              refine lv_iconst (v := 0) hx hb dX11_quiet_74 rfl ?_
              refine va_lald hx hb hK.1 hP 2 1 rfl rfl (vp_in_iff.mpr ⟨by decide, by decide⟩) dX11_quiet_75 ?_
              refine lv_cgl (y := u40 0) (by rfl) ?_
              refine lv_lload_n hx hb dX11_quiet_76 rfl (lv_at hl 2 rfl) ?_
              refine W.lcmp hx hb dX11_quiet_77 ?_
              have cut105_42 : ∀ (H : Heap) (locs : List Loc), va_P (dC, dI) vwCl [(h0, .inr (11, [.ref st, .int (nI N), .int (nI B), .ref rp, .int vrs, .int vrb, .int vhs, .int vca, .int vxs, .int vxb, .ref tp, .int (nI T), .int vfa, .int vbr, .int vba, .int vsp, .int vhe, .int vtk, .int vva, .ref cu, .ref lt, .ref od, .ref th, .ref be, .ref ln, .int (nI S), .ref ma, .int (nI M), .ref ah, .ref bh, .ref ik, .ref la, .ref lg, .ref ce, .int vto])), (st, .inl (G 0, 196, .inl fst)), (od, .inl (G 1, 10, .inr (.inl u40))), (th, .inl (G 1, 10, .inr (.inl u41)))] H → va_D A [(h0, .inr (11, [.ref st, .int (nI N), .int (nI B), .ref rp, .int vrs, .int vrb, .int vhs, .int vca, .int vxs, .int vxb, .ref tp, .int (nI T), .int vfa, .int vbr, .int vba, .int vsp, .int vhe, .int vtk, .int vva, .ref cu, .ref lt, .ref od, .ref th, .ref be, .ref ln, .int (nI S), .ref ma, .int (nI M), .ref ah, .ref bh, .ref ik, .ref la, .ref lg, .ref ce, .int vto])), (st, .inl (G 0, 196, .inl fst)), (od, .inl (G 1, 10, .inr (.inl u40))), (th, .inl (G 1, 10, .inr (.inl u41)))] → va_S A s.heap H locs → ∀ (ls : Array Slot), lv_has ls 7 [(6, .int (nI j11)), (5, .int y12), (3, .long y13), (0, .ref h0), (1, .int mm), (2, .int what)] → W p l e (headSpec (Cond.code yX11_quiet cX11_quiet 7 (some .long) :: GT) ({ frames := 4, cells := 0, slots := 0, locals := 99 } : Room)).room s m ([.ref h0, .int mm, .int what] : List Value).toArray below meth c H locs 0 0 (MQ below (va_Ql (fun (r : Int64) (u : (Nat → Int64) × (Nat → Int64)) => match u with | (ood, oth) => (True) ∧ True) (fun (u : (Nat → Int64) × (Nat → Int64)) (t : State) => match u with | (ood, oth) => va_P (dC, dI) vwCl [(h0, .inr (11, [.ref st, .int (nI N), .int (nI B), .ref rp, .int vrs, .int vrb, .int vhs, .int vca, .int vxs, .int vxb, .ref tp, .int (nI T), .int vfa, .int vbr, .int vba, .int vsp, .int vhe, .int vtk, .int vva, .ref cu, .ref lt, .ref od, .ref th, .ref be, .ref ln, .int (nI S), .ref ma, .int (nI M), .ref ah, .ref bh, .ref ik, .ref la, .ref lg, .ref ce, .int vto])), (st, .inl (G 0, 196, .inl fst)), (od, .inl (G 1, 10, .inr (.inl ood))), (th, .inl (G 1, 10, .inr (.inl oth)))] t.heap ∧ va_D A [(h0, .inr (11, [.ref st, .int (nI N), .int (nI B), .ref rp, .int vrs, .int vrb, .int vhs, .int vca, .int vxs, .int vxb, .ref tp, .int (nI T), .int vfa, .int vbr, .int vba, .int vsp, .int vhe, .int vtk, .int vva, .ref cu, .ref lt, .ref od, .ref th, .ref be, .ref ln, .int (nI S), .ref ma, .int (nI M), .ref ah, .ref bh, .ref ik, .ref la, .ref lg, .ref ce, .int vto])), (st, .inl (G 0, 196, .inl fst)), (od, .inl (G 1, 10, .inr (.inl ood))), (th, .inl (G 1, 10, .inr (.inl oth)))]) A) ([.ref h0, .int mm, .int what] : List Value).toArray s 0 0 A) (F0 m 105 ls []) := by
                intro  H locs hP hD hS ls hl
                refine lv_aload_n hx hb dX11_quiet_105 rfl (lv_at hl 3 rfl) ?_
                refine va_get (D := (dC, dI)) (ci := 11) (v := .ref od) (C := RX11) (T := TX11) (N := 35) hx hb hg inG11 hown hK.1 hP 0 rfl rfl 21 (Nat.le_of_ble_eq_true rfl) (hg _ wt_899) (fun _ h9 => h9) rfl dX11_quiet_106 ?_
                refine lv_iconst (v := 0) hx hb dX11_quiet_109 rfl ?_
                refine va_lald hx hb hK.1 hP 2 1 rfl rfl (vp_in_iff.mpr ⟨by decide, by decide⟩) dX11_quiet_110 ?_
                refine lv_cgl (y := u40 0) (by rfl) ?_
                refine lv_lstore_n (lv' := [(3, .long (u40 0)), (6, .int (nI j11)), (5, .int y12), (0, .ref h0), (1, .int mm), (2, .int what)]) hx hb dX11_quiet_111 rfl hl (by decide) rfl (fun ls hl => ?_)
                refine lv_iload hx hb dX11_quiet_112 (lv_at hl 1 rfl) ?_
                refine lv_istore (lv' := [(5, .int (nI j11)), (3, .long (u40 0)), (6, .int (nI j11)), (0, .ref h0), (1, .int mm), (2, .int what)]) hx hb dX11_quiet_114 hl (by decide) rfl (fun ls hl => ?_)
                exact cut116_36 (nI j11) (u40 0) u40 u41 _ _ hP hD hS ls (lv_sub hl [2, 0, 1, 3, 4, 5] rfl)
              refine lv_if_lt (tgt := 105) hx hb dX11_quiet_78 rfl (fun c43 => ?_) (fun c43 => ?_)
              · skip
                exact cut105_42  _ _ hP hD hS ls (lv_sub hl [0, 1, 2, 3, 4, 5] rfl)
              · skip
                refine lv_aload_n hx hb dX11_quiet_81 rfl (lv_at hl 3 rfl) ?_
                refine va_get (D := (dC, dI)) (ci := 11) (v := .ref od) (C := RX11) (T := TX11) (N := 35) hx hb hg inG11 hown hK.1 hP 0 rfl rfl 21 (Nat.le_of_ble_eq_true rfl) (hg _ wt_899) (fun _ h9 => h9) rfl dX11_quiet_82 ?_
                refine lv_iconst (v := 0) hx hb dX11_quiet_85 rfl ?_
                refine va_lald hx hb hK.1 hP 2 1 rfl rfl (vp_in_iff.mpr ⟨by decide, by decide⟩) dX11_quiet_86 ?_
                refine lv_cgl (y := u40 0) (by rfl) ?_
                refine lv_lload_n hx hb dX11_quiet_87 rfl (lv_at hl 2 rfl) ?_
                refine W.lcmp hx hb dX11_quiet_88 ?_
                refine lv_if_ne (tgt := 116) hx hb dX11_quiet_89 rfl (fun c44 => ?_) (fun c44 => ?_)
                · skip
                  exact cut116_36 y12 y13 u40 u41 _ _ hP hD hS ls (lv_sub hl [0, 1, 2, 3, 4, 5] rfl)
                · skip
                  refine lv_iload hx hb dX11_quiet_92 (lv_at hl 0 rfl) ?_
                  have hPc := hP.sub (ws' := []) [] rfl
                  refine va_calli (va_runS (As := [.int (nI j11)]) (rest := []) ⟨hx, hb, hml, hown, hg⟩ (c_X11_bitsOf l dC dI G _ (nI j11)) (kwS hg mfX11_bitsOf wt_1176 ⟨Nat.le_of_ble_eq_true rfl, Nat.le_of_ble_eq_true rfl⟩) (preSR hK hPc) rfl rfl hl.1 rfl (lv_room (Nat.le_of_ble_eq_true rfl)) dX11_quiet_94 ⟨Nat.le_of_ble_eq_true rfl, Nat.le_of_ble_eq_true rfl⟩) hS (fun q h1 h2 => absurd h2 (Nat.not_le.mpr h1)) (fun q h => hA q (Nat.le_trans hS.1 h)) (fun r45 ur45 t H1 locs ht hvm w46 hB hz1 hk1 hS => ?_)
                  have hP := keepR hP hk1
                  obtain ⟨w46, w46x⟩ := w46
                  refine lv_iload hx hb dX11_quiet_97 (lv_at hl 1 rfl) ?_
                  have hPc := hP.sub (ws' := []) [] rfl
                  refine va_calli (va_runS (As := [.int y12]) (rest := [.int r45]) ⟨hx, hb, hml, hown, hg⟩ (c_X11_bitsOf l dC dI G _ y12) (kwS hg mfX11_bitsOf wt_1176 ⟨Nat.le_of_ble_eq_true rfl, Nat.le_of_ble_eq_true rfl⟩) (preSR hK hPc) rfl rfl hl.1 rfl (lv_room (Nat.le_of_ble_eq_true rfl)) dX11_quiet_99 ⟨Nat.le_of_ble_eq_true rfl, Nat.le_of_ble_eq_true rfl⟩) hS (fun q h1 h2 => absurd h2 (Nat.not_le.mpr h1)) (fun q h => hA q (Nat.le_trans hS.1 h)) (fun r47 ur47 t H1 locs ht hvm w48 hB hz1 hk1 hS => ?_)
                  have hP := keepR hP hk1
                  obtain ⟨w48, w48x⟩ := w48
                  refine lv_icmp_ge (tgt := 116) hx hb dX11_quiet_102 rfl (fun c49 => ?_) (fun c49 => ?_)
                  · skip
                    exact cut116_36 y12 y13 u40 u41 _ _ hP hD hS ls (lv_sub hl [0, 1, 2, 3, 4, 5] rfl)
                  · skip
                    exact cut105_42  _ _ hP hD hS ls (lv_sub hl [0, 1, 2, 3, 4, 5] rfl)
      exact loop38_16 (1024 + 1) 0 (by omega) (by omega) 0 4000000000000000000 fod fth _ _ hP hD hS ls (lv_sub hl [0, 1, 2, 3, 4, 5] rfl)
    · skip
      have b50 := if10_n c9
      exact cut24_3  _ _ hP hD hS ls (lv_sub hl [0, 1, 2] rfl)

set_option maxHeartbeats 1000000 in
set_option maxRecDepth 100000 in
theorem c_X11_drop (l : Launch) (dC : Nat → ClassId) (dI : Nat → Nat → Nat) (G : Nat → ClassId) (sz : Nat) (h0 st N B rp tp T cu lt od th be ln S ma M ah bh ik la lg ce : Nat) (what vrs vrb vhs vca vxs vxb vfa vbr vba vsp vhe vtk vva vto : Int32) (fst : Nat → Int32) (fod : Nat → Int64) (fth : Nat → Int64) (hN : N ≤ 10) (hB : B ≤ 6) (hT : T ≤ 320) (hS0 : S ≤ 8) (hM : M ≤ 6) (hst : OKS fst) : Met l yX11_drop (Cond.code yX11_drop cX11_drop 6 (some .long) :: GT) ({ frames := 4, cells := 0, slots := 0, locals := 99 } : Room) (PcW [.ref h0, .int what] dC dI G [(h0, .inr (11, [.ref st, .int (nI N), .int (nI B), .ref rp, .int vrs, .int vrb, .int vhs, .int vca, .int vxs, .int vxb, .ref tp, .int (nI T), .int vfa, .int vbr, .int vba, .int vsp, .int vhe, .int vtk, .int vva, .ref cu, .ref lt, .ref od, .ref th, .ref be, .ref ln, .int (nI S), .ref ma, .int (nI M), .ref ah, .ref bh, .ref ik, .ref la, .ref lg, .ref ce, .int vto])), (st, .inl (G 0, 196, .inl fst)), (od, .inl (G 1, 10, .inr (.inl fod))), (th, .inl (G 1, 10, .inr (.inl fth)))] sz) (va_Ql (fun (r : Int64) (u : (Nat → Int64) × (Nat → Int64)) => match u with | (ood, oth) => (True) ∧ True) (fun (u : (Nat → Int64) × (Nat → Int64)) (t : State) => match u with | (ood, oth) => va_P (dC, dI) vwCl [(h0, .inr (11, [.ref st, .int (nI N), .int (nI B), .ref rp, .int vrs, .int vrb, .int vhs, .int vca, .int vxs, .int vxb, .ref tp, .int (nI T), .int vfa, .int vbr, .int vba, .int vsp, .int vhe, .int vtk, .int vva, .ref cu, .ref lt, .ref od, .ref th, .ref be, .ref ln, .int (nI S), .ref ma, .int (nI M), .ref ah, .ref bh, .ref ik, .ref la, .ref lg, .ref ce, .int vto])), (st, .inl (G 0, 196, .inl fst)), (od, .inl (G 1, 10, .inr (.inl ood))), (th, .inl (G 1, 10, .inr (.inl oth)))] t.heap ∧ va_D (va_A [(h0, .inr (11, [.ref st, .int (nI N), .int (nI B), .ref rp, .int vrs, .int vrb, .int vhs, .int vca, .int vxs, .int vxb, .ref tp, .int (nI T), .int vfa, .int vbr, .int vba, .int vsp, .int vhe, .int vtk, .int vva, .ref cu, .ref lt, .ref od, .ref th, .ref be, .ref ln, .int (nI S), .ref ma, .int (nI M), .ref ah, .ref bh, .ref ik, .ref la, .ref lg, .ref ce, .int vto])), (st, .inl (G 0, 196, .inl fst)), (od, .inl (G 1, 10, .inr (.inl fod))), (th, .inl (G 1, 10, .inr (.inl fth)))] sz) [(h0, .inr (11, [.ref st, .int (nI N), .int (nI B), .ref rp, .int vrs, .int vrb, .int vhs, .int vca, .int vxs, .int vxb, .ref tp, .int (nI T), .int vfa, .int vbr, .int vba, .int vsp, .int vhe, .int vtk, .int vva, .ref cu, .ref lt, .ref od, .ref th, .ref be, .ref ln, .int (nI S), .ref ma, .int (nI M), .ref ah, .ref bh, .ref ik, .ref la, .ref lg, .ref ce, .int vto])), (st, .inl (G 0, 196, .inl fst)), (od, .inl (G 1, 10, .inr (.inl ood))), (th, .inl (G 1, 10, .inr (.inl oth)))]) (va_A [(h0, .inr (11, [.ref st, .int (nI N), .int (nI B), .ref rp, .int vrs, .int vrb, .int vhs, .int vca, .int vxs, .int vxb, .ref tp, .int (nI T), .int vfa, .int vbr, .int vba, .int vsp, .int vhe, .int vtk, .int vva, .ref cu, .ref lt, .ref od, .ref th, .ref be, .ref ln, .int (nI S), .ref ma, .int (nI M), .ref ah, .ref bh, .ref ik, .ref la, .ref lg, .ref ce, .int vto])), (st, .inl (G 0, 196, .inl fst)), (od, .inl (G 1, 10, .inr (.inl fod))), (th, .inl (G 1, 10, .inr (.inl fth)))] sz)) 0 0 (va_A [(h0, .inr (11, [.ref st, .int (nI N), .int (nI B), .ref rp, .int vrs, .int vrb, .int vhs, .int vca, .int vxs, .int vxb, .ref tp, .int (nI T), .int vfa, .int vbr, .int vba, .int vsp, .int vhe, .int vtk, .int vva, .ref cu, .ref lt, .ref od, .ref th, .ref be, .ref ln, .int (nI S), .ref ma, .int (nI M), .ref ah, .ref bh, .ref ik, .ref la, .ref lg, .ref ce, .int vto])), (st, .inl (G 0, 196, .inl fst)), (od, .inl (G 1, 10, .inr (.inl fod))), (th, .inl (G 1, 10, .inr (.inl fth)))] sz) := by
  have hB_ := hB
  have hM_ := hM
  have hT_ := hT
  have tn770_ : nIT N := fun _ => nI_toInt (by omega)
  have tn771_ : nIT B := fun _ => nI_toInt (by omega)
  have tn772_ : nIT T := fun _ => nI_toInt (by omega)
  have tn773_ : nIT S := fun _ => nI_toInt (by omega)
  have tn774_ : nIT M := fun _ => nI_toInt (by omega)
  refine Met.ofW (cc := cX11_drop) (maxL := 6) (ret := (some .long)) (by decide) rfl ?_
  intro p e s m args below meth c s₁ Bd hml hv
  obtain ⟨rfl, hsz, hP, hK, hD0⟩ := hv
  have hx := Bd.exec
  have hb := Bd.bytes
  have hr := Bd.returns
  have hg : ∀ w ∈ GT, w.before ([.ref h0, .int what] : List Value).toArray s = true := fun w h => atoms_spec (ws := Cond.code yX11_drop cX11_drop 6 (some .long) :: GT) Bd.pre w (List.mem_cons_of_mem _ h)
  have hown : s.vm.findClass RX11 = some m.cls := findClass_of_methodNamed Bd.named
  have hlocks := Bd.notSynchronized
  subst hsz
  have hD := hD0.self (sz := s.heap.size)
  generalize hAe : va_A [(h0, .inr (11, [.ref st, .int (nI N), .int (nI B), .ref rp, .int vrs, .int vrb, .int vhs, .int vca, .int vxs, .int vxb, .ref tp, .int (nI T), .int vfa, .int vbr, .int vba, .int vsp, .int vhe, .int vtk, .int vva, .ref cu, .ref lt, .ref od, .ref th, .ref be, .ref ln, .int (nI S), .ref ma, .int (nI M), .ref ah, .ref bh, .ref ik, .ref la, .ref lg, .ref ce, .int vto])), (st, .inl (G 0, 196, .inl fst)), (od, .inl (G 1, 10, .inr (.inl fod))), (th, .inl (G 1, 10, .inr (.inl fth)))] s.heap.size = A at hD ⊢
  have hA : ∀ q : Nat, s.heap.size ≤ q → A q := fun q h => by rw [← hAe]; exact Or.inr h
  have hS : va_S A s.heap s.heap [] := va_S.rf
  have hl := lv_entry ([.ref h0, .int what]) (n := 6) (Nat.le_of_ble_eq_true rfl)
  rw [lg_entry_eq]
  generalize (lg_sl ([.ref h0, .int what]) ++ List.replicate (6 - (lg_sl ([.ref h0, .int what])).length) Slot.unset).toArray = ls at hl ⊢
  have hl : lv_has ls 6 [(0, .ref h0), (1, .int what)] := hl
  refine lv_iload_n hx hb dX11_drop_0 rfl (lv_at hl 1 rfl) ?_
  refine lv_i2l (v := what.toInt64) hx hb dX11_drop_1 rfl ?_
  refine lv_lconst (v := 0) hx hb dX11_drop_2 (by decide) ?_
  refine lv_ldc2 (v := 2) hx hb hown (hg _ wt_1056) dX11_drop_3 ?_
  have hPc := hP.sub (ws' := []) [] rfl
  refine va_calli (va_runS (As := [.long what.toInt64, .long 0, .long 2]) (rest := []) ⟨hx, hb, hml, hown, hg⟩ (c_X11_in l dC dI G _ what.toInt64 0 2) (kwS hg mfX11_in wt_992 ⟨Nat.le_of_ble_eq_true rfl, Nat.le_of_ble_eq_true rfl⟩) (preSR hK hPc) rfl rfl hl.1 rfl (lv_room (Nat.le_of_ble_eq_true rfl)) dX11_drop_6 ⟨Nat.le_of_ble_eq_true rfl, Nat.le_of_ble_eq_true rfl⟩) hS (fun q h1 h2 => absurd h2 (Nat.not_le.mpr h1)) (fun q h => hA q (Nat.le_trans hS.1 h)) (fun r1 ur1 t H1 locs ht hvm w2 hB hz1 hk1 hS => ?_)
  have hP := keepR hP hk1
  obtain ⟨w2, w2x⟩ := w2
  try simp only [l_ii, show (0 : Int64).toInt = 0 from by decide, show (2 : Int64).toInt = 2 from by decide] at w2
  subst w2
  refine lv_if_ne (tgt := 16) hx hb dX11_drop_9 rfl (fun c3 => ?_) (fun c3 => ?_)
  · skip
    have b4 := if10_p c3
    refine lv_aload_n hx hb dX11_drop_16 rfl (lv_at hl 0 rfl) ?_
    refine va_get (D := (dC, dI)) (ci := 11) (v := .int (nI N)) (C := RX11) (T := TX11) (N := 35) hx hb hg inG11 hown hK.1 hP 0 rfl rfl 1 (Nat.le_of_ble_eq_true rfl) (hg _ wt_879) (fun _ h9 => h9) rfl dX11_drop_17 ?_
    refine lv_if_ne (tgt := 27) hx hb dX11_drop_20 rfl (fun c5 => ?_) (fun c5 => ?_)
    · skip
      have n6 : N ≠ 0 := by have t := neI c5; rw [show (nI (N)).toInt = ((N : Nat) : Int) from tn770_ ()] at t; have : (0 : Int32).toInt = 0 := qI_0; omega
      refine lv_ldc2 (v := 4000000000000000000) hx hb hown (hg _ wt_1154) dX11_drop_27 ?_
      refine lv_lstore_n (lv' := [(2, .long 4000000000000000000), (0, .ref h0), (1, .int what)]) hx hb dX11_drop_30 rfl hl (by decide) rfl (fun ls hl => ?_)
      refine lv_iconst (v := 0) hx hb dX11_drop_31 rfl ?_
      refine lv_istore (lv' := [(4, .int 0), (2, .long 4000000000000000000), (0, .ref h0), (1, .int what)]) hx hb dX11_drop_32 hl (by decide) rfl (fun ls hl => ?_)
      refine lv_iconst (v := 0) hx hb dX11_drop_34 rfl ?_
      refine lv_istore (lv' := [(5, .int 0), (4, .int 0), (2, .long 4000000000000000000), (0, .ref h0), (1, .int what)]) hx hb dX11_drop_35 hl (by decide) rfl (fun ls hl => ?_)
      have loop37_12 : ∀ (nf j7 : Nat), N + 1 ≤ j7 + nf → j7 ≤ N → ∀ (y8 : Int32) (y9 : Int64) (g10 : Nat → Int64) (g11 : Nat → Int64) (H : Heap) (locs : List Loc), va_P (dC, dI) vwCl [(h0, .inr (11, [.ref st, .int (nI N), .int (nI B), .ref rp, .int vrs, .int vrb, .int vhs, .int vca, .int vxs, .int vxb, .ref tp, .int (nI T), .int vfa, .int vbr, .int vba, .int vsp, .int vhe, .int vtk, .int vva, .ref cu, .ref lt, .ref od, .ref th, .ref be, .ref ln, .int (nI S), .ref ma, .int (nI M), .ref ah, .ref bh, .ref ik, .ref la, .ref lg, .ref ce, .int vto])), (st, .inl (G 0, 196, .inl fst)), (od, .inl (G 1, 10, .inr (.inl g10))), (th, .inl (G 1, 10, .inr (.inl g11)))] H → va_D A [(h0, .inr (11, [.ref st, .int (nI N), .int (nI B), .ref rp, .int vrs, .int vrb, .int vhs, .int vca, .int vxs, .int vxb, .ref tp, .int (nI T), .int vfa, .int vbr, .int vba, .int vsp, .int vhe, .int vtk, .int vva, .ref cu, .ref lt, .ref od, .ref th, .ref be, .ref ln, .int (nI S), .ref ma, .int (nI M), .ref ah, .ref bh, .ref ik, .ref la, .ref lg, .ref ce, .int vto])), (st, .inl (G 0, 196, .inl fst)), (od, .inl (G 1, 10, .inr (.inl g10))), (th, .inl (G 1, 10, .inr (.inl g11)))] → va_S A s.heap H locs → ∀ (ls : Array Slot), lv_has ls 6 [(5, .int (nI j7)), (4, .int y8), (2, .long y9), (0, .ref h0), (1, .int what)] → W p l e (headSpec (Cond.code yX11_drop cX11_drop 6 (some .long) :: GT) ({ frames := 4, cells := 0, slots := 0, locals := 99 } : Room)).room s m ([.ref h0, .int what] : List Value).toArray below meth c H locs 0 0 (MQ below (va_Ql (fun (r : Int64) (u : (Nat → Int64) × (Nat → Int64)) => match u with | (ood, oth) => (True) ∧ True) (fun (u : (Nat → Int64) × (Nat → Int64)) (t : State) => match u with | (ood, oth) => va_P (dC, dI) vwCl [(h0, .inr (11, [.ref st, .int (nI N), .int (nI B), .ref rp, .int vrs, .int vrb, .int vhs, .int vca, .int vxs, .int vxb, .ref tp, .int (nI T), .int vfa, .int vbr, .int vba, .int vsp, .int vhe, .int vtk, .int vva, .ref cu, .ref lt, .ref od, .ref th, .ref be, .ref ln, .int (nI S), .ref ma, .int (nI M), .ref ah, .ref bh, .ref ik, .ref la, .ref lg, .ref ce, .int vto])), (st, .inl (G 0, 196, .inl fst)), (od, .inl (G 1, 10, .inr (.inl ood))), (th, .inl (G 1, 10, .inr (.inl oth)))] t.heap ∧ va_D A [(h0, .inr (11, [.ref st, .int (nI N), .int (nI B), .ref rp, .int vrs, .int vrb, .int vhs, .int vca, .int vxs, .int vxb, .ref tp, .int (nI T), .int vfa, .int vbr, .int vba, .int vsp, .int vhe, .int vtk, .int vva, .ref cu, .ref lt, .ref od, .ref th, .ref be, .ref ln, .int (nI S), .ref ma, .int (nI M), .ref ah, .ref bh, .ref ik, .ref la, .ref lg, .ref ce, .int vto])), (st, .inl (G 0, 196, .inl fst)), (od, .inl (G 1, 10, .inr (.inl ood))), (th, .inl (G 1, 10, .inr (.inl oth)))]) A) ([.ref h0, .int what] : List Value).toArray s 0 0 A) (F0 m 37 ls []) := by
        intro nf
        induction nf with
        | zero => intro j7 h1 h2; exact absurd h1 (by omega)
        | succ nf ih37_12 =>
          intro j7 hn13 hj14 y8 y9 g10 g11 H locs hP hD hS ls hl
          refine lv_iload hx hb dX11_drop_37 (lv_at hl 0 rfl) ?_
          refine lv_aload_n hx hb dX11_drop_39 rfl (lv_at hl 3 rfl) ?_
          refine va_get (D := (dC, dI)) (ci := 11) (v := .int (nI N)) (C := RX11) (T := TX11) (N := 35) hx hb hg inG11 hown hK.1 hP 0 rfl rfl 1 (Nat.le_of_ble_eq_true rfl) (hg _ wt_879) (fun _ h9 => h9) rfl dX11_drop_40 ?_
          refine lv_icmp_ge (tgt := 105) hx hb dX11_drop_43 rfl (fun c15 => ?_) (fun c15 => ?_)
          · skip
            have tn775_ : nIT j7 := fun _ => nI_toInt (by first | omega | (have t := leI c15; omega))
            have n16 : N ≤ j7 := by have t := leI c15; rw [show (nI (j7)).toInt = ((j7 : Nat) : Int) from tn775_ ()] at t; rw [show (nI (N)).toInt = ((N : Nat) : Int) from tn770_ ()] at t; omega
            refine lv_iload_n hx hb dX11_drop_105 rfl (lv_at hl 4 rfl) ?_
            refine lv_iconst (v := 2) hx hb dX11_drop_106 rfl ?_
            have cut128_18 : ∀ (y17 : Int64) (H : Heap) (locs : List Loc), va_P (dC, dI) vwCl [(h0, .inr (11, [.ref st, .int (nI N), .int (nI B), .ref rp, .int vrs, .int vrb, .int vhs, .int vca, .int vxs, .int vxb, .ref tp, .int (nI T), .int vfa, .int vbr, .int vba, .int vsp, .int vhe, .int vtk, .int vva, .ref cu, .ref lt, .ref od, .ref th, .ref be, .ref ln, .int (nI S), .ref ma, .int (nI M), .ref ah, .ref bh, .ref ik, .ref la, .ref lg, .ref ce, .int vto])), (st, .inl (G 0, 196, .inl fst)), (od, .inl (G 1, 10, .inr (.inl g10))), (th, .inl (G 1, 10, .inr (.inl g11)))] H → va_D A [(h0, .inr (11, [.ref st, .int (nI N), .int (nI B), .ref rp, .int vrs, .int vrb, .int vhs, .int vca, .int vxs, .int vxb, .ref tp, .int (nI T), .int vfa, .int vbr, .int vba, .int vsp, .int vhe, .int vtk, .int vva, .ref cu, .ref lt, .ref od, .ref th, .ref be, .ref ln, .int (nI S), .ref ma, .int (nI M), .ref ah, .ref bh, .ref ik, .ref la, .ref lg, .ref ce, .int vto])), (st, .inl (G 0, 196, .inl fst)), (od, .inl (G 1, 10, .inr (.inl g10))), (th, .inl (G 1, 10, .inr (.inl g11)))] → va_S A s.heap H locs → ∀ (ls : Array Slot), lv_has ls 6 [(5, .int (nI j7)), (4, .int y8), (2, .long y9), (0, .ref h0), (1, .int what)] → W p l e (headSpec (Cond.code yX11_drop cX11_drop 6 (some .long) :: GT) ({ frames := 4, cells := 0, slots := 0, locals := 99 } : Room)).room s m ([.ref h0, .int what] : List Value).toArray below meth c H locs 0 0 (MQ below (va_Ql (fun (r : Int64) (u : (Nat → Int64) × (Nat → Int64)) => match u with | (ood, oth) => (True) ∧ True) (fun (u : (Nat → Int64) × (Nat → Int64)) (t : State) => match u with | (ood, oth) => va_P (dC, dI) vwCl [(h0, .inr (11, [.ref st, .int (nI N), .int (nI B), .ref rp, .int vrs, .int vrb, .int vhs, .int vca, .int vxs, .int vxb, .ref tp, .int (nI T), .int vfa, .int vbr, .int vba, .int vsp, .int vhe, .int vtk, .int vva, .ref cu, .ref lt, .ref od, .ref th, .ref be, .ref ln, .int (nI S), .ref ma, .int (nI M), .ref ah, .ref bh, .ref ik, .ref la, .ref lg, .ref ce, .int vto])), (st, .inl (G 0, 196, .inl fst)), (od, .inl (G 1, 10, .inr (.inl ood))), (th, .inl (G 1, 10, .inr (.inl oth)))] t.heap ∧ va_D A [(h0, .inr (11, [.ref st, .int (nI N), .int (nI B), .ref rp, .int vrs, .int vrb, .int vhs, .int vca, .int vxs, .int vxb, .ref tp, .int (nI T), .int vfa, .int vbr, .int vba, .int vsp, .int vhe, .int vtk, .int vva, .ref cu, .ref lt, .ref od, .ref th, .ref be, .ref ln, .int (nI S), .ref ma, .int (nI M), .ref ah, .ref bh, .ref ik, .ref la, .ref lg, .ref ce, .int vto])), (st, .inl (G 0, 196, .inl fst)), (od, .inl (G 1, 10, .inr (.inl ood))), (th, .inl (G 1, 10, .inr (.inl oth)))]) A) ([.ref h0, .int what] : List Value).toArray s 0 0 A) (F0 m 128 ls [.long y17]) := by
              intro y17 H locs hP hD hS ls hl
              have hpost : True := by
                trivial
              obtain ⟨hP9, hD9⟩ := va_sub2 (ws' := [(h0, .inr (11, [.ref st, .int (nI N), .int (nI B), .ref rp, .int vrs, .int vrb, .int vhs, .int vca, .int vxs, .int vxb, .ref tp, .int (nI T), .int vfa, .int vbr, .int vba, .int vsp, .int vhe, .int vtk, .int vva, .ref cu, .ref lt, .ref od, .ref th, .ref be, .ref ln, .int (nI S), .ref ma, .int (nI M), .ref ah, .ref bh, .ref ik, .ref la, .ref lg, .ref ce, .int vto])), (st, .inl (G 0, 196, .inl fst)), (od, .inl (G 1, 10, .inr (.inl g10))), (th, .inl (G 1, 10, .inr (.inl g11)))]) hP hD [0, 1, 2, 3] (by decide +kernel) rfl
              refine W.widen (k := 0) (n := 0) (Nat.le_of_ble_eq_true rfl) (Nat.le_of_ble_eq_true rfl) ?_
              exact W.lret (v := y17) hx hb hr (fun t ht hW => ⟨⟨y17, (g10, g11), rfl, ⟨hpost, trivial⟩, ⟨by rw [ht]; exact hP9, hD9⟩⟩, hS.F ht⟩) hS.2.2 dX11_drop_128
            refine lv_icmp_ne (tgt := 116) hx hb dX11_drop_107 rfl (fun c19 => ?_) (fun c19 => ?_)
            · skip
              refine lv_lload_n hx hb dX11_drop_116 rfl (lv_at hl 2 rfl) ?_
              refine lv_aload_n hx hb dX11_drop_117 rfl (lv_at hl 3 rfl) ?_
              refine va_get (D := (dC, dI)) (ci := 11) (v := .int (nI N)) (C := RX11) (T := TX11) (N := 35) hx hb hg inG11 hown hK.1 hP 0 rfl rfl 1 (Nat.le_of_ble_eq_true rfl) (hg _ wt_879) (fun _ h9 => h9) rfl dX11_drop_118 ?_
              have hPc := hP.sub (ws' := []) [] rfl
              refine va_calll (va_runS (As := [.int (nI N)]) (rest := [.long y9]) ⟨hx, hb, hml, hown, hg⟩ (c_X11_power l dC dI G _ N hN) (kwS hg mfX11_power wt_1131 ⟨Nat.le_of_ble_eq_true rfl, Nat.le_of_ble_eq_true rfl⟩) (preSR hK hPc) rfl rfl hl.1 rfl (lv_room (Nat.le_of_ble_eq_true rfl)) dX11_drop_121 ⟨Nat.le_of_ble_eq_true rfl, Nat.le_of_ble_eq_true rfl⟩) hS (fun q h1 h2 => absurd h2 (Nat.not_le.mpr h1)) (fun q h => hA q (Nat.le_trans hS.1 h)) (fun r20 ur20 t H1 locs ht hvm w21 hB hz1 hk1 hS => ?_)
              have hP := keepR hP hk1
              obtain ⟨w21, w21x⟩ := w21
              subst w21
              refine lv_iload_n hx hb dX11_drop_124 rfl (lv_at hl 4 rfl) ?_
              have hPc := hP.sub (ws' := []) [] rfl
              refine va_calll (va_runS (As := [.long y9, .long (powF N), .int what]) (rest := []) ⟨hx, hb, hml, hown, hg⟩ (c_X11_lowest l dC dI G _ what y9 (powF N) (powF_ne (by have t_b4 := b4; have t_n6 := n6; have t_hj14 := hj14; have t_n16 := n16; have t_c19 := neI c19; have : (2 : Int32).toInt = 2 := qI_2; have tnb_ := nib6 tn770_ tn771_ tn772_ tn773_ tn774_ tn775_; omega))) (kwS hg mfX11_lowest wt_1134 ⟨Nat.le_of_ble_eq_true rfl, Nat.le_of_ble_eq_true rfl⟩) (preSR hK hPc) rfl rfl hl.1 rfl (lv_room (Nat.le_of_ble_eq_true rfl)) dX11_drop_125 ⟨Nat.le_of_ble_eq_true rfl, Nat.le_of_ble_eq_true rfl⟩) hS (fun q h1 h2 => absurd h2 (Nat.not_le.mpr h1)) (fun q h => hA q (Nat.le_trans hS.1 h)) (fun r22 ur22 t H1 locs ht hvm w23 hB hz1 hk1 hS => ?_)
              have hP := keepR hP hk1
              obtain ⟨w23, w23x⟩ := w23
              exact cut128_18 r22 _ _ hP hD hS ls (lv_sub hl [0, 1, 2, 3, 4] rfl)
            · skip
              refine lv_iload hx hb dX11_drop_110 (lv_at hl 1 rfl) ?_
              refine lv_i2l (v := y8.toInt64) hx hb dX11_drop_112 rfl ?_
              refine lv_goto (tgt := 128) hx hb dX11_drop_113 rfl ?_
              exact cut128_18 y8.toInt64 _ _ hP hD hS ls (lv_sub hl [0, 1, 2, 3, 4] rfl)
          · skip
            have tn776_ : nIT j7 := fun _ => nI_toInt (by first | omega | (have t := nleI c15; omega))
            have n24 : j7 < N := by have t := nleI c15; rw [show (nI (j7)).toInt = ((j7 : Nat) : Int) from tn776_ ()] at t; rw [show (nI (N)).toInt = ((N : Nat) : Int) from tn770_ ()] at t; omega
            refine lv_aload_n hx hb dX11_drop_46 rfl (lv_at hl 3 rfl) ?_
            refine lv_aload_n hx hb dX11_drop_47 rfl (lv_at hl 3 rfl) ?_
            refine va_get (D := (dC, dI)) (ci := 11) (v := .int (nI N)) (C := RX11) (T := TX11) (N := 35) hx hb hg inG11 hown hK.1 hP 0 rfl rfl 1 (Nat.le_of_ble_eq_true rfl) (hg _ wt_879) (fun _ h9 => h9) rfl dX11_drop_48 ?_
            refine lv_iconst (v := 0) hx hb dX11_drop_51 rfl ?_
            refine lv_iload hx hb dX11_drop_52 (lv_at hl 0 rfl) ?_
            obtain ⟨hPc, hDc, hFc⟩ := va_sub3 (ws' := [(h0, .inr (11, [.ref st, .int (nI N), .int (nI B), .ref rp, .int vrs, .int vrb, .int vhs, .int vca, .int vxs, .int vxb, .ref tp, .int (nI T), .int vfa, .int vbr, .int vba, .int vsp, .int vhe, .int vtk, .int vva, .ref cu, .ref lt, .ref od, .ref th, .ref be, .ref ln, .int (nI S), .ref ma, .int (nI M), .ref ah, .ref bh, .ref ik, .ref la, .ref lg, .ref ce, .int vto])), (st, .inl (G 0, 196, .inl fst)), (od, .inl (G 1, 10, .inr (.inl g10))), (th, .inl (G 1, 10, .inr (.inl g11)))]) hP hD hS hA [0, 1, 2, 3] (by decide +kernel) rfl
            refine va_callv (va_runV (As := [.int (nI N), .int 0, .int (nI j7)]) (rest := []) ⟨hx, hb, hml, hown, hg⟩ (c_X11_layOdds l dC dI G _ h0 N st N B rp tp T cu lt od th be ln S ma M ah bh ik la lg ce 0 (nI j7) vrs vrb vhs vca vxs vxb vfa vbr vba vsp vhe vtk vva vto fst g10 g11 hN hB_ hT_ hS0 hM_ hst hN) (kwV hg mfX11_layOdds wt_1119 ⟨Nat.le_of_ble_eq_true rfl, Nat.le_of_ble_eq_true rfl⟩) (preVW hK hPc hDc (ci := 11) (r := (RX11, TX11, 35)) rfl rfl) rfl rfl hl.1 rfl (lv_room (Nat.le_of_ble_eq_true rfl)) dX11_drop_54 ⟨Nat.le_of_ble_eq_true rfl, Nat.le_of_ble_eq_true rfl⟩) hS (fun q _ h => hFc q h) hFc (fun ur25 t H1 locs ht hvm w26 hB hz1 hk1 hS => ?_)
            obtain ⟨u27, u28⟩ := ur25
            obtain ⟨hP1, hD1⟩ := hB
            rw [ht] at hP1
            obtain ⟨hP, hD⟩ := va_join (wr := []) (w1 := [(h0, .inr (11, [.ref st, .int (nI N), .int (nI B), .ref rp, .int vrs, .int vrb, .int vhs, .int vca, .int vxs, .int vxb, .ref tp, .int (nI T), .int vfa, .int vbr, .int vba, .int vsp, .int vhe, .int vtk, .int vva, .ref cu, .ref lt, .ref od, .ref th, .ref be, .ref ln, .int (nI S), .ref ma, .int (nI M), .ref ah, .ref bh, .ref ik, .ref la, .ref lg, .ref ce, .int vto])), (st, .inl (G 0, 196, .inl fst)), (od, .inl (G 1, 10, .inr (.inl u27))), (th, .inl (G 1, 10, .inr (.inl u28)))]) hP hD [0, 1, 2, 3] [] rfl rfl (by decide +kernel) (by decide +kernel) hk1 hFc hP1 hD1
            generalize H1 = H at hP hS ⊢
            refine lv_aload_n hx hb dX11_drop_57 rfl (lv_at hl 3 rfl) ?_
            refine va_get (D := (dC, dI)) (ci := 11) (v := .ref od) (C := RX11) (T := TX11) (N := 35) hx hb hg inG11 hown hK.1 hP 0 rfl rfl 21 (Nat.le_of_ble_eq_true rfl) (hg _ wt_899) (fun _ h9 => h9) rfl dX11_drop_58 ?_
            refine lv_iconst (v := 0) hx hb dX11_drop_61 rfl ?_
            refine va_lald hx hb hK.1 hP 2 1 rfl rfl (vp_in_iff.mpr ⟨by decide, by decide⟩) dX11_drop_62 ?_
            refine lv_cgl (y := u27 0) (by rfl) ?_
            refine lv_lload_n hx hb dX11_drop_63 rfl (lv_at hl 2 rfl) ?_
            refine W.lcmp hx hb dX11_drop_64 ?_
            have cut75_30 : ∀ (y29 : Int32) (H : Heap) (locs : List Loc), va_P (dC, dI) vwCl [(h0, .inr (11, [.ref st, .int (nI N), .int (nI B), .ref rp, .int vrs, .int vrb, .int vhs, .int vca, .int vxs, .int vxb, .ref tp, .int (nI T), .int vfa, .int vbr, .int vba, .int vsp, .int vhe, .int vtk, .int vva, .ref cu, .ref lt, .ref od, .ref th, .ref be, .ref ln, .int (nI S), .ref ma, .int (nI M), .ref ah, .ref bh, .ref ik, .ref la, .ref lg, .ref ce, .int vto])), (st, .inl (G 0, 196, .inl fst)), (od, .inl (G 1, 10, .inr (.inl u27))), (th, .inl (G 1, 10, .inr (.inl u28)))] H → va_D A [(h0, .inr (11, [.ref st, .int (nI N), .int (nI B), .ref rp, .int vrs, .int vrb, .int vhs, .int vca, .int vxs, .int vxb, .ref tp, .int (nI T), .int vfa, .int vbr, .int vba, .int vsp, .int vhe, .int vtk, .int vva, .ref cu, .ref lt, .ref od, .ref th, .ref be, .ref ln, .int (nI S), .ref ma, .int (nI M), .ref ah, .ref bh, .ref ik, .ref la, .ref lg, .ref ce, .int vto])), (st, .inl (G 0, 196, .inl fst)), (od, .inl (G 1, 10, .inr (.inl u27))), (th, .inl (G 1, 10, .inr (.inl u28)))] → va_S A s.heap H locs → ∀ (ls : Array Slot), lv_has ls 6 [(5, .int (nI j7)), (4, .int y8), (2, .long y9), (0, .ref h0), (1, .int what)] → W p l e (headSpec (Cond.code yX11_drop cX11_drop 6 (some .long) :: GT) ({ frames := 4, cells := 0, slots := 0, locals := 99 } : Room)).room s m ([.ref h0, .int what] : List Value).toArray below meth c H locs 0 0 (MQ below (va_Ql (fun (r : Int64) (u : (Nat → Int64) × (Nat → Int64)) => match u with | (ood, oth) => (True) ∧ True) (fun (u : (Nat → Int64) × (Nat → Int64)) (t : State) => match u with | (ood, oth) => va_P (dC, dI) vwCl [(h0, .inr (11, [.ref st, .int (nI N), .int (nI B), .ref rp, .int vrs, .int vrb, .int vhs, .int vca, .int vxs, .int vxb, .ref tp, .int (nI T), .int vfa, .int vbr, .int vba, .int vsp, .int vhe, .int vtk, .int vva, .ref cu, .ref lt, .ref od, .ref th, .ref be, .ref ln, .int (nI S), .ref ma, .int (nI M), .ref ah, .ref bh, .ref ik, .ref la, .ref lg, .ref ce, .int vto])), (st, .inl (G 0, 196, .inl fst)), (od, .inl (G 1, 10, .inr (.inl ood))), (th, .inl (G 1, 10, .inr (.inl oth)))] t.heap ∧ va_D A [(h0, .inr (11, [.ref st, .int (nI N), .int (nI B), .ref rp, .int vrs, .int vrb, .int vhs, .int vca, .int vxs, .int vxb, .ref tp, .int (nI T), .int vfa, .int vbr, .int vba, .int vsp, .int vhe, .int vtk, .int vva, .ref cu, .ref lt, .ref od, .ref th, .ref be, .ref ln, .int (nI S), .ref ma, .int (nI M), .ref ah, .ref bh, .ref ik, .ref la, .ref lg, .ref ce, .int vto])), (st, .inl (G 0, 196, .inl fst)), (od, .inl (G 1, 10, .inr (.inl ood))), (th, .inl (G 1, 10, .inr (.inl oth)))]) A) ([.ref h0, .int what] : List Value).toArray s 0 0 A) (F0 m 75 ls [.int y29]) := by
              intro y29 H locs hP hD hS ls hl
              refine lv_istore (lv' := [(4, .int y29), (5, .int (nI j7)), (2, .long y9), (0, .ref h0), (1, .int what)]) hx hb dX11_drop_75 hl (by decide) rfl (fun ls hl => ?_)
              refine lv_aload_n hx hb dX11_drop_77 rfl (lv_at hl 3 rfl) ?_
              refine va_get (D := (dC, dI)) (ci := 11) (v := .ref od) (C := RX11) (T := TX11) (N := 35) hx hb hg inG11 hown hK.1 hP 0 rfl rfl 21 (Nat.le_of_ble_eq_true rfl) (hg _ wt_899) (fun _ h9 => h9) rfl dX11_drop_78 ?_
              refine lv_iconst (v := 0) hx hb dX11_drop_81 rfl ?_
              refine va_lald hx hb hK.1 hP 2 1 rfl rfl (vp_in_iff.mpr ⟨by decide, by decide⟩) dX11_drop_82 ?_
              refine lv_cgl (y := u27 0) (by rfl) ?_
              refine lv_lload_n hx hb dX11_drop_83 rfl (lv_at hl 2 rfl) ?_
              refine W.lcmp hx hb dX11_drop_84 ?_
              have cut98_32 : ∀ (y31 : Int64) (H : Heap) (locs : List Loc), va_P (dC, dI) vwCl [(h0, .inr (11, [.ref st, .int (nI N), .int (nI B), .ref rp, .int vrs, .int vrb, .int vhs, .int vca, .int vxs, .int vxb, .ref tp, .int (nI T), .int vfa, .int vbr, .int vba, .int vsp, .int vhe, .int vtk, .int vva, .ref cu, .ref lt, .ref od, .ref th, .ref be, .ref ln, .int (nI S), .ref ma, .int (nI M), .ref ah, .ref bh, .ref ik, .ref la, .ref lg, .ref ce, .int vto])), (st, .inl (G 0, 196, .inl fst)), (od, .inl (G 1, 10, .inr (.inl u27))), (th, .inl (G 1, 10, .inr (.inl u28)))] H → va_D A [(h0, .inr (11, [.ref st, .int (nI N), .int (nI B), .ref rp, .int vrs, .int vrb, .int vhs, .int vca, .int vxs, .int vxb, .ref tp, .int (nI T), .int vfa, .int vbr, .int vba, .int vsp, .int vhe, .int vtk, .int vva, .ref cu, .ref lt, .ref od, .ref th, .ref be, .ref ln, .int (nI S), .ref ma, .int (nI M), .ref ah, .ref bh, .ref ik, .ref la, .ref lg, .ref ce, .int vto])), (st, .inl (G 0, 196, .inl fst)), (od, .inl (G 1, 10, .inr (.inl u27))), (th, .inl (G 1, 10, .inr (.inl u28)))] → va_S A s.heap H locs → ∀ (ls : Array Slot), lv_has ls 6 [(4, .int y29), (5, .int (nI j7)), (2, .long y9), (0, .ref h0), (1, .int what)] → W p l e (headSpec (Cond.code yX11_drop cX11_drop 6 (some .long) :: GT) ({ frames := 4, cells := 0, slots := 0, locals := 99 } : Room)).room s m ([.ref h0, .int what] : List Value).toArray below meth c H locs 0 0 (MQ below (va_Ql (fun (r : Int64) (u : (Nat → Int64) × (Nat → Int64)) => match u with | (ood, oth) => (True) ∧ True) (fun (u : (Nat → Int64) × (Nat → Int64)) (t : State) => match u with | (ood, oth) => va_P (dC, dI) vwCl [(h0, .inr (11, [.ref st, .int (nI N), .int (nI B), .ref rp, .int vrs, .int vrb, .int vhs, .int vca, .int vxs, .int vxb, .ref tp, .int (nI T), .int vfa, .int vbr, .int vba, .int vsp, .int vhe, .int vtk, .int vva, .ref cu, .ref lt, .ref od, .ref th, .ref be, .ref ln, .int (nI S), .ref ma, .int (nI M), .ref ah, .ref bh, .ref ik, .ref la, .ref lg, .ref ce, .int vto])), (st, .inl (G 0, 196, .inl fst)), (od, .inl (G 1, 10, .inr (.inl ood))), (th, .inl (G 1, 10, .inr (.inl oth)))] t.heap ∧ va_D A [(h0, .inr (11, [.ref st, .int (nI N), .int (nI B), .ref rp, .int vrs, .int vrb, .int vhs, .int vca, .int vxs, .int vxb, .ref tp, .int (nI T), .int vfa, .int vbr, .int vba, .int vsp, .int vhe, .int vtk, .int vva, .ref cu, .ref lt, .ref od, .ref th, .ref be, .ref ln, .int (nI S), .ref ma, .int (nI M), .ref ah, .ref bh, .ref ik, .ref la, .ref lg, .ref ce, .int vto])), (st, .inl (G 0, 196, .inl fst)), (od, .inl (G 1, 10, .inr (.inl ood))), (th, .inl (G 1, 10, .inr (.inl oth)))]) A) ([.ref h0, .int what] : List Value).toArray s 0 0 A) (F0 m 98 ls [.long y31]) := by
                intro y31 H locs hP hD hS ls hl
                refine lv_lstore_n (lv' := [(2, .long y31), (4, .int y29), (5, .int (nI j7)), (0, .ref h0), (1, .int what)]) hx hb dX11_drop_98 rfl hl (by decide) rfl (fun ls hl => ?_)
                refine lv_iinc (v := nI (j7 + 1)) (lv' := [(5, .int (nI (j7 + 1))), (2, .long y31), (4, .int y29), (0, .ref h0), (1, .int what)]) hx hb dX11_drop_99 hl (k := 2) rfl (by rw [show Int32.ofInt 1 = nI 1 from by decide]; exact nI_add _ _) (by decide) rfl (fun ls hl => ?_)
                refine lv_goto (tgt := 37) hx hb dX11_drop_102 rfl ?_
                exact ih37_12 (j7 + 1) (by omega) (by omega) y29 y31 u27 u28 _ _ hP hD hS ls (lv_sub hl [0, 2, 1, 3, 4] rfl)
              refine lv_if_ge (tgt := 97) hx hb dX11_drop_85 rfl (fun c33 => ?_) (fun c33 => ?_)
              · skip
                refine lv_lload_n hx hb dX11_drop_97 rfl (lv_at hl 2 rfl) ?_
                exact cut98_32 y9 _ _ hP hD hS ls (lv_sub hl [0, 1, 2, 3, 4] rfl)
              · skip
                refine lv_aload_n hx hb dX11_drop_88 rfl (lv_at hl 3 rfl) ?_
                refine va_get (D := (dC, dI)) (ci := 11) (v := .ref od) (C := RX11) (T := TX11) (N := 35) hx hb hg inG11 hown hK.1 hP 0 rfl rfl 21 (Nat.le_of_ble_eq_true rfl) (hg _ wt_899) (fun _ h9 => h9) rfl dX11_drop_89 ?_
                refine lv_iconst (v := 0) hx hb dX11_drop_92 rfl ?_
                refine va_lald hx hb hK.1 hP 2 1 rfl rfl (vp_in_iff.mpr ⟨by decide, by decide⟩) dX11_drop_93 ?_
                refine lv_cgl (y := u27 0) (by rfl) ?_
                refine lv_goto (tgt := 98) hx hb dX11_drop_94 rfl ?_
                exact cut98_32 (u27 0) _ _ hP hD hS ls (lv_sub hl [0, 1, 2, 3, 4] rfl)
            refine lv_if_ge (tgt := 73) hx hb dX11_drop_65 rfl (fun c34 => ?_) (fun c34 => ?_)
            · skip
              refine lv_iload hx hb dX11_drop_73 (lv_at hl 1 rfl) ?_
              exact cut75_30 y8 _ _ hP hD hS ls (lv_sub hl [0, 1, 2, 3, 4] rfl)
            · skip
              refine lv_iload hx hb dX11_drop_68 (lv_at hl 0 rfl) ?_
              refine lv_goto (tgt := 75) hx hb dX11_drop_70 rfl ?_
              exact cut75_30 (nI j7) _ _ hP hD hS ls (lv_sub hl [0, 1, 2, 3, 4] rfl)
      exact loop37_12 (N + 1) 0 (by omega) (by omega) 0 4000000000000000000 fod fth _ _ hP hD hS ls (lv_sub hl [0, 1, 2, 3, 4] rfl)
    · skip
      have n35 : N = 0 := by have t := eqI c5; rw [show (nI (N)).toInt = ((N : Nat) : Int) from tn770_ ()] at t; have : (0 : Int32).toInt = 0 := qI_0; omega
      refine lv_ldc2 (v := (-2)) hx hb hown (hg _ wt_1170) dX11_drop_23 ?_
      have hpost : True := by
        trivial
      obtain ⟨hP9, hD9⟩ := va_sub2 (ws' := [(h0, .inr (11, [.ref st, .int (nI N), .int (nI B), .ref rp, .int vrs, .int vrb, .int vhs, .int vca, .int vxs, .int vxb, .ref tp, .int (nI T), .int vfa, .int vbr, .int vba, .int vsp, .int vhe, .int vtk, .int vva, .ref cu, .ref lt, .ref od, .ref th, .ref be, .ref ln, .int (nI S), .ref ma, .int (nI M), .ref ah, .ref bh, .ref ik, .ref la, .ref lg, .ref ce, .int vto])), (st, .inl (G 0, 196, .inl fst)), (od, .inl (G 1, 10, .inr (.inl fod))), (th, .inl (G 1, 10, .inr (.inl fth)))]) hP hD [0, 1, 2, 3] (by decide +kernel) rfl
      refine W.widen (k := 0) (n := 0) (Nat.le_of_ble_eq_true rfl) (Nat.le_of_ble_eq_true rfl) ?_
      exact W.lret (v := (-2)) hx hb hr (fun t ht hW => ⟨⟨(-2), (fod, fth), rfl, ⟨hpost, trivial⟩, ⟨by rw [ht]; exact hP9, hD9⟩⟩, hS.F ht⟩) hS.2.2 dX11_drop_26
  · skip
    have b36 := if10_n c3
    refine lv_ldc2 (v := (-1)) hx hb hown (hg _ wt_1118) dX11_drop_12 ?_
    have hpost : True := by
      trivial
    obtain ⟨hP9, hD9⟩ := va_sub2 (ws' := [(h0, .inr (11, [.ref st, .int (nI N), .int (nI B), .ref rp, .int vrs, .int vrb, .int vhs, .int vca, .int vxs, .int vxb, .ref tp, .int (nI T), .int vfa, .int vbr, .int vba, .int vsp, .int vhe, .int vtk, .int vva, .ref cu, .ref lt, .ref od, .ref th, .ref be, .ref ln, .int (nI S), .ref ma, .int (nI M), .ref ah, .ref bh, .ref ik, .ref la, .ref lg, .ref ce, .int vto])), (st, .inl (G 0, 196, .inl fst)), (od, .inl (G 1, 10, .inr (.inl fod))), (th, .inl (G 1, 10, .inr (.inl fth)))]) hP hD [0, 1, 2, 3] (by decide +kernel) rfl
    refine W.widen (k := 0) (n := 0) (Nat.le_of_ble_eq_true rfl) (Nat.le_of_ble_eq_true rfl) ?_
    exact W.lret (v := (-1)) hx hb hr (fun t ht hW => ⟨⟨(-1), (fod, fth), rfl, ⟨hpost, trivial⟩, ⟨by rw [ht]; exact hP9, hD9⟩⟩, hS.F ht⟩) hS.2.2 dX11_drop_15

set_option maxHeartbeats 1000000 in
set_option maxRecDepth 100000 in
theorem c_X11_carry (l : Launch) (dC : Nat → ClassId) (dI : Nat → Nat → Nat) (G : Nat → ClassId) (sz : Nat) (h0 st N B rp tp T cu lt od th be ln S ma M ah bh ik la lg ce : Nat) (sd what vrs vrb vhs vca vxs vxb vfa vbr vba vsp vhe vtk vva vto : Int32) (fst : Nat → Int32) (hN : N ≤ 10) (hB : B ≤ 6) (hT : T ≤ 320) (hS0 : S ≤ 8) (hM : M ≤ 6) (hst : OKS fst) : Met l yX11_carry (Cond.code yX11_carry cX11_carry 9 (some .int) :: GT) ({ frames := 3, cells := 0, slots := 0, locals := 72 } : Room) (PcR [.ref h0, .int sd, .int what] dC dI G [(h0, .inr (11, [.ref st, .int (nI N), .int (nI B), .ref rp, .int vrs, .int vrb, .int vhs, .int vca, .int vxs, .int vxb, .ref tp, .int (nI T), .int vfa, .int vbr, .int vba, .int vsp, .int vhe, .int vtk, .int vva, .ref cu, .ref lt, .ref od, .ref th, .ref be, .ref ln, .int (nI S), .ref ma, .int (nI M), .ref ah, .ref bh, .ref ik, .ref la, .ref lg, .ref ce, .int vto])), (st, .inl (G 0, 196, .inl fst))] sz) (va_Qi (fun (r : Int32) (u : Unit) => match u with | _ => (True) ∧ True) (fun _ _ => True) (fun q : Nat => sz ≤ q)) 0 0 (fun q : Nat => sz ≤ q) := by
  have hB_ := hB
  have hM_ := hM
  have hT_ := hT
  have tn793_ : nIT N := fun _ => nI_toInt (by omega)
  have tn794_ : nIT B := fun _ => nI_toInt (by omega)
  have tn795_ : nIT T := fun _ => nI_toInt (by omega)
  have tn796_ : nIT S := fun _ => nI_toInt (by omega)
  have tn797_ : nIT M := fun _ => nI_toInt (by omega)
  refine Met.ofW (cc := cX11_carry) (maxL := 9) (ret := (some .int)) (by decide) rfl ?_
  intro p e s m args below meth c s₁ Bd hml hv
  obtain ⟨rfl, hsz, hP, hK⟩ := hv
  have hx := Bd.exec
  have hb := Bd.bytes
  have hr := Bd.returns
  have hg : ∀ w ∈ GT, w.before ([.ref h0, .int sd, .int what] : List Value).toArray s = true := fun w h => atoms_spec (ws := Cond.code yX11_carry cX11_carry 9 (some .int) :: GT) Bd.pre w (List.mem_cons_of_mem _ h)
  have hown : s.vm.findClass RX11 = some m.cls := findClass_of_methodNamed Bd.named
  have hlocks := Bd.notSynchronized
  subst hsz
  have hA : ∀ q : Nat, s.heap.size ≤ q → (fun q : Nat => s.heap.size ≤ q) q := fun _ h => h
  have hS : va_S (fun q : Nat => s.heap.size ≤ q) s.heap s.heap [] := va_S.rf
  have hl := lv_entry ([.ref h0, .int sd, .int what]) (n := 9) (Nat.le_of_ble_eq_true rfl)
  rw [lg_entry_eq]
  generalize (lg_sl ([.ref h0, .int sd, .int what]) ++ List.replicate (9 - (lg_sl ([.ref h0, .int sd, .int what])).length) Slot.unset).toArray = ls at hl ⊢
  have hl : lv_has ls 9 [(0, .ref h0), (1, .int sd), (2, .int what)] := hl
  refine lv_iload_n hx hb dX11_carry_0 rfl (lv_at hl 2 rfl) ?_
  refine lv_i2l (v := what.toInt64) hx hb dX11_carry_1 rfl ?_
  refine lv_lconst (v := 0) hx hb dX11_carry_2 (by decide) ?_
  refine lv_ldc2 (v := 2) hx hb hown (hg _ wt_1056) dX11_carry_3 ?_
  have hPc := hP.sub (ws' := []) [] rfl
  refine va_calli (va_runS (As := [.long what.toInt64, .long 0, .long 2]) (rest := []) ⟨hx, hb, hml, hown, hg⟩ (c_X11_in l dC dI G _ what.toInt64 0 2) (kwS hg mfX11_in wt_992 ⟨Nat.le_of_ble_eq_true rfl, Nat.le_of_ble_eq_true rfl⟩) (preSR hK hPc) rfl rfl hl.1 rfl (lv_room (Nat.le_of_ble_eq_true rfl)) dX11_carry_6 ⟨Nat.le_of_ble_eq_true rfl, Nat.le_of_ble_eq_true rfl⟩) hS (fun q h1 h2 => absurd h2 (Nat.not_le.mpr h1)) (fun q h => hA q (Nat.le_trans hS.1 h)) (fun r1 ur1 t H1 locs ht hvm w2 hB hz1 hk1 hS => ?_)
  have hP := keepR hP hk1
  obtain ⟨w2, w2x⟩ := w2
  try simp only [l_ii, show (0 : Int64).toInt = 0 from by decide, show (2 : Int64).toInt = 2 from by decide] at w2
  subst w2
  refine lv_if_ne (tgt := 14) hx hb dX11_carry_9 rfl (fun c3 => ?_) (fun c3 => ?_)
  · skip
    have b4 := if10_p c3
    refine lv_iload_n hx hb dX11_carry_14 rfl (lv_at hl 1 rfl) ?_
    refine lv_istore_n (lv' := [(3, .int sd), (0, .ref h0), (1, .int sd), (2, .int what)]) hx hb dX11_carry_15 rfl hl (by decide) rfl (fun ls hl => ?_)
    refine lv_aload_n hx hb dX11_carry_16 rfl (lv_at hl 1 rfl) ?_
    have hPc := hP.sub (ws' := [(h0, .inr (11, [.ref st, .int (nI N), .int (nI B), .ref rp, .int vrs, .int vrb, .int vhs, .int vca, .int vxs, .int vxb, .ref tp, .int (nI T), .int vfa, .int vbr, .int vba, .int vsp, .int vhe, .int vtk, .int vva, .ref cu, .ref lt, .ref od, .ref th, .ref be, .ref ln, .int (nI S), .ref ma, .int (nI M), .ref ah, .ref bh, .ref ik, .ref la, .ref lg, .ref ce, .int vto])), (st, .inl (G 0, 196, .inl fst))]) [0, 1] rfl
    refine va_calli (va_runV (As := []) (rest := []) ⟨hx, hb, hml, hown, hg⟩ (c_X11_startNow l dC dI G _ h0 st N B rp tp T cu lt od th be ln S ma M ah bh ik la lg ce vrs vrb vhs vca vxs vxb vfa vbr vba vsp vhe vtk vva vto fst hN hB_ hT_ hS0 hM_ hst) (kwV hg mfX11_startNow wt_1044 ⟨Nat.le_of_ble_eq_true rfl, Nat.le_of_ble_eq_true rfl⟩) (preVR hK hPc (ci := 11) (r := (RX11, TX11, 35)) rfl rfl) rfl rfl hl.1 rfl (lv_room (Nat.le_of_ble_eq_true rfl)) dX11_carry_17 ⟨Nat.le_of_ble_eq_true rfl, Nat.le_of_ble_eq_true rfl⟩) hS (fun q h1 h2 => absurd h2 (Nat.not_le.mpr h1)) (fun q h => hA q (Nat.le_trans hS.1 h)) (fun r5 ur5 t H1 locs ht hvm w6 hB hz1 hk1 hS => ?_)
    have hP := keepR hP hk1
    obtain ⟨w6, w6x⟩ := w6
    obtain ⟨k7, w6, w6a, w6b⟩ := w6
    subst w6
    refine lv_istore (lv' := [(4, .int (nI k7)), (3, .int sd), (0, .ref h0), (1, .int sd), (2, .int what)]) hx hb dX11_carry_20 hl (by decide) rfl (fun ls hl => ?_)
    refine lv_iconst (v := 0) hx hb dX11_carry_22 rfl ?_
    refine lv_istore (lv' := [(5, .int 0), (4, .int (nI k7)), (3, .int sd), (0, .ref h0), (1, .int sd), (2, .int what)]) hx hb dX11_carry_23 hl (by decide) rfl (fun ls hl => ?_)
    refine lv_bipush (v := (-4)) hx hb dX11_carry_25 rfl ?_
    refine lv_istore (lv' := [(6, .int (-4)), (5, .int 0), (4, .int (nI k7)), (3, .int sd), (0, .ref h0), (1, .int sd), (2, .int what)]) hx hb dX11_carry_27 hl (by decide) rfl (fun ls hl => ?_)
    refine lv_iconst (v := 0) hx hb dX11_carry_29 rfl ?_
    refine lv_istore (lv' := [(7, .int 0), (6, .int (-4)), (5, .int 0), (4, .int (nI k7)), (3, .int sd), (0, .ref h0), (1, .int sd), (2, .int what)]) hx hb dX11_carry_30 hl (by decide) rfl (fun ls hl => ?_)
    have loop32_14 : ∀ (nf j8 : Nat), N + 1 ≤ j8 + nf → j8 ≤ N → ∀ (y9 : Int32) (y10 : Int32) (k12 : Nat) (y13 : Int32) (H : Heap) (locs : List Loc), k12 ≤ 9 → va_P (dC, dI) vwCl [(h0, .inr (11, [.ref st, .int (nI N), .int (nI B), .ref rp, .int vrs, .int vrb, .int vhs, .int vca, .int vxs, .int vxb, .ref tp, .int (nI T), .int vfa, .int vbr, .int vba, .int vsp, .int vhe, .int vtk, .int vva, .ref cu, .ref lt, .ref od, .ref th, .ref be, .ref ln, .int (nI S), .ref ma, .int (nI M), .ref ah, .ref bh, .ref ik, .ref la, .ref lg, .ref ce, .int vto])), (st, .inl (G 0, 196, .inl fst))] H → va_S (fun q : Nat => s.heap.size ≤ q) s.heap H locs → ∀ (ls : Array Slot), lv_has ls 9 [(7, .int (nI j8)), (6, .int y9), (5, .int y10), (4, .int (nI k12)), (3, .int y13), (0, .ref h0), (1, .int sd), (2, .int what)] → W p l e (headSpec (Cond.code yX11_carry cX11_carry 9 (some .int) :: GT) ({ frames := 3, cells := 0, slots := 0, locals := 72 } : Room)).room s m ([.ref h0, .int sd, .int what] : List Value).toArray below meth c H locs 0 0 (MQ below (va_Qi (fun (r : Int32) (u : Unit) => match u with | _ => (True) ∧ True) (fun _ _ => True) (fun q : Nat => s.heap.size ≤ q)) ([.ref h0, .int sd, .int what] : List Value).toArray s 0 0 (fun q : Nat => s.heap.size ≤ q)) (F0 m 32 ls []) := by
      intro nf
      induction nf with
      | zero => intro j8 h1 h2; exact absurd h1 (by omega)
      | succ nf ih32_14 =>
        intro j8 hn15 hj16 y9 y10 k12 y13 H locs hinv hP hS ls hl
        refine lv_iload hx hb dX11_carry_32 (lv_at hl 0 rfl) ?_
        refine lv_aload_n hx hb dX11_carry_34 rfl (lv_at hl 5 rfl) ?_
        refine va_get (D := (dC, dI)) (ci := 11) (v := .int (nI N)) (C := RX11) (T := TX11) (N := 35) hx hb hg inG11 hown hK.1 hP 0 rfl rfl 1 (Nat.le_of_ble_eq_true rfl) (hg _ wt_879) (fun _ h9 => h9) rfl dX11_carry_35 ?_
        have cut138_17 : ∀ (H : Heap) (locs : List Loc), va_P (dC, dI) vwCl [(h0, .inr (11, [.ref st, .int (nI N), .int (nI B), .ref rp, .int vrs, .int vrb, .int vhs, .int vca, .int vxs, .int vxb, .ref tp, .int (nI T), .int vfa, .int vbr, .int vba, .int vsp, .int vhe, .int vtk, .int vva, .ref cu, .ref lt, .ref od, .ref th, .ref be, .ref ln, .int (nI S), .ref ma, .int (nI M), .ref ah, .ref bh, .ref ik, .ref la, .ref lg, .ref ce, .int vto])), (st, .inl (G 0, 196, .inl fst))] H → va_S (fun q : Nat => s.heap.size ≤ q) s.heap H locs → ∀ (ls : Array Slot), lv_has ls 9 [(7, .int (nI j8)), (6, .int y9), (5, .int y10), (4, .int (nI k12)), (3, .int y13), (0, .ref h0), (1, .int sd), (2, .int what)] → W p l e (headSpec (Cond.code yX11_carry cX11_carry 9 (some .int) :: GT) ({ frames := 3, cells := 0, slots := 0, locals := 72 } : Room)).room s m ([.ref h0, .int sd, .int what] : List Value).toArray below meth c H locs 0 0 (MQ below (va_Qi (fun (r : Int32) (u : Unit) => match u with | _ => (True) ∧ True) (fun _ _ => True) (fun q : Nat => s.heap.size ≤ q)) ([.ref h0, .int sd, .int what] : List Value).toArray s 0 0 (fun q : Nat => s.heap.size ≤ q)) (F0 m 138 ls []) := by
          intro  H locs hP hS ls hl
          refine lv_iload_n hx hb dX11_carry_138 rfl (lv_at hl 7 rfl) ?_
          have cut159_19 : ∀ (y18 : Int32) (H : Heap) (locs : List Loc), va_P (dC, dI) vwCl [(h0, .inr (11, [.ref st, .int (nI N), .int (nI B), .ref rp, .int vrs, .int vrb, .int vhs, .int vca, .int vxs, .int vxb, .ref tp, .int (nI T), .int vfa, .int vbr, .int vba, .int vsp, .int vhe, .int vtk, .int vva, .ref cu, .ref lt, .ref od, .ref th, .ref be, .ref ln, .int (nI S), .ref ma, .int (nI M), .ref ah, .ref bh, .ref ik, .ref la, .ref lg, .ref ce, .int vto])), (st, .inl (G 0, 196, .inl fst))] H → va_S (fun q : Nat => s.heap.size ≤ q) s.heap H locs → ∀ (ls : Array Slot), lv_has ls 9 [(7, .int (nI j8)), (6, .int y9), (5, .int y10), (4, .int (nI k12)), (3, .int y13), (0, .ref h0), (1, .int sd), (2, .int what)] → W p l e (headSpec (Cond.code yX11_carry cX11_carry 9 (some .int) :: GT) ({ frames := 3, cells := 0, slots := 0, locals := 72 } : Room)).room s m ([.ref h0, .int sd, .int what] : List Value).toArray below meth c H locs 0 0 (MQ below (va_Qi (fun (r : Int32) (u : Unit) => match u with | _ => (True) ∧ True) (fun _ _ => True) (fun q : Nat => s.heap.size ≤ q)) ([.ref h0, .int sd, .int what] : List Value).toArray s 0 0 (fun q : Nat => s.heap.size ≤ q)) (F0 m 159 ls [.int y18]) := by
            intro y18 H locs hP hS ls hl
            have hpost : True := by
              trivial
            refine W.widen (k := 0) (n := 0) (Nat.le_of_ble_eq_true rfl) (Nat.le_of_ble_eq_true rfl) ?_
            exact W.iret (v := y18) hx hb hr (fun t ht hW => ⟨⟨y18, (), rfl, ⟨hpost, trivial⟩, trivial⟩, hS.F ht⟩) hS.2.2 dX11_carry_159
          refine lv_if_ne (tgt := 147) hx hb dX11_carry_139 rfl (fun c20 => ?_) (fun c20 => ?_)
          · skip
            refine lv_iload_n hx hb dX11_carry_147 rfl (lv_at hl 7 rfl) ?_
            refine lv_iconst (v := 1) hx hb dX11_carry_148 rfl ?_
            refine lv_icmp_ne (tgt := 157) hx hb dX11_carry_149 rfl (fun c21 => ?_) (fun c21 => ?_)
            · skip
              refine lv_iload hx hb dX11_carry_157 (lv_at hl 1 rfl) ?_
              exact cut159_19 y9 _ _ hP hS ls (lv_sub hl [0, 1, 2, 3, 4, 5, 6, 7] rfl)
            · skip
              refine lv_iload hx hb dX11_carry_152 (lv_at hl 2 rfl) ?_
              refine lv_goto (tgt := 159) hx hb dX11_carry_154 rfl ?_
              exact cut159_19 y10 _ _ hP hS ls (lv_sub hl [0, 1, 2, 3, 4, 5, 6, 7] rfl)
          · skip
            refine lv_iload hx hb dX11_carry_142 (lv_at hl 3 rfl) ?_
            refine lv_goto (tgt := 159) hx hb dX11_carry_144 rfl ?_
            exact cut159_19 (nI k12) _ _ hP hS ls (lv_sub hl [0, 1, 2, 3, 4, 5, 6, 7] rfl)
        refine lv_icmp_ge (tgt := 138) hx hb dX11_carry_38 rfl (fun c22 => ?_) (fun c22 => ?_)
        · skip
          have tn798_ : nIT j8 := fun _ => nI_toInt (by first | omega | (have t := leI c22; omega))
          have n23 : N ≤ j8 := by have t := leI c22; rw [show (nI (j8)).toInt = ((j8 : Nat) : Int) from tn798_ ()] at t; rw [show (nI (N)).toInt = ((N : Nat) : Int) from tn793_ ()] at t; omega
          exact cut138_17  _ _ hP hS ls (lv_sub hl [0, 1, 2, 3, 4, 5, 6, 7] rfl)
        · skip
          have tn799_ : nIT j8 := fun _ => nI_toInt (by first | omega | (have t := nleI c22; omega))
          have n24 : j8 < N := by have t := nleI c22; rw [show (nI (j8)).toInt = ((j8 : Nat) : Int) from tn799_ ()] at t; rw [show (nI (N)).toInt = ((N : Nat) : Int) from tn793_ ()] at t; omega
          refine lv_iload hx hb dX11_carry_41 (lv_at hl 3 rfl) ?_
          refine lv_if_le (tgt := 138) hx hb dX11_carry_43 rfl (fun c25 => ?_) (fun c25 => ?_)
          · skip
            have tn800_ : nIT k12 := fun _ => nI_toInt (by first | omega | (have t := leI c25; omega))
            have n26 : k12 ≤ 0 := by have t := leI c25; rw [show (nI (k12)).toInt = ((k12 : Nat) : Int) from tn800_ ()] at t; have : (0 : Int32).toInt = 0 := qI_0; omega
            exact cut138_17  _ _ hP hS ls (lv_sub hl [0, 1, 2, 3, 4, 5, 6, 7] rfl)
          · skip
            have tn801_ : nIT k12 := fun _ => nI_toInt (by first | omega | (have t := nleI c25; omega))
            have n27 : 0 < k12 := by have t := nleI c25; rw [show (nI (k12)).toInt = ((k12 : Nat) : Int) from tn801_ ()] at t; have : (0 : Int32).toInt = 0 := qI_0; omega
            refine lv_iload_n hx hb dX11_carry_46 rfl (lv_at hl 4 rfl) ?_
            refine lv_ldc (v := 1103515245) hx hb hown (hg _ wt_1195) dX11_carry_47 ?_
            refine lv_imul hx hb dX11_carry_49 ?_
            refine lv_sipush (v := 12345) hx hb dX11_carry_50 rfl ?_
            refine lv_iadd hx hb dX11_carry_53 ?_
            refine lv_topi (fun v28 ev28 => ?_)
            refine lv_istore_n (lv' := [(3, .int v28), (7, .int (nI j8)), (6, .int y9), (5, .int y10), (4, .int (nI k12)), (0, .ref h0), (1, .int sd), (2, .int what)]) hx hb dX11_carry_54 rfl hl (by decide) rfl (fun ls hl => ?_)
            refine lv_iload_n hx hb dX11_carry_55 rfl (lv_at hl 0 rfl) ?_
            refine lv_bipush (v := 16) hx hb dX11_carry_56 rfl ?_
            refine lv_ishr hx hb dX11_carry_58 ?_
            refine lv_sipush (v := 32767) hx hb dX11_carry_59 rfl ?_
            refine lv_iand hx hb dX11_carry_62 ?_
            refine lv_topi (fun v29 ev29 => ?_)
            refine lv_bipush (v := 20) hx hb dX11_carry_63 rfl ?_
            refine lv_irem hx hb dX11_carry_65 (by decide) ?_
            refine lv_aload_n hx hb dX11_carry_66 rfl (lv_at hl 5 rfl) ?_
            refine lv_iload hx hb dX11_carry_67 (lv_at hl 1 rfl) ?_
            refine lv_iconst (v := 0) hx hb dX11_carry_69 rfl ?_
            have hPc := hP.sub (ws' := [(h0, .inr (11, [.ref st, .int (nI N), .int (nI B), .ref rp, .int vrs, .int vrb, .int vhs, .int vca, .int vxs, .int vxb, .ref tp, .int (nI T), .int vfa, .int vbr, .int vba, .int vsp, .int vhe, .int vtk, .int vva, .ref cu, .ref lt, .ref od, .ref th, .ref be, .ref ln, .int (nI S), .ref ma, .int (nI M), .ref ah, .ref bh, .ref ik, .ref la, .ref lg, .ref ce, .int vto])), (st, .inl (G 0, 196, .inl fst))]) [0, 1] rfl
            have tn802_ : nIT k7 := fun _ => nI_toInt (by first | omega | (have t_b4 := b4; have t_w6a := w6a; have t_w6b := w6b; have t_hj16 := hj16; have t_hinv := hinv; have t_n24 := n24; have t_n27 := n27; omega))
            refine va_calli (va_runV (As := [.int (nI j8), .int 0]) (rest := [.int (v29 - v29 / 20 * 20)]) ⟨hx, hb, hml, hown, hg⟩ (c_X11_orderedHarm l dC dI G _ h0 j8 st N B rp tp T cu lt od th be ln S ma M ah bh ik la lg ce 0 vrs vrb vhs vca vxs vxb vfa vbr vba vsp vhe vtk vva vto fst hN hB_ hT_ hS0 hM_ (by first | omega | (have t_b4 := b4; have t_w6a := w6a; have t_w6b := w6b; have t_hj16 := hj16; have t_hinv := hinv; have t_n24 := n24; have t_n27 := n27; have tnb_ := nib8 tn793_ tn794_ tn795_ tn796_ tn797_ tn802_ tn799_ tn801_; omega)) hst) (kwV hg mfX11_orderedHarm wt_1123 ⟨Nat.le_of_ble_eq_true rfl, Nat.le_of_ble_eq_true rfl⟩) (preVR hK hPc (ci := 11) (r := (RX11, TX11, 35)) rfl rfl) rfl rfl hl.1 rfl (lv_room (Nat.le_of_ble_eq_true rfl)) dX11_carry_70 ⟨Nat.le_of_ble_eq_true rfl, Nat.le_of_ble_eq_true rfl⟩) hS (fun q h1 h2 => absurd h2 (Nat.not_le.mpr h1)) (fun q h => hA q (Nat.le_trans hS.1 h)) (fun r30 ur30 t H1 locs ht hvm w31 hB hz1 hk1 hS => ?_)
            have hP := keepR hP hk1
            obtain ⟨w31, w31x⟩ := w31
            have cut81_34 : ∀ (k33 : Nat) (H : Heap) (locs : List Loc), k33 ≤ 1 → va_P (dC, dI) vwCl [(h0, .inr (11, [.ref st, .int (nI N), .int (nI B), .ref rp, .int vrs, .int vrb, .int vhs, .int vca, .int vxs, .int vxb, .ref tp, .int (nI T), .int vfa, .int vbr, .int vba, .int vsp, .int vhe, .int vtk, .int vva, .ref cu, .ref lt, .ref od, .ref th, .ref be, .ref ln, .int (nI S), .ref ma, .int (nI M), .ref ah, .ref bh, .ref ik, .ref la, .ref lg, .ref ce, .int vto])), (st, .inl (G 0, 196, .inl fst))] H → va_S (fun q : Nat => s.heap.size ≤ q) s.heap H locs → ∀ (ls : Array Slot), lv_has ls 9 [(3, .int v28), (7, .int (nI j8)), (6, .int y9), (5, .int y10), (4, .int (nI k12)), (0, .ref h0), (1, .int sd), (2, .int what)] → W p l e (headSpec (Cond.code yX11_carry cX11_carry 9 (some .int) :: GT) ({ frames := 3, cells := 0, slots := 0, locals := 72 } : Room)).room s m ([.ref h0, .int sd, .int what] : List Value).toArray below meth c H locs 0 0 (MQ below (va_Qi (fun (r : Int32) (u : Unit) => match u with | _ => (True) ∧ True) (fun _ _ => True) (fun q : Nat => s.heap.size ≤ q)) ([.ref h0, .int sd, .int what] : List Value).toArray s 0 0 (fun q : Nat => s.heap.size ≤ q)) (F0 m 81 ls [.int (nI k33)]) := by
              intro k33 H locs hb_k33 hP hS ls hl
              refine lv_istore (lv' := [(8, .int (nI k33)), (3, .int v28), (7, .int (nI j8)), (6, .int y9), (5, .int y10), (4, .int (nI k12)), (0, .ref h0), (1, .int sd), (2, .int what)]) hx hb dX11_carry_81 hl (by decide) rfl (fun ls hl => ?_)
              refine lv_iload hx hb dX11_carry_83 (lv_at hl 0 rfl) ?_
              refine lv_if_eq (tgt := 95) hx hb dX11_carry_85 rfl (fun c35 => ?_) (fun c35 => ?_)
              · skip
                have tn803_ : nIT k33 := fun _ => nI_toInt (by first | omega | (have t := eqI c35; omega))
                have n36 : k33 = 0 := by have t := eqI c35; rw [show (nI (k33)).toInt = ((k33 : Nat) : Int) from tn803_ ()] at t; have : (0 : Int32).toInt = 0 := qI_0; omega
                refine lv_iload hx hb dX11_carry_95 (lv_at hl 5 rfl) ?_
                refine lv_iconst (v := 1) hx hb dX11_carry_97 rfl ?_
                have hPc := hP.sub (ws' := []) [] rfl
                refine va_calli (va_runS (As := [.int (nI k12), .int 1]) (rest := []) ⟨hx, hb, hml, hown, hg⟩ (c_X11_deeper l dC dI G _ k12 1 (by first | omega | (have t_b4 := b4; have t_w6a := w6a; have t_w6b := w6b; have t_hj16 := hj16; have t_hinv := hinv; have t_n24 := n24; have t_n27 := n27; have t_hb_k33 := hb_k33; have t_n36 := n36; have tnb_ := nib9 tn793_ tn794_ tn795_ tn796_ tn797_ tn802_ tn799_ tn801_ tn803_; have : (1 : Int32).toInt = 1 := qI_1; omega)) (by first | omega | (have t_b4 := b4; have t_w6a := w6a; have t_w6b := w6b; have t_hj16 := hj16; have t_hinv := hinv; have t_n24 := n24; have t_n27 := n27; have t_hb_k33 := hb_k33; have t_n36 := n36; have tnb_ := nib9 tn793_ tn794_ tn795_ tn796_ tn797_ tn802_ tn799_ tn801_ tn803_; have : (1 : Int32).toInt = 1 := qI_1; omega))) (kwS hg mfX11_deeper wt_1128 ⟨Nat.le_of_ble_eq_true rfl, Nat.le_of_ble_eq_true rfl⟩) (preSR hK hPc) rfl rfl hl.1 rfl (lv_room (Nat.le_of_ble_eq_true rfl)) dX11_carry_98 ⟨Nat.le_of_ble_eq_true rfl, Nat.le_of_ble_eq_true rfl⟩) hS (fun q h1 h2 => absurd h2 (Nat.not_le.mpr h1)) (fun q h => hA q (Nat.le_trans hS.1 h)) (fun r37 ur37 t H1 locs ht hvm w38 hB hz1 hk1 hS => ?_)
                have hP := keepR hP hk1
                obtain ⟨w38, w38x⟩ := w38
                have hs39 : k12 ≤ (min 9 (k12 + 1)) ∧ (min 9 (k12 + 1)) ≤ 9 := (by omega)
                subst w38
                refine lv_istore (lv' := [(4, .int (nI (min 9 (k12 + 1)))), (8, .int (nI k33)), (3, .int v28), (7, .int (nI j8)), (6, .int y9), (5, .int y10), (0, .ref h0), (1, .int sd), (2, .int what)]) hx hb dX11_carry_101 hl (by decide) rfl (fun ls hl => ?_)
                refine lv_iload hx hb dX11_carry_103 (lv_at hl 5 rfl) ?_
                refine lv_iload hx hb dX11_carry_105 (lv_at hl 1 rfl) ?_
                refine lv_if_eq (tgt := 114) hx hb dX11_carry_107 rfl (fun c40 => ?_) (fun c40 => ?_)
                · skip
                  have n41 : k33 = 0 := by have t := eqI c40; rw [show (nI (k33)).toInt = ((k33 : Nat) : Int) from tn803_ ()] at t; have : (0 : Int32).toInt = 0 := qI_0; omega
                  refine lv_iconst (v := 0) hx hb dX11_carry_114 rfl ?_
                  refine lv_iadd hx hb dX11_carry_115 ?_
                  refine lv_istore (lv' := [(5, .int (y10 + 0)), (4, .int (nI (min 9 (k12 + 1)))), (8, .int (nI k33)), (3, .int v28), (7, .int (nI j8)), (6, .int y9), (0, .ref h0), (1, .int sd), (2, .int what)]) hx hb dX11_carry_116 hl (by decide) rfl (fun ls hl => ?_)
                  refine lv_iload hx hb dX11_carry_118 (lv_at hl 1 rfl) ?_
                  refine lv_if_ne (tgt := 128) hx hb dX11_carry_120 rfl (fun c42 => ?_) (fun c42 => ?_)
                  · skip
                    have tn804_ : nIT (min 9 (k12 + 1)) := fun _ => nI_toInt (by first | omega | (have t := neI c42; omega))
                    have n43 : (min 9 (k12 + 1)) ≠ 0 := by have t := neI c42; rw [show (nI (min 9 (k12 + 1))).toInt = ((min 9 (k12 + 1) : Nat) : Int) from tn804_ ()] at t; have : (0 : Int32).toInt = 0 := qI_0; omega
                    refine lv_iload hx hb dX11_carry_128 (lv_at hl 5 rfl) ?_
                    refine lv_istore (lv' := [(6, .int y9), (5, .int (y10 + 0)), (4, .int (nI (min 9 (k12 + 1)))), (8, .int (nI k33)), (3, .int v28), (7, .int (nI j8)), (0, .ref h0), (1, .int sd), (2, .int what)]) hx hb dX11_carry_130 hl (by decide) rfl (fun ls hl => ?_)
                    refine lv_iinc (v := nI (j8 + 1)) (lv' := [(7, .int (nI (j8 + 1))), (6, .int y9), (5, .int (y10 + 0)), (4, .int (nI (min 9 (k12 + 1)))), (8, .int (nI k33)), (3, .int v28), (0, .ref h0), (1, .int sd), (2, .int what)]) hx hb dX11_carry_132 hl (k := 5) rfl (by rw [show Int32.ofInt 1 = nI 1 from by decide]; exact nI_add _ _) (by decide) rfl (fun ls hl => ?_)
                    refine lv_goto (tgt := 32) hx hb dX11_carry_135 rfl ?_
                    exact ih32_14 (j8 + 1) (by omega) (by omega) y9 (y10 + 0) (min 9 (k12 + 1)) v28 _ _ (by have t_b4 := b4; have t_w6a := w6a; have t_w6b := w6b; have t_hj16 := hj16; have t_hinv := hinv; have t_n24 := n24; have t_n27 := n27; have t_hb_k33 := hb_k33; have t_n36 := n36; have t_hs39 := hs39; have t_n41 := n41; have t_n43 := n43; have tnb_ := nib9 tn793_ tn794_ tn795_ tn796_ tn797_ tn802_ tn799_ tn801_ tn803_; omega) hP hS ls (lv_sub hl [0, 1, 2, 3, 5, 6, 7, 8] rfl)
                  · skip
                    have t_b4 := b4
                    have t_w6a := w6a
                    have t_w6b := w6b
                    have t_hj16 := hj16
                    have t_hinv := hinv
                    have t_n24 := n24
                    have t_n27 := n27
                    have t_hb_k33 := hb_k33
                    have t_n36 := n36
                    have t_hs39 := hs39
                    have t_n41 := n41
                    have t_c42 := eqI c42
                    have : (0 : Int32).toInt = 0 := qI_0
                    have t_n0 : (nI N).toInt = (N : Int) := tn793_ ()
                    have t_n1 : (nI B).toInt = (B : Int) := tn794_ ()
                    have t_n2 : (nI T).toInt = (T : Int) := tn795_ ()
                    have t_n3 : (nI S).toInt = (S : Int) := tn796_ ()
                    have t_n4 : (nI M).toInt = (M : Int) := tn797_ ()
                    have t_n5 : (nI k7).toInt = (k7 : Int) := tn802_ ()
                    have t_n6 : (nI j8).toInt = (j8 : Int) := tn799_ ()
                    have t_n7 : (nI k12).toInt = (k12 : Int) := tn801_ ()
                    have t_n8 : (nI k33).toInt = (k33 : Int) := tn803_ ()
                    have : (nI (min 9 (k12 + 1))).toInt = (((min 9 (k12 + 1)) : Nat) : Int) := nI_toInt (by omega)
                    exfalso; omega
                · skip
                  have t_b4 := b4
                  have t_w6a := w6a
                  have t_w6b := w6b
                  have t_hj16 := hj16
                  have t_hinv := hinv
                  have t_n24 := n24
                  have t_n27 := n27
                  have t_hb_k33 := hb_k33
                  have t_n36 := n36
                  have t_hs39 := hs39
                  have t_c40 := neI c40
                  have : (0 : Int32).toInt = 0 := qI_0
                  have t_n0 : (nI N).toInt = (N : Int) := tn793_ ()
                  have t_n1 : (nI B).toInt = (B : Int) := tn794_ ()
                  have t_n2 : (nI T).toInt = (T : Int) := tn795_ ()
                  have t_n3 : (nI S).toInt = (S : Int) := tn796_ ()
                  have t_n4 : (nI M).toInt = (M : Int) := tn797_ ()
                  have t_n5 : (nI k7).toInt = (k7 : Int) := tn802_ ()
                  have t_n6 : (nI j8).toInt = (j8 : Int) := tn799_ ()
                  have t_n7 : (nI k12).toInt = (k12 : Int) := tn801_ ()
                  have t_n8 : (nI k33).toInt = (k33 : Int) := tn803_ ()
                  exfalso; omega
              · skip
                have tn805_ : nIT k33 := fun _ => nI_toInt (by first | omega | (have t := neI c35; omega))
                have n44 : k33 ≠ 0 := by have t := neI c35; rw [show (nI (k33)).toInt = ((k33 : Nat) : Int) from tn805_ ()] at t; have : (0 : Int32).toInt = 0 := qI_0; omega
                refine lv_iload hx hb dX11_carry_88 (lv_at hl 5 rfl) ?_
                refine lv_iconst (v := 1) hx hb dX11_carry_90 rfl ?_
                refine lv_isub hx hb dX11_carry_91 ?_
                refine lv_cg (y := nI (k12 - 1)) (by rw [show (1 : Int32) = nI 1 from rfl]; exact pk_sub (by have t_b4 := b4; have t_w6a := w6a; have t_w6b := w6b; have t_hj16 := hj16; have t_hinv := hinv; have t_n24 := n24; have t_n27 := n27; have t_hb_k33 := hb_k33; have t_n44 := n44; have tnb_ := nib9 tn793_ tn794_ tn795_ tn796_ tn797_ tn802_ tn799_ tn801_ tn805_; omega)) ?_
                refine lv_goto (tgt := 101) hx hb dX11_carry_92 rfl ?_
                refine lv_istore (lv' := [(4, .int (nI (k12 - 1))), (8, .int (nI k33)), (3, .int v28), (7, .int (nI j8)), (6, .int y9), (5, .int y10), (0, .ref h0), (1, .int sd), (2, .int what)]) hx hb dX11_carry_101 hl (by decide) rfl (fun ls hl => ?_)
                refine lv_iload hx hb dX11_carry_103 (lv_at hl 5 rfl) ?_
                refine lv_iload hx hb dX11_carry_105 (lv_at hl 1 rfl) ?_
                refine lv_if_eq (tgt := 114) hx hb dX11_carry_107 rfl (fun c45 => ?_) (fun c45 => ?_)
                · skip
                  have t_b4 := b4
                  have t_w6a := w6a
                  have t_w6b := w6b
                  have t_hj16 := hj16
                  have t_hinv := hinv
                  have t_n24 := n24
                  have t_n27 := n27
                  have t_hb_k33 := hb_k33
                  have t_n44 := n44
                  have t_c45 := eqI c45
                  have : (0 : Int32).toInt = 0 := qI_0
                  have t_n0 : (nI N).toInt = (N : Int) := tn793_ ()
                  have t_n1 : (nI B).toInt = (B : Int) := tn794_ ()
                  have t_n2 : (nI T).toInt = (T : Int) := tn795_ ()
                  have t_n3 : (nI S).toInt = (S : Int) := tn796_ ()
                  have t_n4 : (nI M).toInt = (M : Int) := tn797_ ()
                  have t_n5 : (nI k7).toInt = (k7 : Int) := tn802_ ()
                  have t_n6 : (nI j8).toInt = (j8 : Int) := tn799_ ()
                  have t_n7 : (nI k12).toInt = (k12 : Int) := tn801_ ()
                  have t_n8 : (nI k33).toInt = (k33 : Int) := tn805_ ()
                  exfalso; omega
                · skip
                  have n46 : k33 ≠ 0 := by have t := neI c45; rw [show (nI (k33)).toInt = ((k33 : Nat) : Int) from tn805_ ()] at t; have : (0 : Int32).toInt = 0 := qI_0; omega
                  refine lv_iconst (v := 1) hx hb dX11_carry_110 rfl ?_
                  refine lv_goto (tgt := 115) hx hb dX11_carry_111 rfl ?_
                  refine lv_iadd hx hb dX11_carry_115 ?_
                  refine lv_istore (lv' := [(5, .int (y10 + 1)), (4, .int (nI (k12 - 1))), (8, .int (nI k33)), (3, .int v28), (7, .int (nI j8)), (6, .int y9), (0, .ref h0), (1, .int sd), (2, .int what)]) hx hb dX11_carry_116 hl (by decide) rfl (fun ls hl => ?_)
                  refine lv_iload hx hb dX11_carry_118 (lv_at hl 1 rfl) ?_
                  have cut130_48 : ∀ (y47 : Int32) (H : Heap) (locs : List Loc), va_P (dC, dI) vwCl [(h0, .inr (11, [.ref st, .int (nI N), .int (nI B), .ref rp, .int vrs, .int vrb, .int vhs, .int vca, .int vxs, .int vxb, .ref tp, .int (nI T), .int vfa, .int vbr, .int vba, .int vsp, .int vhe, .int vtk, .int vva, .ref cu, .ref lt, .ref od, .ref th, .ref be, .ref ln, .int (nI S), .ref ma, .int (nI M), .ref ah, .ref bh, .ref ik, .ref la, .ref lg, .ref ce, .int vto])), (st, .inl (G 0, 196, .inl fst))] H → va_S (fun q : Nat => s.heap.size ≤ q) s.heap H locs → ∀ (ls : Array Slot), lv_has ls 9 [(5, .int (y10 + 1)), (4, .int (nI (k12 - 1))), (8, .int (nI k33)), (3, .int v28), (7, .int (nI j8)), (6, .int y9), (0, .ref h0), (1, .int sd), (2, .int what)] → W p l e (headSpec (Cond.code yX11_carry cX11_carry 9 (some .int) :: GT) ({ frames := 3, cells := 0, slots := 0, locals := 72 } : Room)).room s m ([.ref h0, .int sd, .int what] : List Value).toArray below meth c H locs 0 0 (MQ below (va_Qi (fun (r : Int32) (u : Unit) => match u with | _ => (True) ∧ True) (fun _ _ => True) (fun q : Nat => s.heap.size ≤ q)) ([.ref h0, .int sd, .int what] : List Value).toArray s 0 0 (fun q : Nat => s.heap.size ≤ q)) (F0 m 130 ls [.int y47]) := by
                    intro y47 H locs hP hS ls hl
                    refine lv_istore (lv' := [(6, .int y47), (5, .int (y10 + 1)), (4, .int (nI (k12 - 1))), (8, .int (nI k33)), (3, .int v28), (7, .int (nI j8)), (0, .ref h0), (1, .int sd), (2, .int what)]) hx hb dX11_carry_130 hl (by decide) rfl (fun ls hl => ?_)
                    refine lv_iinc (v := nI (j8 + 1)) (lv' := [(7, .int (nI (j8 + 1))), (6, .int y47), (5, .int (y10 + 1)), (4, .int (nI (k12 - 1))), (8, .int (nI k33)), (3, .int v28), (0, .ref h0), (1, .int sd), (2, .int what)]) hx hb dX11_carry_132 hl (k := 5) rfl (by rw [show Int32.ofInt 1 = nI 1 from by decide]; exact nI_add _ _) (by decide) rfl (fun ls hl => ?_)
                    refine lv_goto (tgt := 32) hx hb dX11_carry_135 rfl ?_
                    exact ih32_14 (j8 + 1) (by omega) (by omega) y47 (y10 + 1) (k12 - 1) v28 _ _ (by have t_b4 := b4; have t_w6a := w6a; have t_w6b := w6b; have t_hj16 := hj16; have t_hinv := hinv; have t_n24 := n24; have t_n27 := n27; have t_hb_k33 := hb_k33; have t_n44 := n44; have t_n46 := n46; have tnb_ := nib9 tn793_ tn794_ tn795_ tn796_ tn797_ tn802_ tn799_ tn801_ tn805_; omega) hP hS ls (lv_sub hl [0, 1, 2, 3, 5, 6, 7, 8] rfl)
                  refine lv_if_ne (tgt := 128) hx hb dX11_carry_120 rfl (fun c49 => ?_) (fun c49 => ?_)
                  · skip
                    have tn806_ : nIT (k12 - 1) := fun _ => nI_toInt (by first | omega | (have t := neI c49; omega))
                    have n50 : (k12 - 1) ≠ 0 := by have t := neI c49; rw [show (nI (k12 - 1)).toInt = ((k12 - 1 : Nat) : Int) from tn806_ ()] at t; have : (0 : Int32).toInt = 0 := qI_0; omega
                    refine lv_iload hx hb dX11_carry_128 (lv_at hl 5 rfl) ?_
                    exact cut130_48 y9 _ _ hP hS ls (lv_sub hl [0, 1, 2, 3, 4, 5, 6, 7, 8] rfl)
                  · skip
                    have tn807_ : nIT (k12 - 1) := fun _ => nI_toInt (by first | omega | (have t := eqI c49; omega))
                    have n51 : (k12 - 1) = 0 := by have t := eqI c49; rw [show (nI (k12 - 1)).toInt = ((k12 - 1 : Nat) : Int) from tn807_ ()] at t; have : (0 : Int32).toInt = 0 := qI_0; omega
                    refine lv_iload hx hb dX11_carry_123 (lv_at hl 4 rfl) ?_
                    refine lv_goto (tgt := 130) hx hb dX11_carry_125 rfl ?_
                    exact cut130_48 (nI j8) _ _ hP hS ls (lv_sub hl [0, 1, 2, 3, 4, 5, 6, 7, 8] rfl)
            refine lv_icmp_ge (tgt := 80) hx hb dX11_carry_73 rfl (fun c52 => ?_) (fun c52 => ?_)
            · skip
              refine lv_iconst (v := 0) hx hb dX11_carry_80 rfl ?_
              exact cut81_34 0 _ _ (by omega) hP hS ls (lv_sub hl [0, 1, 2, 3, 4, 5, 6, 7] rfl)
            · skip
              refine lv_iconst (v := 1) hx hb dX11_carry_76 rfl ?_
              refine lv_goto (tgt := 81) hx hb dX11_carry_77 rfl ?_
              exact cut81_34 1 _ _ (by omega) hP hS ls (lv_sub hl [0, 1, 2, 3, 4, 5, 6, 7] rfl)
    have tn808_ : nIT k7 := fun _ => nI_toInt (by first | omega | (have t_b4 := b4; have t_w6a := w6a; have t_w6b := w6b; omega))
    exact loop32_14 (N + 1) 0 (by omega) (by omega) (-4) 0 k7 sd _ _ (by have t_b4 := b4; have t_w6a := w6a; have t_w6b := w6b; have tnb_ := nib6 tn793_ tn794_ tn795_ tn796_ tn797_ tn808_; omega) hP hS ls (lv_sub hl [0, 1, 2, 3, 4, 5, 6, 7] rfl)
  · skip
    have b53 := if10_n c3
    refine lv_iconst (v := (-1)) hx hb dX11_carry_12 rfl ?_
    have hpost : True := by
      trivial
    refine W.widen (k := 0) (n := 0) (Nat.le_of_ble_eq_true rfl) (Nat.le_of_ble_eq_true rfl) ?_
    exact W.iret (v := (-1)) hx hb hr (fun t ht hW => ⟨⟨(-1), (), rfl, ⟨hpost, trivial⟩, trivial⟩, hS.F ht⟩) hS.2.2 dX11_carry_13

