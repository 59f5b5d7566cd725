set_option maxHeartbeats 1000000 in
set_option maxRecDepth 100000 in
theorem c_X2_add (l : Launch) (dC : Nat → ClassId) (dI : Nat → Nat → Nat) (G : Nat → ClassId) (sz : Nat) (h0 l1 l2 l3 l4 S : Nat) (i g k x1 : Int32) (z1 z2 z3 z4 : Nat → Int32) (hS0 : S ≤ 8) : Met l yX2_add (Cond.code yX2_add cX2_add 5 (some .boolean) :: GT) ({ frames := 0, cells := 0, slots := 0, locals := 0 } : Room) (PcW [.ref h0, .int i, .int g, .int k, .int x1] dC dI G [(h0, .inr (2, [.int (nI S), .ref l1, .ref l2, .ref l3, .ref l4])), (l1, .inl (G 0, 8, .inl z1)), (l2, .inl (G 0, 8, .inl z2)), (l3, .inl (G 0, 8, .inl z3)), (l4, .inl (G 0, 8, .inl z4))] sz) (va_Qi (fun (r : Int32) (u : Nat × (Nat → Int32) × (Nat → Int32) × (Nat → Int32) × (Nat → Int32)) => match u with | (u0, u1, u2, u3, u4) => (r = if S < 8 then 1 else 0) ∧ u0 = (if S < 8 then S + 1 else S)) (fun (u : Nat × (Nat → Int32) × (Nat → Int32) × (Nat → Int32) × (Nat → Int32)) (t : State) => match u with | (u0, u1, u2, u3, u4) => va_P (dC, dI) vwCl [(h0, .inr (2, [.int (nI u0), .ref l1, .ref l2, .ref l3, .ref l4])), (l1, .inl (G 0, 8, .inl u1)), (l2, .inl (G 0, 8, .inl u2)), (l3, .inl (G 0, 8, .inl u3)), (l4, .inl (G 0, 8, .inl u4))] t.heap ∧ va_D (va_A [(h0, .inr (2, [.int (nI S), .ref l1, .ref l2, .ref l3, .ref l4])), (l1, .inl (G 0, 8, .inl z1)), (l2, .inl (G 0, 8, .inl z2)), (l3, .inl (G 0, 8, .inl z3)), (l4, .inl (G 0, 8, .inl z4))] sz) [(h0, .inr (2, [.int (nI u0), .ref l1, .ref l2, .ref l3, .ref l4])), (l1, .inl (G 0, 8, .inl u1)), (l2, .inl (G 0, 8, .inl u2)), (l3, .inl (G 0, 8, .inl u3)), (l4, .inl (G 0, 8, .inl u4))]) (va_A [(h0, .inr (2, [.int (nI S), .ref l1, .ref l2, .ref l3, .ref l4])), (l1, .inl (G 0, 8, .inl z1)), (l2, .inl (G 0, 8, .inl z2)), (l3, .inl (G 0, 8, .inl z3)), (l4, .inl (G 0, 8, .inl z4))] sz)) 0 0 (va_A [(h0, .inr (2, [.int (nI S), .ref l1, .ref l2, .ref l3, .ref l4])), (l1, .inl (G 0, 8, .inl z1)), (l2, .inl (G 0, 8, .inl z2)), (l3, .inl (G 0, 8, .inl z3)), (l4, .inl (G 0, 8, .inl z4))] sz) := by
  have tn63_ : nIT S := fun _ => nI_toInt (by omega)
  refine Met.ofW (cc := cX2_add) (maxL := 5) (ret := (some .boolean)) (by decide) rfl ?_
  intro p e s m args below meth c s₁ Bd hml hv
  obtain ⟨rfl, hsz, hP, hK, hD0⟩ := hv
  have hx := Bd.exec
  have hb := Bd.bytes
  have hr := Bd.returns
  have hg : ∀ w ∈ GT, w.before ([.ref h0, .int i, .int g, .int k, .int x1] : List Value).toArray s = true := fun w h => atoms_spec (ws := Cond.code yX2_add cX2_add 5 (some .boolean) :: GT) Bd.pre w (List.mem_cons_of_mem _ h)
  have hown : s.vm.findClass RX2 = some m.cls := findClass_of_methodNamed Bd.named
  have hlocks := Bd.notSynchronized
  subst hsz
  have hD := hD0.self (sz := s.heap.size)
  generalize hAe : va_A [(h0, .inr (2, [.int (nI S), .ref l1, .ref l2, .ref l3, .ref l4])), (l1, .inl (G 0, 8, .inl z1)), (l2, .inl (G 0, 8, .inl z2)), (l3, .inl (G 0, 8, .inl z3)), (l4, .inl (G 0, 8, .inl z4))] s.heap.size = A at hD ⊢
  have hA : ∀ q : Nat, s.heap.size ≤ q → A q := fun q h => by rw [← hAe]; exact Or.inr h
  have hS : va_S A s.heap s.heap [] := va_S.rf
  have hl := lv_entry ([.ref h0, .int i, .int g, .int k, .int x1]) (n := 5) (Nat.le_of_ble_eq_true rfl)
  rw [lg_entry_eq]
  generalize (lg_sl ([.ref h0, .int i, .int g, .int k, .int x1]) ++ List.replicate (5 - (lg_sl ([.ref h0, .int i, .int g, .int k, .int x1])).length) Slot.unset).toArray = ls at hl ⊢
  have hl : lv_has ls 5 [(0, .ref h0), (1, .int i), (2, .int g), (3, .int k), (4, .int x1)] := hl
  refine lv_aload_n hx hb dX2_add_0 rfl (lv_at hl 0 rfl) ?_
  refine va_get (D := (dC, dI)) (ci := 2) (v := .int (nI S)) (C := RX2) (T := TX2) (N := 5) hx hb hg inG2 hown hK.1 hP 0 rfl rfl 0 (Nat.le_of_ble_eq_true rfl) (hg _ wt_217) (fun _ h9 => h9) rfl dX2_add_1 ?_
  refine lv_if_lt (tgt := 16) hx hb dX2_add_4 rfl (fun c1 => ?_) (fun c1 => ?_)
  · skip
    have t_c1 := ltI c1
    have : (0 : Int32).toInt = 0 := qI_0
    have t_n0 : (nI S).toInt = (S : Int) := tn63_ ()
    exfalso; omega
  · skip
    have n2 : 0 ≤ S := by have t := nltI c1; rw [show (nI (S)).toInt = ((S : Nat) : Int) from tn63_ ()] at t; have : (0 : Int32).toInt = 0 := qI_0; omega
    refine lv_aload_n hx hb dX2_add_7 rfl (lv_at hl 0 rfl) ?_
    refine va_get (D := (dC, dI)) (ci := 2) (v := .int (nI S)) (C := RX2) (T := TX2) (N := 5) hx hb hg inG2 hown hK.1 hP 0 rfl rfl 0 (Nat.le_of_ble_eq_true rfl) (hg _ wt_217) (fun _ h9 => h9) rfl dX2_add_8 ?_
    refine lv_bipush (v := 8) hx hb dX2_add_11 rfl ?_
    refine lv_icmp_lt (tgt := 18) hx hb dX2_add_13 rfl (fun c3 => ?_) (fun c3 => ?_)
    · skip
      have n4 : S < 8 := by have t := ltI c3; rw [show (nI (S)).toInt = ((S : Nat) : Int) from tn63_ ()] at t; have : (8 : Int32).toInt = 8 := qI_8; omega
      refine lv_aload_n hx hb dX2_add_18 rfl (lv_at hl 0 rfl) ?_
      refine va_get (D := (dC, dI)) (ci := 2) (v := .ref l1) (C := RX2) (T := TX2) (N := 5) hx hb hg inG2 hown hK.1 hP 0 rfl rfl 1 (Nat.le_of_ble_eq_true rfl) (hg _ wt_219) (fun _ h9 => h9) rfl dX2_add_19 ?_
      refine lv_aload_n hx hb dX2_add_22 rfl (lv_at hl 0 rfl) ?_
      refine va_get (D := (dC, dI)) (ci := 2) (v := .int (nI S)) (C := RX2) (T := TX2) (N := 5) hx hb hg inG2 hown hK.1 hP 0 rfl rfl 0 (Nat.le_of_ble_eq_true rfl) (hg _ wt_217) (fun _ h9 => h9) rfl dX2_add_23 ?_
      refine lv_iload_n hx hb dX2_add_26 rfl (lv_at hl 1 rfl) ?_
      refine va_iast hx hb hK.1 hP hD hS 1 0 rfl rfl (vp_in_nI (by first | omega | (have t_n2 := n2; have t_n4 := n4; have t_n0 : (nI S).toInt = (S : Int) := tn63_ (); omega)) (by decide)) dX2_add_27 (fun H locs hP hD hS => ?_)
      rw [nI_clamp (by omega)] at hP hD
      refine lv_aload_n hx hb dX2_add_28 rfl (lv_at hl 0 rfl) ?_
      refine va_get (D := (dC, dI)) (ci := 2) (v := .ref l2) (C := RX2) (T := TX2) (N := 5) hx hb hg inG2 hown hK.1 hP 0 rfl rfl 2 (Nat.le_of_ble_eq_true rfl) (hg _ wt_220) (fun _ h9 => h9) rfl dX2_add_29 ?_
      refine lv_aload_n hx hb dX2_add_32 rfl (lv_at hl 0 rfl) ?_
      refine va_get (D := (dC, dI)) (ci := 2) (v := .int (nI S)) (C := RX2) (T := TX2) (N := 5) hx hb hg inG2 hown hK.1 hP 0 rfl rfl 0 (Nat.le_of_ble_eq_true rfl) (hg _ wt_217) (fun _ h9 => h9) rfl dX2_add_33 ?_
      refine lv_iload_n hx hb dX2_add_36 rfl (lv_at hl 2 rfl) ?_
      refine va_iast hx hb hK.1 hP hD hS 2 0 rfl rfl (vp_in_nI (by first | omega | (have t_n2 := n2; have t_n4 := n4; have t_n0 : (nI S).toInt = (S : Int) := tn63_ (); omega)) (by decide)) dX2_add_37 (fun H locs hP hD hS => ?_)
      rw [nI_clamp (by omega)] at hP hD
      refine lv_aload_n hx hb dX2_add_38 rfl (lv_at hl 0 rfl) ?_
      refine va_get (D := (dC, dI)) (ci := 2) (v := .ref l3) (C := RX2) (T := TX2) (N := 5) hx hb hg inG2 hown hK.1 hP 0 rfl rfl 3 (Nat.le_of_ble_eq_true rfl) (hg _ wt_221) (fun _ h9 => h9) rfl dX2_add_39 ?_
      refine lv_aload_n hx hb dX2_add_42 rfl (lv_at hl 0 rfl) ?_
      refine va_get (D := (dC, dI)) (ci := 2) (v := .int (nI S)) (C := RX2) (T := TX2) (N := 5) hx hb hg inG2 hown hK.1 hP 0 rfl rfl 0 (Nat.le_of_ble_eq_true rfl) (hg _ wt_217) (fun _ h9 => h9) rfl dX2_add_43 ?_
      refine lv_iload_n hx hb dX2_add_46 rfl (lv_at hl 3 rfl) ?_
      refine va_iast hx hb hK.1 hP hD hS 3 0 rfl rfl (vp_in_nI (by first | omega | (have t_n2 := n2; have t_n4 := n4; have t_n0 : (nI S).toInt = (S : Int) := tn63_ (); omega)) (by decide)) dX2_add_47 (fun H locs hP hD hS => ?_)
      rw [nI_clamp (by omega)] at hP hD
      refine lv_aload_n hx hb dX2_add_48 rfl (lv_at hl 0 rfl) ?_
      refine va_get (D := (dC, dI)) (ci := 2) (v := .ref l4) (C := RX2) (T := TX2) (N := 5) hx hb hg inG2 hown hK.1 hP 0 rfl rfl 4 (Nat.le_of_ble_eq_true rfl) (hg _ wt_222) (fun _ h9 => h9) rfl dX2_add_49 ?_
      refine lv_aload_n hx hb dX2_add_52 rfl (lv_at hl 0 rfl) ?_
      refine va_get (D := (dC, dI)) (ci := 2) (v := .int (nI S)) (C := RX2) (T := TX2) (N := 5) hx hb hg inG2 hown hK.1 hP 0 rfl rfl 0 (Nat.le_of_ble_eq_true rfl) (hg _ wt_217) (fun _ h9 => h9) rfl dX2_add_53 ?_
      refine lv_iload hx hb dX2_add_56 (lv_at hl 4 rfl) ?_
      refine va_iast hx hb hK.1 hP hD hS 4 0 rfl rfl (vp_in_nI (by first | omega | (have t_n2 := n2; have t_n4 := n4; have t_n0 : (nI S).toInt = (S : Int) := tn63_ (); omega)) (by decide)) dX2_add_58 (fun H locs hP hD hS => ?_)
      rw [nI_clamp (by omega)] at hP hD
      refine lv_aload_n hx hb dX2_add_59 rfl (lv_at hl 0 rfl) ?_
      refine lv_dup hx hb dX2_add_60 rfl ?_
      refine va_get (D := (dC, dI)) (ci := 2) (v := .int (nI S)) (C := RX2) (T := TX2) (N := 5) hx hb hg inG2 hown hK.1 hP 0 rfl rfl 0 (Nat.le_of_ble_eq_true rfl) (hg _ wt_217) (fun _ h9 => h9) rfl dX2_add_61 ?_
      refine lv_iconst (v := 1) hx hb dX2_add_64 rfl ?_
      refine lv_iadd hx hb dX2_add_65 ?_
      refine lv_cg (y := nI (S + 1)) (by rw [show (1 : Int32) = nI 1 from rfl]; exact nI_add _ _) ?_
      refine va_put (D := (dC, dI)) (ci := 2) (v := .int (nI (S + 1))) (ty := .int) (C := RX2) (T := TX2) (N := 5) hx hb hg inG2 tyX2 tyX2_ok nmX2 hown hK.1 hP hD hS 0 rfl rfl 0 (Nat.le_of_ble_eq_true rfl) (hg _ wt_217) (fun _ h9 => h9) rfl (by decide +kernel) rfl rfl (Nat.le_of_ble_eq_true rfl) dX2_add_66 (fun H locs hP hD hS => ?_)
      refine lv_iconst (v := 1) hx hb dX2_add_69 rfl ?_
      have hpost : (1 : Int32) = if S < 8 then 1 else 0 := by
        have t_n2 := n2
        have t_n4 := n4
        have t_n0 : (nI S).toInt = (S : Int) := tn63_ ()
        first | rfl | ((repeat' split) <;> first | rfl | omega)
      obtain ⟨hP9, hD9⟩ := va_sub2 (ws' := [(h0, .inr (2, [.int (nI (S + 1)), .ref l1, .ref l2, .ref l3, .ref l4])), (l1, .inl (G 0, 8, .inl (upd z1 S i))), (l2, .inl (G 0, 8, .inl (upd z2 S g))), (l3, .inl (G 0, 8, .inl (upd z3 S k))), (l4, .inl (G 0, 8, .inl (upd z4 S x1)))]) hP hD [0, 1, 2, 3, 4] (by decide +kernel) rfl
      refine W.widen (k := 0) (n := 0) (Nat.le_of_ble_eq_true rfl) (Nat.le_of_ble_eq_true rfl) ?_
      exact W.zret (v := 1) hx hb hr (by first | rfl | decide | exact rfl) (fun t ht hW => ⟨⟨1, ((S + 1), (upd z1 S i), (upd z2 S g), (upd z3 S k), (upd z4 S x1)), rfl, ⟨hpost, (by have t_n2 := n2; have t_n4 := n4; have t_n0 : (nI S).toInt = (S : Int) := tn63_ (); split <;> omega)⟩, ⟨by rw [ht]; exact hP9, hD9⟩⟩, hS.F ht⟩) hS.2.2 dX2_add_70
    · skip
      have n5 : 8 ≤ S := by have t := nltI c3; rw [show (nI (S)).toInt = ((S : Nat) : Int) from tn63_ ()] at t; have : (8 : Int32).toInt = 8 := qI_8; omega
      refine lv_iconst (v := 0) hx hb dX2_add_16 rfl ?_
      have hpost : (0 : Int32) = if S < 8 then 1 else 0 := by
        have t_n2 := n2
        have t_n5 := n5
        have t_n0 : (nI S).toInt = (S : Int) := tn63_ ()
        first | rfl | ((repeat' split) <;> first | rfl | omega)
      obtain ⟨hP9, hD9⟩ := va_sub2 (ws' := [(h0, .inr (2, [.int (nI S), .ref l1, .ref l2, .ref l3, .ref l4])), (l1, .inl (G 0, 8, .inl z1)), (l2, .inl (G 0, 8, .inl z2)), (l3, .inl (G 0, 8, .inl z3)), (l4, .inl (G 0, 8, .inl z4))]) hP hD [0, 1, 2, 3, 4] (by decide +kernel) rfl
      refine W.widen (k := 0) (n := 0) (Nat.le_of_ble_eq_true rfl) (Nat.le_of_ble_eq_true rfl) ?_
      exact W.zret (v := 0) hx hb hr (by first | rfl | decide | exact rfl) (fun t ht hW => ⟨⟨0, (S, z1, z2, z3, z4), rfl, ⟨hpost, (by have t_n2 := n2; have t_n5 := n5; have t_n0 : (nI S).toInt = (S : Int) := tn63_ (); split <;> omega)⟩, ⟨by rw [ht]; exact hP9, hD9⟩⟩, hS.F ht⟩) hS.2.2 dX2_add_17

set_option maxHeartbeats 1000000 in
set_option maxRecDepth 100000 in
theorem c_X2_isSo (l : Launch) (dC : Nat → ClassId) (dI : Nat → Nat → Nat) (G : Nat → ClassId) (sz : Nat) (h0 l1 l2 l3 l4 S wy a1 a2 a3 a4 a5 a6 N B D : Nat) (z1 z2 z3 z4 f1 f2 f4 f5 f6 : Nat → Int32) (hS0 : S ≤ 8) (hN_N : N ≤ 10) (hB_B : B ≤ 6) (hD_D : 1 ≤ D ∧ D ≤ 9) : Met l yX2_isSo (Cond.code yX2_isSo cX2_isSo 3 (some .boolean) :: GT) ({ frames := 3, cells := 0, slots := 0, locals := 67 } : Room) (PcR [.ref h0, .ref wy] dC dI G [(h0, .inr (2, [.int (nI S), .ref l1, .ref l2, .ref l3, .ref l4])), (l1, .inl (G 0, 8, .inl z1)), (l2, .inl (G 0, 8, .inl z2)), (l3, .inl (G 0, 8, .inl z3)), (l4, .inl (G 0, 8, .inl z4)), (wy, .inr (9, [.int (nI N), .int (nI B), .int (nI D), .ref a1, .ref a2, .ref a3, .ref a4, .ref a5, .ref a6])), (a1, .inl (G 0, 10, .inl f1)), (a2, .inl (G 0, 10, .inl f2)), (a4, .inl (G 0, 6, .inl f4)), (a5, .inl (G 0, 6, .inl f5)), (a6, .inl (G 0, 6, .inl f6))] sz) (va_Qi (fun (r : Int32) (u : Unit) => match u with | _ => (r = 0 ∨ r = 1) ∧ True) (fun _ _ => True) (fun q : Nat => sz ≤ q)) 0 0 (fun q : Nat => sz ≤ q) := by
  have tn64_ : nIT N := fun _ => nI_toInt (by omega)
  have tn65_ : nIT B := fun _ => nI_toInt (by omega)
  have tn66_ : nIT D := fun _ => nI_toInt (by omega)
  have tn67_ : nIT S := fun _ => nI_toInt (by omega)
  refine Met.ofW (cc := cX2_isSo) (maxL := 3) (ret := (some .boolean)) (by decide) rfl ?_
  intro p e s m args below meth c s₁ Bd hml hv
  obtain ⟨rfl, hsz, hP, hK⟩ := hv
  have hx := Bd.exec
  have hb := Bd.bytes
  have hr := Bd.returns
  have hg : ∀ w ∈ GT, w.before ([.ref h0, .ref wy] : List Value).toArray s = true := fun w h => atoms_spec (ws := Cond.code yX2_isSo cX2_isSo 3 (some .boolean) :: GT) Bd.pre w (List.mem_cons_of_mem _ h)
  have hown : s.vm.findClass RX2 = some m.cls := findClass_of_methodNamed Bd.named
  have hlocks := Bd.notSynchronized
  subst hsz
  have hA : ∀ q : Nat, s.heap.size ≤ q → (fun q : Nat => s.heap.size ≤ q) q := fun _ h => h
  have hS : va_S (fun q : Nat => s.heap.size ≤ q) s.heap s.heap [] := va_S.rf
  have hl := lv_entry ([.ref h0, .ref wy]) (n := 3) (Nat.le_of_ble_eq_true rfl)
  rw [lg_entry_eq]
  generalize (lg_sl ([.ref h0, .ref wy]) ++ List.replicate (3 - (lg_sl ([.ref h0, .ref wy])).length) Slot.unset).toArray = ls at hl ⊢
  have hl : lv_has ls 3 [(0, .ref h0), (1, .ref wy)] := hl
  refine lv_iconst (v := 0) hx hb dX2_isSo_0 rfl ?_
  refine lv_istore_n (lv' := [(2, .int 0), (0, .ref h0), (1, .ref wy)]) hx hb dX2_isSo_1 rfl hl (by decide) rfl (fun ls hl => ?_)
  have loop2_2 : ∀ (nf j1 : Nat), S + 1 ≤ j1 + nf → j1 ≤ S → ∀ (H : Heap) (locs : List Loc), va_P (dC, dI) vwCl [(h0, .inr (2, [.int (nI S), .ref l1, .ref l2, .ref l3, .ref l4])), (l1, .inl (G 0, 8, .inl z1)), (l2, .inl (G 0, 8, .inl z2)), (l3, .inl (G 0, 8, .inl z3)), (l4, .inl (G 0, 8, .inl z4)), (wy, .inr (9, [.int (nI N), .int (nI B), .int (nI D), .ref a1, .ref a2, .ref a3, .ref a4, .ref a5, .ref a6])), (a1, .inl (G 0, 10, .inl f1)), (a2, .inl (G 0, 10, .inl f2)), (a4, .inl (G 0, 6, .inl f4)), (a5, .inl (G 0, 6, .inl f5)), (a6, .inl (G 0, 6, .inl f6))] H → va_S (fun q : Nat => s.heap.size ≤ q) s.heap H locs → ∀ (ls : Array Slot), lv_has ls 3 [(2, .int (nI j1)), (0, .ref h0), (1, .ref wy)] → W p l e (headSpec (Cond.code yX2_isSo cX2_isSo 3 (some .boolean) :: GT) ({ frames := 3, cells := 0, slots := 0, locals := 67 } : Room)).room s m ([.ref h0, .ref wy] : List Value).toArray below meth c H locs 0 0 (MQ below (va_Qi (fun (r : Int32) (u : Unit) => match u with | _ => (r = 0 ∨ r = 1) ∧ True) (fun _ _ => True) (fun q : Nat => s.heap.size ≤ q)) ([.ref h0, .ref wy] : List Value).toArray s 0 0 (fun q : Nat => s.heap.size ≤ q)) (F0 m 2 ls []) := by
    intro nf
    induction nf with
    | zero => intro j1 h1 h2; exact absurd h1 (by omega)
    | succ nf ih2_2 =>
      intro j1 hn3 hj4  H locs hP hS ls hl
      refine lv_iload_n hx hb dX2_isSo_2 rfl (lv_at hl 0 rfl) ?_
      refine lv_aload_n hx hb dX2_isSo_3 rfl (lv_at hl 1 rfl) ?_
      refine va_get (D := (dC, dI)) (ci := 2) (v := .int (nI S)) (C := RX2) (T := TX2) (N := 5) hx hb hg inG2 hown hK.1 hP 0 rfl rfl 0 (Nat.le_of_ble_eq_true rfl) (hg _ wt_217) (fun _ h9 => h9) rfl dX2_isSo_4 ?_
      refine lv_icmp_ge (tgt := 49) hx hb dX2_isSo_7 rfl (fun c5 => ?_) (fun c5 => ?_)
      · skip
        have tn68_ : nIT j1 := fun _ => nI_toInt (by first | omega | (have t := leI c5; omega))
        have n6 : S ≤ j1 := by have t := leI c5; rw [show (nI (j1)).toInt = ((j1 : Nat) : Int) from tn68_ ()] at t; rw [show (nI (S)).toInt = ((S : Nat) : Int) from tn67_ ()] at t; omega
        refine lv_iconst (v := 1) hx hb dX2_isSo_49 rfl ?_
        have hpost : (1 : Int32) = 0 ∨ (1 : Int32) = 1 := by
          exact Or.inr rfl
        refine W.widen (k := 0) (n := 0) (Nat.le_of_ble_eq_true rfl) (Nat.le_of_ble_eq_true rfl) ?_
        exact W.zret (v := 1) hx hb hr (by first | rfl | decide | exact rfl) (fun t ht hW => ⟨⟨1, (), rfl, ⟨hpost, trivial⟩, trivial⟩, hS.F ht⟩) hS.2.2 dX2_isSo_50
      · skip
        have tn69_ : nIT j1 := fun _ => nI_toInt (by first | omega | (have t := nleI c5; omega))
        have n7 : j1 < S := by have t := nleI c5; rw [show (nI (j1)).toInt = ((j1 : Nat) : Int) from tn69_ ()] at t; rw [show (nI (S)).toInt = ((S : Nat) : Int) from tn67_ ()] at t; omega
        refine lv_aload_n hx hb dX2_isSo_10 rfl (lv_at hl 2 rfl) ?_
        refine lv_aload_n hx hb dX2_isSo_11 rfl (lv_at hl 1 rfl) ?_
        refine va_get (D := (dC, dI)) (ci := 2) (v := .ref l1) (C := RX2) (T := TX2) (N := 5) hx hb hg inG2 hown hK.1 hP 0 rfl rfl 1 (Nat.le_of_ble_eq_true rfl) (hg _ wt_219) (fun _ h9 => h9) rfl dX2_isSo_12 ?_
        refine lv_iload_n hx hb dX2_isSo_15 rfl (lv_at hl 0 rfl) ?_
        refine va_iald hx hb hK.1 hP 1 0 rfl rfl (vp_in_nI (by first | omega | (have t_hj4 := hj4; have t_n7 := n7; have tnb_ := nib5 tn67_ tn64_ tn65_ tn66_ tn69_; omega)) (by decide)) dX2_isSo_16 ?_
        refine lv_cg (y := z1 j1) (by rw [nI_clamp (by omega)]) ?_
        refine lv_aload_n hx hb dX2_isSo_17 rfl (lv_at hl 1 rfl) ?_
        refine va_get (D := (dC, dI)) (ci := 2) (v := .ref l2) (C := RX2) (T := TX2) (N := 5) hx hb hg inG2 hown hK.1 hP 0 rfl rfl 2 (Nat.le_of_ble_eq_true rfl) (hg _ wt_220) (fun _ h9 => h9) rfl dX2_isSo_18 ?_
        refine lv_iload_n hx hb dX2_isSo_21 rfl (lv_at hl 0 rfl) ?_
        refine va_iald hx hb hK.1 hP 2 0 rfl rfl (vp_in_nI (by first | omega | (have t_hj4 := hj4; have t_n7 := n7; have tnb_ := nib5 tn67_ tn64_ tn65_ tn66_ tn69_; omega)) (by decide)) dX2_isSo_22 ?_
        refine lv_cg (y := z2 j1) (by rw [nI_clamp (by omega)]) ?_
        refine lv_aload_n hx hb dX2_isSo_23 rfl (lv_at hl 1 rfl) ?_
        refine va_get (D := (dC, dI)) (ci := 2) (v := .ref l3) (C := RX2) (T := TX2) (N := 5) hx hb hg inG2 hown hK.1 hP 0 rfl rfl 3 (Nat.le_of_ble_eq_true rfl) (hg _ wt_221) (fun _ h9 => h9) rfl dX2_isSo_24 ?_
        refine lv_iload_n hx hb dX2_isSo_27 rfl (lv_at hl 0 rfl) ?_
        refine va_iald hx hb hK.1 hP 3 0 rfl rfl (vp_in_nI (by first | omega | (have t_hj4 := hj4; have t_n7 := n7; have tnb_ := nib5 tn67_ tn64_ tn65_ tn66_ tn69_; omega)) (by decide)) dX2_isSo_28 ?_
        refine lv_cg (y := z3 j1) (by rw [nI_clamp (by omega)]) ?_
        have hPc := hP.sub (ws' := [(wy, .inr (9, [.int (nI N), .int (nI B), .int (nI D), .ref a1, .ref a2, .ref a3, .ref a4, .ref a5, .ref a6])), (a1, .inl (G 0, 10, .inl f1)), (a2, .inl (G 0, 10, .inl f2)), (a4, .inl (G 0, 6, .inl f4)), (a5, .inl (G 0, 6, .inl f5)), (a6, .inl (G 0, 6, .inl f6))]) [5, 6, 7, 8, 9, 10] rfl
        refine va_calli (va_runVN (As := [.int (z1 j1), .int (z2 j1), .int (z3 j1)]) (rest := []) ⟨hx, hb, hml, hown, hg⟩ (c_X9_harmBy l dC dI G _ wy a1 a2 a3 a4 a5 a6 N B D (z1 j1) (z2 j1) (z3 j1) f1 f2 f4 f5 f6 hN_N hB_B hD_D) (kwVN hg hK mfX9_harmBy wn_750 ⟨Nat.le_of_ble_eq_true rfl, Nat.le_of_ble_eq_true rfl⟩) (preVR hK hPc (ci := 9) (r := (RX9, TX9, 9)) rfl rfl) rfl rfl hl.1 rfl (lv_room (Nat.le_of_ble_eq_true rfl)) dX2_isSo_29 ⟨Nat.le_of_ble_eq_true rfl, Nat.le_of_ble_eq_true rfl⟩) hS (fun q h1 h2 => absurd h2 (Nat.not_le.mpr h1)) (fun q h => hA q (Nat.le_trans hS.1 h)) (fun r8 ur8 t H1 locs ht hvm w9 hB hz1 hk1 hS => ?_)
        have hP := keepR hP hk1
        obtain ⟨w9, w9x⟩ := w9
        subst w9
        refine lv_aload_n hx hb dX2_isSo_32 rfl (lv_at hl 1 rfl) ?_
        refine va_get (D := (dC, dI)) (ci := 2) (v := .ref l4) (C := RX2) (T := TX2) (N := 5) hx hb hg inG2 hown hK.1 hP 0 rfl rfl 4 (Nat.le_of_ble_eq_true rfl) (hg _ wt_222) (fun _ h9 => h9) rfl dX2_isSo_33 ?_
        refine lv_iload_n hx hb dX2_isSo_36 rfl (lv_at hl 0 rfl) ?_
        refine va_iald hx hb hK.1 hP 4 0 rfl rfl (vp_in_nI (by first | omega | (have t_hj4 := hj4; have t_n7 := n7; have tnb_ := nib5 tn67_ tn64_ tn65_ tn66_ tn69_; omega)) (by decide)) dX2_isSo_37 ?_
        refine lv_cg (y := z4 j1) (by rw [nI_clamp (by omega)]) ?_
        refine lv_icmp_eq (tgt := 43) hx hb dX2_isSo_38 rfl (fun c10 => ?_) (fun c10 => ?_)
        · skip
          refine lv_iinc (v := nI (j1 + 1)) (lv' := [(2, .int (nI (j1 + 1))), (0, .ref h0), (1, .ref wy)]) hx hb dX2_isSo_43 hl (k := 0) rfl (by rw [show Int32.ofInt 1 = nI 1 from by decide]; exact nI_add _ _) (by decide) rfl (fun ls hl => ?_)
          refine lv_goto (tgt := 2) hx hb dX2_isSo_46 rfl ?_
          exact ih2_2 (j1 + 1) (by omega) (by omega)  _ _ hP hS ls (lv_sub hl [0, 1, 2] rfl)
        · skip
          refine lv_iconst (v := 0) hx hb dX2_isSo_41 rfl ?_
          have hpost : (0 : Int32) = 0 ∨ (0 : Int32) = 1 := by
            exact Or.inl rfl
          refine W.widen (k := 0) (n := 0) (Nat.le_of_ble_eq_true rfl) (Nat.le_of_ble_eq_true rfl) ?_
          exact W.zret (v := 0) hx hb hr (by first | rfl | decide | exact rfl) (fun t ht hW => ⟨⟨0, (), rfl, ⟨hpost, trivial⟩, trivial⟩, hS.F ht⟩) hS.2.2 dX2_isSo_42
  exact loop2_2 (S + 1) 0 (by omega) (by omega)  _ _ hP hS ls (lv_sub hl [0, 1, 2] rfl)

set_option maxHeartbeats 1000000 in
set_option maxRecDepth 100000 in
theorem c_X3_add (l : Launch) (dC : Nat → ClassId) (dI : Nat → Nat → Nat) (G : Nat → ClassId) (sz : Nat) (h0 m1 m2 S : Nat) (i g : Int32) (z1 z2 : Nat → Int32) (hS0 : S ≤ 6) : Met l yX3_add (Cond.code yX3_add cX3_add 3 (some .boolean) :: GT) ({ frames := 0, cells := 0, slots := 0, locals := 0 } : Room) (PcW [.ref h0, .int i, .int g] dC dI G [(h0, .inr (3, [.int (nI S), .ref m1, .ref m2])), (m1, .inl (G 0, 6, .inl z1)), (m2, .inl (G 0, 6, .inl z2))] sz) (va_Qi (fun (r : Int32) (u : Nat × (Nat → Int32) × (Nat → Int32)) => match u with | (u0, u1, u2) => (r = if S < 6 then 1 else 0) ∧ u0 = (if S < 6 then S + 1 else S)) (fun (u : Nat × (Nat → Int32) × (Nat → Int32)) (t : State) => match u with | (u0, u1, u2) => va_P (dC, dI) vwCl [(h0, .inr (3, [.int (nI u0), .ref m1, .ref m2])), (m1, .inl (G 0, 6, .inl u1)), (m2, .inl (G 0, 6, .inl u2))] t.heap ∧ va_D (va_A [(h0, .inr (3, [.int (nI S), .ref m1, .ref m2])), (m1, .inl (G 0, 6, .inl z1)), (m2, .inl (G 0, 6, .inl z2))] sz) [(h0, .inr (3, [.int (nI u0), .ref m1, .ref m2])), (m1, .inl (G 0, 6, .inl u1)), (m2, .inl (G 0, 6, .inl u2))]) (va_A [(h0, .inr (3, [.int (nI S), .ref m1, .ref m2])), (m1, .inl (G 0, 6, .inl z1)), (m2, .inl (G 0, 6, .inl z2))] sz)) 0 0 (va_A [(h0, .inr (3, [.int (nI S), .ref m1, .ref m2])), (m1, .inl (G 0, 6, .inl z1)), (m2, .inl (G 0, 6, .inl z2))] sz) := by
  have tn70_ : nIT S := fun _ => nI_toInt (by omega)
  refine Met.ofW (cc := cX3_add) (maxL := 3) (ret := (some .boolean)) (by decide) rfl ?_
  intro p e s m args below meth c s₁ Bd hml hv
  obtain ⟨rfl, hsz, hP, hK, hD0⟩ := hv
  have hx := Bd.exec
  have hb := Bd.bytes
  have hr := Bd.returns
  have hg : ∀ w ∈ GT, w.before ([.ref h0, .int i, .int g] : List Value).toArray s = true := fun w h => atoms_spec (ws := Cond.code yX3_add cX3_add 3 (some .boolean) :: GT) Bd.pre w (List.mem_cons_of_mem _ h)
  have hown : s.vm.findClass RX3 = some m.cls := findClass_of_methodNamed Bd.named
  have hlocks := Bd.notSynchronized
  subst hsz
  have hD := hD0.self (sz := s.heap.size)
  generalize hAe : va_A [(h0, .inr (3, [.int (nI S), .ref m1, .ref m2])), (m1, .inl (G 0, 6, .inl z1)), (m2, .inl (G 0, 6, .inl z2))] s.heap.size = A at hD ⊢
  have hA : ∀ q : Nat, s.heap.size ≤ q → A q := fun q h => by rw [← hAe]; exact Or.inr h
  have hS : va_S A s.heap s.heap [] := va_S.rf
  have hl := lv_entry ([.ref h0, .int i, .int g]) (n := 3) (Nat.le_of_ble_eq_true rfl)
  rw [lg_entry_eq]
  generalize (lg_sl ([.ref h0, .int i, .int g]) ++ List.replicate (3 - (lg_sl ([.ref h0, .int i, .int g])).length) Slot.unset).toArray = ls at hl ⊢
  have hl : lv_has ls 3 [(0, .ref h0), (1, .int i), (2, .int g)] := hl
  refine lv_aload_n hx hb dX3_add_0 rfl (lv_at hl 0 rfl) ?_
  refine va_get (D := (dC, dI)) (ci := 3) (v := .int (nI S)) (C := RX3) (T := TX3) (N := 3) hx hb hg inG3 hown hK.1 hP 0 rfl rfl 0 (Nat.le_of_ble_eq_true rfl) (hg _ wt_240) (fun _ h9 => h9) rfl dX3_add_1 ?_
  refine lv_if_lt (tgt := 16) hx hb dX3_add_4 rfl (fun c1 => ?_) (fun c1 => ?_)
  · skip
    have t_c1 := ltI c1
    have : (0 : Int32).toInt = 0 := qI_0
    have t_n0 : (nI S).toInt = (S : Int) := tn70_ ()
    exfalso; omega
  · skip
    have n2 : 0 ≤ S := by have t := nltI c1; rw [show (nI (S)).toInt = ((S : Nat) : Int) from tn70_ ()] at t; have : (0 : Int32).toInt = 0 := qI_0; omega
    refine lv_aload_n hx hb dX3_add_7 rfl (lv_at hl 0 rfl) ?_
    refine va_get (D := (dC, dI)) (ci := 3) (v := .int (nI S)) (C := RX3) (T := TX3) (N := 3) hx hb hg inG3 hown hK.1 hP 0 rfl rfl 0 (Nat.le_of_ble_eq_true rfl) (hg _ wt_240) (fun _ h9 => h9) rfl dX3_add_8 ?_
    refine lv_bipush (v := 6) hx hb dX3_add_11 rfl ?_
    refine lv_icmp_lt (tgt := 18) hx hb dX3_add_13 rfl (fun c3 => ?_) (fun c3 => ?_)
    · skip
      have n4 : S < 6 := by have t := ltI c3; rw [show (nI (S)).toInt = ((S : Nat) : Int) from tn70_ ()] at t; have : (6 : Int32).toInt = 6 := qI_6; omega
      refine lv_aload_n hx hb dX3_add_18 rfl (lv_at hl 0 rfl) ?_
      refine va_get (D := (dC, dI)) (ci := 3) (v := .ref m1) (C := RX3) (T := TX3) (N := 3) hx hb hg inG3 hown hK.1 hP 0 rfl rfl 1 (Nat.le_of_ble_eq_true rfl) (hg _ wt_242) (fun _ h9 => h9) rfl dX3_add_19 ?_
      refine lv_aload_n hx hb dX3_add_22 rfl (lv_at hl 0 rfl) ?_
      refine va_get (D := (dC, dI)) (ci := 3) (v := .int (nI S)) (C := RX3) (T := TX3) (N := 3) hx hb hg inG3 hown hK.1 hP 0 rfl rfl 0 (Nat.le_of_ble_eq_true rfl) (hg _ wt_240) (fun _ h9 => h9) rfl dX3_add_23 ?_
      refine lv_iload_n hx hb dX3_add_26 rfl (lv_at hl 1 rfl) ?_
      refine va_iast hx hb hK.1 hP hD hS 1 0 rfl rfl (vp_in_nI (by first | omega | (have t_n2 := n2; have t_n4 := n4; have t_n0 : (nI S).toInt = (S : Int) := tn70_ (); omega)) (by decide)) dX3_add_27 (fun H locs hP hD hS => ?_)
      rw [nI_clamp (by omega)] at hP hD
      refine lv_aload_n hx hb dX3_add_28 rfl (lv_at hl 0 rfl) ?_
      refine va_get (D := (dC, dI)) (ci := 3) (v := .ref m2) (C := RX3) (T := TX3) (N := 3) hx hb hg inG3 hown hK.1 hP 0 rfl rfl 2 (Nat.le_of_ble_eq_true rfl) (hg _ wt_243) (fun _ h9 => h9) rfl dX3_add_29 ?_
      refine lv_aload_n hx hb dX3_add_32 rfl (lv_at hl 0 rfl) ?_
      refine va_get (D := (dC, dI)) (ci := 3) (v := .int (nI S)) (C := RX3) (T := TX3) (N := 3) hx hb hg inG3 hown hK.1 hP 0 rfl rfl 0 (Nat.le_of_ble_eq_true rfl) (hg _ wt_240) (fun _ h9 => h9) rfl dX3_add_33 ?_
      refine lv_iload_n hx hb dX3_add_36 rfl (lv_at hl 2 rfl) ?_
      refine va_iast hx hb hK.1 hP hD hS 2 0 rfl rfl (vp_in_nI (by first | omega | (have t_n2 := n2; have t_n4 := n4; have t_n0 : (nI S).toInt = (S : Int) := tn70_ (); omega)) (by decide)) dX3_add_37 (fun H locs hP hD hS => ?_)
      rw [nI_clamp (by omega)] at hP hD
      refine lv_aload_n hx hb dX3_add_38 rfl (lv_at hl 0 rfl) ?_
      refine lv_dup hx hb dX3_add_39 rfl ?_
      refine va_get (D := (dC, dI)) (ci := 3) (v := .int (nI S)) (C := RX3) (T := TX3) (N := 3) hx hb hg inG3 hown hK.1 hP 0 rfl rfl 0 (Nat.le_of_ble_eq_true rfl) (hg _ wt_240) (fun _ h9 => h9) rfl dX3_add_40 ?_
      refine lv_iconst (v := 1) hx hb dX3_add_43 rfl ?_
      refine lv_iadd hx hb dX3_add_44 ?_
      refine lv_cg (y := nI (S + 1)) (by rw [show (1 : Int32) = nI 1 from rfl]; exact nI_add _ _) ?_
      refine va_put (D := (dC, dI)) (ci := 3) (v := .int (nI (S + 1))) (ty := .int) (C := RX3) (T := TX3) (N := 3) hx hb hg inG3 tyX3 tyX3_ok nmX3 hown hK.1 hP hD hS 0 rfl rfl 0 (Nat.le_of_ble_eq_true rfl) (hg _ wt_240) (fun _ h9 => h9) rfl (by decide +kernel) rfl rfl (Nat.le_of_ble_eq_true rfl) dX3_add_45 (fun H locs hP hD hS => ?_)
      refine lv_iconst (v := 1) hx hb dX3_add_48 rfl ?_
      have hpost : (1 : Int32) = if S < 6 then 1 else 0 := by
        have t_n2 := n2
        have t_n4 := n4
        have t_n0 : (nI S).toInt = (S : Int) := tn70_ ()
        first | rfl | ((repeat' split) <;> first | rfl | omega)
      obtain ⟨hP9, hD9⟩ := va_sub2 (ws' := [(h0, .inr (3, [.int (nI (S + 1)), .ref m1, .ref m2])), (m1, .inl (G 0, 6, .inl (upd z1 S i))), (m2, .inl (G 0, 6, .inl (upd z2 S g)))]) hP hD [0, 1, 2] (by decide +kernel) rfl
      refine W.widen (k := 0) (n := 0) (Nat.le_of_ble_eq_true rfl) (Nat.le_of_ble_eq_true rfl) ?_
      exact W.zret (v := 1) hx hb hr (by first | rfl | decide | exact rfl) (fun t ht hW => ⟨⟨1, ((S + 1), (upd z1 S i), (upd z2 S g)), rfl, ⟨hpost, (by have t_n2 := n2; have t_n4 := n4; have t_n0 : (nI S).toInt = (S : Int) := tn70_ (); split <;> omega)⟩, ⟨by rw [ht]; exact hP9, hD9⟩⟩, hS.F ht⟩) hS.2.2 dX3_add_49
    · skip
      have n5 : 6 ≤ S := by have t := nltI c3; rw [show (nI (S)).toInt = ((S : Nat) : Int) from tn70_ ()] at t; have : (6 : Int32).toInt = 6 := qI_6; omega
      refine lv_iconst (v := 0) hx hb dX3_add_16 rfl ?_
      have hpost : (0 : Int32) = if S < 6 then 1 else 0 := by
        have t_n2 := n2
        have t_n5 := n5
        have t_n0 : (nI S).toInt = (S : Int) := tn70_ ()
        first | rfl | ((repeat' split) <;> first | rfl | omega)
      obtain ⟨hP9, hD9⟩ := va_sub2 (ws' := [(h0, .inr (3, [.int (nI S), .ref m1, .ref m2])), (m1, .inl (G 0, 6, .inl z1)), (m2, .inl (G 0, 6, .inl z2))]) hP hD [0, 1, 2] (by decide +kernel) rfl
      refine W.widen (k := 0) (n := 0) (Nat.le_of_ble_eq_true rfl) (Nat.le_of_ble_eq_true rfl) ?_
      exact W.zret (v := 0) hx hb hr (by first | rfl | decide | exact rfl) (fun t ht hW => ⟨⟨0, (S, z1, z2), rfl, ⟨hpost, (by have t_n2 := n2; have t_n5 := n5; have t_n0 : (nI S).toInt = (S : Int) := tn70_ (); split <;> omega)⟩, ⟨by rw [ht]; exact hP9, hD9⟩⟩, hS.F ht⟩) hS.2.2 dX3_add_17

set_option maxHeartbeats 1000000 in
set_option maxRecDepth 100000 in
theorem c_X3_allows (l : Launch) (dC : Nat → ClassId) (dI : Nat → Nat → Nat) (G : Nat → ClassId) (sz : Nat) (h0 m1 m2 S : Nat) (i g : Int32) (z1 z2 : Nat → Int32) (hS0 : S ≤ 6) : Met l yX3_allows (Cond.code yX3_allows cX3_allows 4 (some .boolean) :: GT) ({ frames := 0, cells := 0, slots := 0, locals := 0 } : Room) (PcR [.ref h0, .int i, .int g] dC dI G [(h0, .inr (3, [.int (nI S), .ref m1, .ref m2])), (m1, .inl (G 0, 6, .inl z1)), (m2, .inl (G 0, 6, .inl z2))] sz) (va_Qi (fun (r : Int32) (u : Unit) => match u with | _ => (r = 0 ∨ r = 1) ∧ True) (fun _ _ => True) (fun q : Nat => sz ≤ q)) 0 0 (fun q : Nat => sz ≤ q) := by
  have tn71_ : nIT S := fun _ => nI_toInt (by omega)
  refine Met.ofW (cc := cX3_allows) (maxL := 4) (ret := (some .boolean)) (by decide) rfl ?_
  intro p e s m args below meth c s₁ Bd hml hv
  obtain ⟨rfl, hsz, hP, hK⟩ := hv
  have hx := Bd.exec
  have hb := Bd.bytes
  have hr := Bd.returns
  have hg : ∀ w ∈ GT, w.before ([.ref h0, .int i, .int g] : List Value).toArray s = true := fun w h => atoms_spec (ws := Cond.code yX3_allows cX3_allows 4 (some .boolean) :: GT) Bd.pre w (List.mem_cons_of_mem _ h)
  have hown : s.vm.findClass RX3 = some m.cls := findClass_of_methodNamed Bd.named
  have hlocks := Bd.notSynchronized
  subst hsz
  have hA : ∀ q : Nat, s.heap.size ≤ q → (fun q : Nat => s.heap.size ≤ q) q := fun _ h => h
  have hS : va_S (fun q : Nat => s.heap.size ≤ q) s.heap s.heap [] := va_S.rf
  have hl := lv_entry ([.ref h0, .int i, .int g]) (n := 4) (Nat.le_of_ble_eq_true rfl)
  rw [lg_entry_eq]
  generalize (lg_sl ([.ref h0, .int i, .int g]) ++ List.replicate (4 - (lg_sl ([.ref h0, .int i, .int g])).length) Slot.unset).toArray = ls at hl ⊢
  have hl : lv_has ls 4 [(0, .ref h0), (1, .int i), (2, .int g)] := hl
  refine lv_iconst (v := 0) hx hb dX3_allows_0 rfl ?_
  refine lv_istore_n (lv' := [(3, .int 0), (0, .ref h0), (1, .int i), (2, .int g)]) hx hb dX3_allows_1 rfl hl (by decide) rfl (fun ls hl => ?_)
  have loop2_2 : ∀ (nf j1 : Nat), S + 1 ≤ j1 + nf → j1 ≤ S → ∀ (H : Heap) (locs : List Loc), va_P (dC, dI) vwCl [(h0, .inr (3, [.int (nI S), .ref m1, .ref m2])), (m1, .inl (G 0, 6, .inl z1)), (m2, .inl (G 0, 6, .inl z2))] H → va_S (fun q : Nat => s.heap.size ≤ q) s.heap H locs → ∀ (ls : Array Slot), lv_has ls 4 [(3, .int (nI j1)), (0, .ref h0), (1, .int i), (2, .int g)] → W p l e (headSpec (Cond.code yX3_allows cX3_allows 4 (some .boolean) :: GT) ({ frames := 0, cells := 0, slots := 0, locals := 0 } : Room)).room s m ([.ref h0, .int i, .int g] : List Value).toArray below meth c H locs 0 0 (MQ below (va_Qi (fun (r : Int32) (u : Unit) => match u with | _ => (r = 0 ∨ r = 1) ∧ True) (fun _ _ => True) (fun q : Nat => s.heap.size ≤ q)) ([.ref h0, .int i, .int g] : List Value).toArray s 0 0 (fun q : Nat => s.heap.size ≤ q)) (F0 m 2 ls []) := by
    intro nf
    induction nf with
    | zero => intro j1 h1 h2; exact absurd h1 (by omega)
    | succ nf ih2_2 =>
      intro j1 hn3 hj4  H locs hP hS ls hl
      refine lv_iload_n hx hb dX3_allows_2 rfl (lv_at hl 0 rfl) ?_
      refine lv_aload_n hx hb dX3_allows_3 rfl (lv_at hl 1 rfl) ?_
      refine va_get (D := (dC, dI)) (ci := 3) (v := .int (nI S)) (C := RX3) (T := TX3) (N := 3) hx hb hg inG3 hown hK.1 hP 0 rfl rfl 0 (Nat.le_of_ble_eq_true rfl) (hg _ wt_240) (fun _ h9 => h9) rfl dX3_allows_4 ?_
      refine lv_icmp_ge (tgt := 38) hx hb dX3_allows_7 rfl (fun c5 => ?_) (fun c5 => ?_)
      · skip
        have tn72_ : nIT j1 := fun _ => nI_toInt (by first | omega | (have t := leI c5; omega))
        have n6 : S ≤ j1 := by have t := leI c5; rw [show (nI (j1)).toInt = ((j1 : Nat) : Int) from tn72_ ()] at t; rw [show (nI (S)).toInt = ((S : Nat) : Int) from tn71_ ()] at t; omega
        refine lv_iconst (v := 1) hx hb dX3_allows_38 rfl ?_
        have hpost : (1 : Int32) = 0 ∨ (1 : Int32) = 1 := by
          exact Or.inr rfl
        refine W.widen (k := 0) (n := 0) (Nat.le_of_ble_eq_true rfl) (Nat.le_of_ble_eq_true rfl) ?_
        exact W.zret (v := 1) hx hb hr (by first | rfl | decide | exact rfl) (fun t ht hW => ⟨⟨1, (), rfl, ⟨hpost, trivial⟩, trivial⟩, hS.F ht⟩) hS.2.2 dX3_allows_39
      · skip
        have tn73_ : nIT j1 := fun _ => nI_toInt (by first | omega | (have t := nleI c5; omega))
        have n7 : j1 < S := by have t := nleI c5; rw [show (nI (j1)).toInt = ((j1 : Nat) : Int) from tn73_ ()] at t; rw [show (nI (S)).toInt = ((S : Nat) : Int) from tn71_ ()] at t; omega
        refine lv_aload_n hx hb dX3_allows_10 rfl (lv_at hl 1 rfl) ?_
        refine va_get (D := (dC, dI)) (ci := 3) (v := .ref m1) (C := RX3) (T := TX3) (N := 3) hx hb hg inG3 hown hK.1 hP 0 rfl rfl 1 (Nat.le_of_ble_eq_true rfl) (hg _ wt_242) (fun _ h9 => h9) rfl dX3_allows_11 ?_
        refine lv_iload_n hx hb dX3_allows_14 rfl (lv_at hl 0 rfl) ?_
        refine va_iald hx hb hK.1 hP 1 0 rfl rfl (vp_in_nI (by first | omega | (have t_hj4 := hj4; have t_n7 := n7; have tnb_ := nib2 tn71_ tn73_; omega)) (by decide)) dX3_allows_15 ?_
        refine lv_cg (y := z1 j1) (by rw [nI_clamp (by omega)]) ?_
        refine lv_iload_n hx hb dX3_allows_16 rfl (lv_at hl 2 rfl) ?_
        refine lv_icmp_ne (tgt := 32) hx hb dX3_allows_17 rfl (fun c8 => ?_) (fun c8 => ?_)
        · skip
          refine lv_iinc (v := nI (j1 + 1)) (lv' := [(3, .int (nI (j1 + 1))), (0, .ref h0), (1, .int i), (2, .int g)]) hx hb dX3_allows_32 hl (k := 0) rfl (by rw [show Int32.ofInt 1 = nI 1 from by decide]; exact nI_add _ _) (by decide) rfl (fun ls hl => ?_)
          refine lv_goto (tgt := 2) hx hb dX3_allows_35 rfl ?_
          exact ih2_2 (j1 + 1) (by omega) (by omega)  _ _ hP hS ls (lv_sub hl [0, 1, 2, 3] rfl)
        · skip
          refine lv_aload_n hx hb dX3_allows_20 rfl (lv_at hl 1 rfl) ?_
          refine va_get (D := (dC, dI)) (ci := 3) (v := .ref m2) (C := RX3) (T := TX3) (N := 3) hx hb hg inG3 hown hK.1 hP 0 rfl rfl 2 (Nat.le_of_ble_eq_true rfl) (hg _ wt_243) (fun _ h9 => h9) rfl dX3_allows_21 ?_
          refine lv_iload_n hx hb dX3_allows_24 rfl (lv_at hl 0 rfl) ?_
          refine va_iald hx hb hK.1 hP 2 0 rfl rfl (vp_in_nI (by first | omega | (have t_hj4 := hj4; have t_n7 := n7; have t_c8 := eqI c8; have tnb_ := nib2 tn71_ tn73_; omega)) (by decide)) dX3_allows_25 ?_
          refine lv_cg (y := z2 j1) (by rw [nI_clamp (by omega)]) ?_
          refine lv_iload_n hx hb dX3_allows_26 rfl (lv_at hl 3 rfl) ?_
          refine lv_icmp_eq (tgt := 32) hx hb dX3_allows_27 rfl (fun c9 => ?_) (fun c9 => ?_)
          · skip
            refine lv_iinc (v := nI (j1 + 1)) (lv' := [(3, .int (nI (j1 + 1))), (0, .ref h0), (1, .int i), (2, .int g)]) hx hb dX3_allows_32 hl (k := 0) rfl (by rw [show Int32.ofInt 1 = nI 1 from by decide]; exact nI_add _ _) (by decide) rfl (fun ls hl => ?_)
            refine lv_goto (tgt := 2) hx hb dX3_allows_35 rfl ?_
            exact ih2_2 (j1 + 1) (by omega) (by omega)  _ _ hP hS ls (lv_sub hl [0, 1, 2, 3] rfl)
          · skip
            refine lv_iconst (v := 0) hx hb dX3_allows_30 rfl ?_
            have hpost : (0 : Int32) = 0 ∨ (0 : Int32) = 1 := by
              exact Or.inl rfl
            refine W.widen (k := 0) (n := 0) (Nat.le_of_ble_eq_true rfl) (Nat.le_of_ble_eq_true rfl) ?_
            exact W.zret (v := 0) hx hb hr (by first | rfl | decide | exact rfl) (fun t ht hW => ⟨⟨0, (), rfl, ⟨hpost, trivial⟩, trivial⟩, hS.F ht⟩) hS.2.2 dX3_allows_31
  exact loop2_2 (S + 1) 0 (by omega) (by omega)  _ _ hP hS ls (lv_sub hl [0, 1, 2, 3] rfl)

set_option maxHeartbeats 1000000 in
set_option maxRecDepth 100000 in
theorem c_X1_cross (l : Launch) (dC : Nat → ClassId) (dI : Nat → Nat → Nat) (G : Nat → ClassId) (sz : Nat) (h0 wy a1 a2 a3 a4 a5 a6 N B D : Nat) (x1 x2 x3 sd : Int32) (f1 f2 f3 f4 f5 f6 : Nat → Int32) (hN_N : N ≤ 10) (hB_B : B ≤ 6) (hD_D : 1 ≤ D ∧ D ≤ 9) : Met l yX1_cross (Cond.code yX1_cross cX1_cross 5 none :: GT) ({ frames := 4, cells := 0, slots := 0, locals := 88 } : Room) (PcW [.ref h0, .ref wy, .int sd] dC dI G [(h0, .inr (1, [.int x1, .int x2, .int x3])), (wy, .inr (9, [.int (nI N), .int (nI B), .int (nI D), .ref a1, .ref a2, .ref a3, .ref a4, .ref a5, .ref a6])), (a1, .inl (G 0, 10, .inl f1)), (a2, .inl (G 0, 10, .inl f2)), (a3, .inl (G 0, 10, .inl f3)), (a4, .inl (G 0, 6, .inl f4)), (a5, .inl (G 0, 6, .inl f5)), (a6, .inl (G 0, 6, .inl f6))] sz) (va_Qv (fun (u : Int32 × Int32 × Int32) => match u with | (u0, u1, u2) => True) (fun (u : Int32 × Int32 × Int32) (t : State) => match u with | (u0, u1, u2) => va_P (dC, dI) vwCl [(h0, .inr (1, [.int u0, .int u1, .int u2])), (wy, .inr (9, [.int (nI N), .int (nI B), .int (nI D), .ref a1, .ref a2, .ref a3, .ref a4, .ref a5, .ref a6])), (a1, .inl (G 0, 10, .inl f1)), (a2, .inl (G 0, 10, .inl f2)), (a3, .inl (G 0, 10, .inl f3)), (a4, .inl (G 0, 6, .inl f4)), (a5, .inl (G 0, 6, .inl f5)), (a6, .inl (G 0, 6, .inl f6))] t.heap ∧ va_D (va_A [(h0, .inr (1, [.int x1, .int x2, .int x3])), (wy, .inr (9, [.int (nI N), .int (nI B), .int (nI D), .ref a1, .ref a2, .ref a3, .ref a4, .ref a5, .ref a6])), (a1, .inl (G 0, 10, .inl f1)), (a2, .inl (G 0, 10, .inl f2)), (a3, .inl (G 0, 10, .inl f3)), (a4, .inl (G 0, 6, .inl f4)), (a5, .inl (G 0, 6, .inl f5)), (a6, .inl (G 0, 6, .inl f6))] sz) [(h0, .inr (1, [.int u0, .int u1, .int u2])), (wy, .inr (9, [.int (nI N), .int (nI B), .int (nI D), .ref a1, .ref a2, .ref a3, .ref a4, .ref a5, .ref a6])), (a1, .inl (G 0, 10, .inl f1)), (a2, .inl (G 0, 10, .inl f2)), (a3, .inl (G 0, 10, .inl f3)), (a4, .inl (G 0, 6, .inl f4)), (a5, .inl (G 0, 6, .inl f5)), (a6, .inl (G 0, 6, .inl f6))]) (va_A [(h0, .inr (1, [.int x1, .int x2, .int x3])), (wy, .inr (9, [.int (nI N), .int (nI B), .int (nI D), .ref a1, .ref a2, .ref a3, .ref a4, .ref a5, .ref a6])), (a1, .inl (G 0, 10, .inl f1)), (a2, .inl (G 0, 10, .inl f2)), (a3, .inl (G 0, 10, .inl f3)), (a4, .inl (G 0, 6, .inl f4)), (a5, .inl (G 0, 6, .inl f5)), (a6, .inl (G 0, 6, .inl f6))] sz)) 0 0 (va_A [(h0, .inr (1, [.int x1, .int x2, .int x3])), (wy, .inr (9, [.int (nI N), .int (nI B), .int (nI D), .ref a1, .ref a2, .ref a3, .ref a4, .ref a5, .ref a6])), (a1, .inl (G 0, 10, .inl f1)), (a2, .inl (G 0, 10, .inl f2)), (a3, .inl (G 0, 10, .inl f3)), (a4, .inl (G 0, 6, .inl f4)), (a5, .inl (G 0, 6, .inl f5)), (a6, .inl (G 0, 6, .inl f6))] sz) := by
  have tn74_ : nIT N := fun _ => nI_toInt (by omega)
  have tn75_ : nIT B := fun _ => nI_toInt (by omega)
  have tn76_ : nIT D := fun _ => nI_toInt (by omega)
  refine Met.ofW (cc := cX1_cross) (maxL := 5) (ret := none) (by decide) rfl ?_
  intro p e s m args below meth c s₁ Bd hml hv
  obtain ⟨rfl, hsz, hP, hK, hD0⟩ := hv
  have hx := Bd.exec
  have hb := Bd.bytes
  have hr := Bd.returns
  have hg : ∀ w ∈ GT, w.before ([.ref h0, .ref wy, .int sd] : List Value).toArray s = true := fun w h => atoms_spec (ws := Cond.code yX1_cross cX1_cross 5 none :: GT) Bd.pre w (List.mem_cons_of_mem _ h)
  have hown : s.vm.findClass RX1 = some m.cls := findClass_of_methodNamed Bd.named
  have hlocks := Bd.notSynchronized
  subst hsz
  have hD := hD0.self (sz := s.heap.size)
  generalize hAe : va_A [(h0, .inr (1, [.int x1, .int x2, .int x3])), (wy, .inr (9, [.int (nI N), .int (nI B), .int (nI D), .ref a1, .ref a2, .ref a3, .ref a4, .ref a5, .ref a6])), (a1, .inl (G 0, 10, .inl f1)), (a2, .inl (G 0, 10, .inl f2)), (a3, .inl (G 0, 10, .inl f3)), (a4, .inl (G 0, 6, .inl f4)), (a5, .inl (G 0, 6, .inl f5)), (a6, .inl (G 0, 6, .inl f6))] s.heap.size = A at hD ⊢
  have hA : ∀ q : Nat, s.heap.size ≤ q → A q := fun q h => by rw [← hAe]; exact Or.inr h
  have hS : va_S A s.heap s.heap [] := va_S.rf
  have hl := lv_entry ([.ref h0, .ref wy, .int sd]) (n := 5) (Nat.le_of_ble_eq_true rfl)
  rw [lg_entry_eq]
  generalize (lg_sl ([.ref h0, .ref wy, .int sd]) ++ List.replicate (5 - (lg_sl ([.ref h0, .ref wy, .int sd])).length) Slot.unset).toArray = ls at hl ⊢
  have hl : lv_has ls 5 [(0, .ref h0), (1, .ref wy), (2, .int sd)] := hl
  refine lv_aload_n hx hb dX1_cross_0 rfl (lv_at hl 0 rfl) ?_
  refine lv_aload_n hx hb dX1_cross_1 rfl (lv_at hl 1 rfl) ?_
  refine va_getN (D := (dC, dI)) (ci := 9) (v := .int (nI D)) (C := RX9) (T := TX9) (N := 9) hx hb hg inG9 hown hK.1 hP 1 rfl rfl 2 (Nat.le_of_ble_eq_true rfl) (hK.nest wn_68) (fun _ h9 => h9) rfl dX1_cross_2 ?_
  refine va_put (D := (dC, dI)) (ci := 1) (v := .int (nI D)) (ty := .int) (C := RX1) (T := TX1) (N := 3) hx hb hg inG1 tyX1 tyX1_ok nmX1 hown hK.1 hP hD hS 0 rfl rfl 0 (Nat.le_of_ble_eq_true rfl) (hg _ wt_198) (fun _ h9 => h9) rfl (by decide +kernel) rfl rfl (Nat.le_of_ble_eq_true rfl) dX1_cross_5 (fun H locs hP hD hS => ?_)
  refine lv_aload_n hx hb dX1_cross_8 rfl (lv_at hl 0 rfl) ?_
  refine lv_iconst (v := 0) hx hb dX1_cross_9 rfl ?_
  refine va_put (D := (dC, dI)) (ci := 1) (v := .int 0) (ty := .int) (C := RX1) (T := TX1) (N := 3) hx hb hg inG1 tyX1 tyX1_ok nmX1 hown hK.1 hP hD hS 0 rfl rfl 1 (Nat.le_of_ble_eq_true rfl) (hg _ wt_200) (fun _ h9 => h9) rfl (by decide +kernel) rfl rfl (Nat.le_of_ble_eq_true rfl) dX1_cross_10 (fun H locs hP hD hS => ?_)
  refine lv_aload_n hx hb dX1_cross_13 rfl (lv_at hl 0 rfl) ?_
  refine lv_bipush (v := (-4)) hx hb dX1_cross_14 rfl ?_
  refine va_put (D := (dC, dI)) (ci := 1) (v := .int (-4)) (ty := .int) (C := RX1) (T := TX1) (N := 3) hx hb hg inG1 tyX1 tyX1_ok nmX1 hown hK.1 hP hD hS 0 rfl rfl 2 (Nat.le_of_ble_eq_true rfl) (hg _ wt_202) (fun _ h9 => h9) rfl (by decide +kernel) rfl rfl (Nat.le_of_ble_eq_true rfl) dX1_cross_16 (fun H locs hP hD hS => ?_)
  refine lv_iload_n hx hb dX1_cross_19 rfl (lv_at hl 2 rfl) ?_
  refine lv_istore_n (lv' := [(3, .int sd), (0, .ref h0), (1, .ref wy), (2, .int sd)]) hx hb dX1_cross_20 rfl hl (by decide) rfl (fun ls hl => ?_)
  refine lv_iconst (v := 0) hx hb dX1_cross_21 rfl ?_
  refine lv_istore (lv' := [(4, .int 0), (3, .int sd), (0, .ref h0), (1, .ref wy), (2, .int sd)]) hx hb dX1_cross_22 hl (by decide) rfl (fun ls hl => ?_)
  have loop24_6 : ∀ (nf j1 : Nat), N + 1 ≤ j1 + nf → j1 ≤ N → ∀ (y2 : Int32) (y3 : Int32) (y4 : Int32) (y5 : Int32) (H : Heap) (locs : List Loc), va_P (dC, dI) vwCl [(h0, .inr (1, [.int y3, .int y4, .int y5])), (wy, .inr (9, [.int (nI N), .int (nI B), .int (nI D), .ref a1, .ref a2, .ref a3, .ref a4, .ref a5, .ref a6])), (a1, .inl (G 0, 10, .inl f1)), (a2, .inl (G 0, 10, .inl f2)), (a3, .inl (G 0, 10, .inl f3)), (a4, .inl (G 0, 6, .inl f4)), (a5, .inl (G 0, 6, .inl f5)), (a6, .inl (G 0, 6, .inl f6))] H → va_D A [(h0, .inr (1, [.int y3, .int y4, .int y5])), (wy, .inr (9, [.int (nI N), .int (nI B), .int (nI D), .ref a1, .ref a2, .ref a3, .ref a4, .ref a5, .ref a6])), (a1, .inl (G 0, 10, .inl f1)), (a2, .inl (G 0, 10, .inl f2)), (a3, .inl (G 0, 10, .inl f3)), (a4, .inl (G 0, 6, .inl f4)), (a5, .inl (G 0, 6, .inl f5)), (a6, .inl (G 0, 6, .inl f6))] → va_S A s.heap H locs → ∀ (ls : Array Slot), lv_has ls 5 [(4, .int (nI j1)), (3, .int y2), (0, .ref h0), (1, .ref wy), (2, .int sd)] → W p l e (headSpec (Cond.code yX1_cross cX1_cross 5 none :: GT) ({ frames := 4, cells := 0, slots := 0, locals := 88 } : Room)).room s m ([.ref h0, .ref wy, .int sd] : List Value).toArray below meth c H locs 0 0 (MQ below (va_Qv (fun (u : Int32 × Int32 × Int32) => match u with | (u0, u1, u2) => True) (fun (u : Int32 × Int32 × Int32) (t : State) => match u with | (u0, u1, u2) => va_P (dC, dI) vwCl [(h0, .inr (1, [.int u0, .int u1, .int u2])), (wy, .inr (9, [.int (nI N), .int (nI B), .int (nI D), .ref a1, .ref a2, .ref a3, .ref a4, .ref a5, .ref a6])), (a1, .inl (G 0, 10, .inl f1)), (a2, .inl (G 0, 10, .inl f2)), (a3, .inl (G 0, 10, .inl f3)), (a4, .inl (G 0, 6, .inl f4)), (a5, .inl (G 0, 6, .inl f5)), (a6, .inl (G 0, 6, .inl f6))] t.heap ∧ va_D A [(h0, .inr (1, [.int u0, .int u1, .int u2])), (wy, .inr (9, [.int (nI N), .int (nI B), .int (nI D), .ref a1, .ref a2, .ref a3, .ref a4, .ref a5, .ref a6])), (a1, .inl (G 0, 10, .inl f1)), (a2, .inl (G 0, 10, .inl f2)), (a3, .inl (G 0, 10, .inl f3)), (a4, .inl (G 0, 6, .inl f4)), (a5, .inl (G 0, 6, .inl f5)), (a6, .inl (G 0, 6, .inl f6))]) A) ([.ref h0, .ref wy, .int sd] : List Value).toArray s 0 0 A) (F0 m 24 ls []) := by
    intro nf
    induction nf with
    | zero => intro j1 h1 h2; exact absurd h1 (by omega)
    | succ nf ih24_6 =>
      intro j1 hn7 hj8 y2 y3 y4 y5 H locs hP hD hS ls hl
      refine lv_iload hx hb dX1_cross_24 (lv_at hl 0 rfl) ?_
      refine lv_aload_n hx hb dX1_cross_26 rfl (lv_at hl 3 rfl) ?_
      refine va_getN (D := (dC, dI)) (ci := 9) (v := .int (nI N)) (C := RX9) (T := TX9) (N := 9) hx hb hg inG9 hown hK.1 hP 1 rfl rfl 0 (Nat.le_of_ble_eq_true rfl) (hK.nest wn_57) (fun _ h9 => h9) rfl dX1_cross_27 ?_
      have cut126_9 : ∀ (H : Heap) (locs : List Loc), va_P (dC, dI) vwCl [(h0, .inr (1, [.int y3, .int y4, .int y5])), (wy, .inr (9, [.int (nI N), .int (nI B), .int (nI D), .ref a1, .ref a2, .ref a3, .ref a4, .ref a5, .ref a6])), (a1, .inl (G 0, 10, .inl f1)), (a2, .inl (G 0, 10, .inl f2)), (a3, .inl (G 0, 10, .inl f3)), (a4, .inl (G 0, 6, .inl f4)), (a5, .inl (G 0, 6, .inl f5)), (a6, .inl (G 0, 6, .inl f6))] H → va_D A [(h0, .inr (1, [.int y3, .int y4, .int y5])), (wy, .inr (9, [.int (nI N), .int (nI B), .int (nI D), .ref a1, .ref a2, .ref a3, .ref a4, .ref a5, .ref a6])), (a1, .inl (G 0, 10, .inl f1)), (a2, .inl (G 0, 10, .inl f2)), (a3, .inl (G 0, 10, .inl f3)), (a4, .inl (G 0, 6, .inl f4)), (a5, .inl (G 0, 6, .inl f5)), (a6, .inl (G 0, 6, .inl f6))] → va_S A s.heap H locs → ∀ (ls : Array Slot), lv_has ls 5 [(4, .int (nI j1)), (3, .int y2), (0, .ref h0), (1, .ref wy), (2, .int sd)] → W p l e (headSpec (Cond.code yX1_cross cX1_cross 5 none :: GT) ({ frames := 4, cells := 0, slots := 0, locals := 88 } : Room)).room s m ([.ref h0, .ref wy, .int sd] : List Value).toArray below meth c H locs 0 0 (MQ below (va_Qv (fun (u : Int32 × Int32 × Int32) => match u with | (u0, u1, u2) => True) (fun (u : Int32 × Int32 × Int32) (t : State) => match u with | (u0, u1, u2) => va_P (dC, dI) vwCl [(h0, .inr (1, [.int u0, .int u1, .int u2])), (wy, .inr (9, [.int (nI N), .int (nI B), .int (nI D), .ref a1, .ref a2, .ref a3, .ref a4, .ref a5, .ref a6])), (a1, .inl (G 0, 10, .inl f1)), (a2, .inl (G 0, 10, .inl f2)), (a3, .inl (G 0, 10, .inl f3)), (a4, .inl (G 0, 6, .inl f4)), (a5, .inl (G 0, 6, .inl f5)), (a6, .inl (G 0, 6, .inl f6))] t.heap ∧ va_D A [(h0, .inr (1, [.int u0, .int u1, .int u2])), (wy, .inr (9, [.int (nI N), .int (nI B), .int (nI D), .ref a1, .ref a2, .ref a3, .ref a4, .ref a5, .ref a6])), (a1, .inl (G 0, 10, .inl f1)), (a2, .inl (G 0, 10, .inl f2)), (a3, .inl (G 0, 10, .inl f3)), (a4, .inl (G 0, 6, .inl f4)), (a5, .inl (G 0, 6, .inl f5)), (a6, .inl (G 0, 6, .inl f6))]) A) ([.ref h0, .ref wy, .int sd] : List Value).toArray s 0 0 A) (F0 m 126 ls []) := by
        intro  H locs hP hD hS ls hl
        obtain ⟨hP9, hD9⟩ := va_sub2 (ws' := [(h0, .inr (1, [.int y3, .int y4, .int y5])), (wy, .inr (9, [.int (nI N), .int (nI B), .int (nI D), .ref a1, .ref a2, .ref a3, .ref a4, .ref a5, .ref a6])), (a1, .inl (G 0, 10, .inl f1)), (a2, .inl (G 0, 10, .inl f2)), (a3, .inl (G 0, 10, .inl f3)), (a4, .inl (G 0, 6, .inl f4)), (a5, .inl (G 0, 6, .inl f5)), (a6, .inl (G 0, 6, .inl f6))]) hP hD [0, 1, 2, 3, 4, 5, 6, 7] (by decide +kernel) rfl
        refine W.widen (k := 0) (n := 0) (Nat.le_of_ble_eq_true rfl) (Nat.le_of_ble_eq_true rfl) ?_
        exact W.vret hx hb hr (fun t ht hW => ⟨⟨(y3, y4, y5), rfl, trivial, ⟨by rw [ht]; exact hP9, hD9⟩⟩, hS.F ht⟩) hS.2.2 dX1_cross_126
      refine lv_icmp_ge (tgt := 126) hx hb dX1_cross_30 rfl (fun c10 => ?_) (fun c10 => ?_)
      · skip
        have tn77_ : nIT j1 := fun _ => nI_toInt (by first | omega | (have t := leI c10; omega))
        have n11 : N ≤ j1 := by have t := leI c10; rw [show (nI (j1)).toInt = ((j1 : Nat) : Int) from tn77_ ()] at t; rw [show (nI (N)).toInt = ((N : Nat) : Int) from tn74_ ()] at t; omega
        exact cut126_9  _ _ hP hD hS ls (lv_sub hl [0, 1, 2, 3, 4] rfl)
      · skip
        have tn78_ : nIT j1 := fun _ => nI_toInt (by first | omega | (have t := nleI c10; omega))
        have n12 : j1 < N := by have t := nleI c10; rw [show (nI (j1)).toInt = ((j1 : Nat) : Int) from tn78_ ()] at t; rw [show (nI (N)).toInt = ((N : Nat) : Int) from tn74_ ()] at t; omega
        refine lv_aload_n hx hb dX1_cross_33 rfl (lv_at hl 2 rfl) ?_
        refine va_get (D := (dC, dI)) (ci := 1) (v := .int y3) (C := RX1) (T := TX1) (N := 3) hx hb hg inG1 hown hK.1 hP 0 rfl rfl 0 (Nat.le_of_ble_eq_true rfl) (hg _ wt_198) (fun _ h9 => h9) rfl dX1_cross_34 ?_
        refine lv_if_le (tgt := 126) hx hb dX1_cross_37 rfl (fun c13 => ?_) (fun c13 => ?_)
        · skip
          exact cut126_9  _ _ hP hD hS ls (lv_sub hl [0, 1, 2, 3, 4] rfl)
        · skip
          refine lv_iload_n hx hb dX1_cross_40 rfl (lv_at hl 1 rfl) ?_
          refine lv_ldc (v := 1103515245) hx hb hown (hg _ wt_727) dX1_cross_41 ?_
          refine lv_imul hx hb dX1_cross_43 ?_
          refine lv_sipush (v := 12345) hx hb dX1_cross_44 rfl ?_
          refine lv_iadd hx hb dX1_cross_47 ?_
          refine lv_topi (fun v14 ev14 => ?_)
          refine lv_istore_n (lv' := [(3, .int v14), (4, .int (nI j1)), (0, .ref h0), (1, .ref wy), (2, .int sd)]) hx hb dX1_cross_48 rfl hl (by decide) rfl (fun ls hl => ?_)
          refine lv_iload_n hx hb dX1_cross_49 rfl (lv_at hl 0 rfl) ?_
          refine lv_bipush (v := 16) hx hb dX1_cross_50 rfl ?_
          refine lv_ishr hx hb dX1_cross_52 ?_
          refine lv_sipush (v := 32767) hx hb dX1_cross_53 rfl ?_
          refine lv_iand hx hb dX1_cross_56 ?_
          refine lv_topi (fun v15 ev15 => ?_)
          refine lv_bipush (v := 20) hx hb dX1_cross_57 rfl ?_
          refine lv_irem hx hb dX1_cross_59 (by decide) ?_
          refine lv_aload_n hx hb dX1_cross_60 rfl (lv_at hl 3 rfl) ?_
          refine lv_iload hx hb dX1_cross_61 (lv_at hl 1 rfl) ?_
          have hPc := hP.sub (ws' := [(wy, .inr (9, [.int (nI N), .int (nI B), .int (nI D), .ref a1, .ref a2, .ref a3, .ref a4, .ref a5, .ref a6])), (a1, .inl (G 0, 10, .inl f1)), (a2, .inl (G 0, 10, .inl f2)), (a3, .inl (G 0, 10, .inl f3)), (a4, .inl (G 0, 6, .inl f4)), (a5, .inl (G 0, 6, .inl f5)), (a6, .inl (G 0, 6, .inl f6))]) [1, 2, 3, 4, 5, 6, 7] rfl
          refine va_calli (va_runVN (As := [.int (nI j1)]) (rest := [.int (v15 - v15 / 20 * 20)]) ⟨hx, hb, hml, hown, hg⟩ (c_X9_harmInOrder l dC dI G _ wy a1 a2 a3 a4 a5 a6 N B D (nI j1) f1 f2 f3 f4 f5 f6 hN_N hB_B hD_D) (kwVN hg hK mfX9_harmInOrder wn_728 ⟨Nat.le_of_ble_eq_true rfl, Nat.le_of_ble_eq_true rfl⟩) (preVR hK hPc (ci := 9) (r := (RX9, TX9, 9)) rfl rfl) rfl rfl hl.1 rfl (lv_room (Nat.le_of_ble_eq_true rfl)) dX1_cross_63 ⟨Nat.le_of_ble_eq_true rfl, Nat.le_of_ble_eq_true rfl⟩) hS (fun q h1 h2 => absurd h2 (Nat.not_le.mpr h1)) (fun q h => hA q (Nat.le_trans hS.1 h)) (fun r16 ur16 t H1 locs ht hvm w17 hB hz1 hk1 hS => ?_)
          have hP := keepR hP hk1
          obtain ⟨w17, w17x⟩ := w17
          subst w17
          have cut107_20 : ∀ (y18 : Int32) (y19 : Int32) (H : Heap) (locs : List Loc), va_P (dC, dI) vwCl [(h0, .inr (1, [.int y18, .int y19, .int y5])), (wy, .inr (9, [.int (nI N), .int (nI B), .int (nI D), .ref a1, .ref a2, .ref a3, .ref a4, .ref a5, .ref a6])), (a1, .inl (G 0, 10, .inl f1)), (a2, .inl (G 0, 10, .inl f2)), (a3, .inl (G 0, 10, .inl f3)), (a4, .inl (G 0, 6, .inl f4)), (a5, .inl (G 0, 6, .inl f5)), (a6, .inl (G 0, 6, .inl f6))] H → va_D A [(h0, .inr (1, [.int y18, .int y19, .int y5])), (wy, .inr (9, [.int (nI N), .int (nI B), .int (nI D), .ref a1, .ref a2, .ref a3, .ref a4, .ref a5, .ref a6])), (a1, .inl (G 0, 10, .inl f1)), (a2, .inl (G 0, 10, .inl f2)), (a3, .inl (G 0, 10, .inl f3)), (a4, .inl (G 0, 6, .inl f4)), (a5, .inl (G 0, 6, .inl f5)), (a6, .inl (G 0, 6, .inl f6))] → va_S A s.heap H locs → ∀ (ls : Array Slot), lv_has ls 5 [(3, .int v14), (4, .int (nI j1)), (0, .ref h0), (1, .ref wy), (2, .int sd)] → W p l e (headSpec (Cond.code yX1_cross cX1_cross 5 none :: GT) ({ frames := 4, cells := 0, slots := 0, locals := 88 } : Room)).room s m ([.ref h0, .ref wy, .int sd] : List Value).toArray below meth c H locs 0 0 (MQ below (va_Qv (fun (u : Int32 × Int32 × Int32) => match u with | (u0, u1, u2) => True) (fun (u : Int32 × Int32 × Int32) (t : State) => match u with | (u0, u1, u2) => va_P (dC, dI) vwCl [(h0, .inr (1, [.int u0, .int u1, .int u2])), (wy, .inr (9, [.int (nI N), .int (nI B), .int (nI D), .ref a1, .ref a2, .ref a3, .ref a4, .ref a5, .ref a6])), (a1, .inl (G 0, 10, .inl f1)), (a2, .inl (G 0, 10, .inl f2)), (a3, .inl (G 0, 10, .inl f3)), (a4, .inl (G 0, 6, .inl f4)), (a5, .inl (G 0, 6, .inl f5)), (a6, .inl (G 0, 6, .inl f6))] t.heap ∧ va_D A [(h0, .inr (1, [.int u0, .int u1, .int u2])), (wy, .inr (9, [.int (nI N), .int (nI B), .int (nI D), .ref a1, .ref a2, .ref a3, .ref a4, .ref a5, .ref a6])), (a1, .inl (G 0, 10, .inl f1)), (a2, .inl (G 0, 10, .inl f2)), (a3, .inl (G 0, 10, .inl f3)), (a4, .inl (G 0, 6, .inl f4)), (a5, .inl (G 0, 6, .inl f5)), (a6, .inl (G 0, 6, .inl f6))]) A) ([.ref h0, .ref wy, .int sd] : List Value).toArray s 0 0 A) (F0 m 107 ls []) := by
            intro y18 y19 H locs hP hD hS ls hl
            refine lv_aload_n hx hb dX1_cross_107 rfl (lv_at hl 2 rfl) ?_
            refine va_get (D := (dC, dI)) (ci := 1) (v := .int y18) (C := RX1) (T := TX1) (N := 3) hx hb hg inG1 hown hK.1 hP 0 rfl rfl 0 (Nat.le_of_ble_eq_true rfl) (hg _ wt_198) (fun _ h9 => h9) rfl dX1_cross_108 ?_
            have cut120_22 : ∀ (y21 : Int32) (H : Heap) (locs : List Loc), va_P (dC, dI) vwCl [(h0, .inr (1, [.int y18, .int y19, .int y21])), (wy, .inr (9, [.int (nI N), .int (nI B), .int (nI D), .ref a1, .ref a2, .ref a3, .ref a4, .ref a5, .ref a6])), (a1, .inl (G 0, 10, .inl f1)), (a2, .inl (G 0, 10, .inl f2)), (a3, .inl (G 0, 10, .inl f3)), (a4, .inl (G 0, 6, .inl f4)), (a5, .inl (G 0, 6, .inl f5)), (a6, .inl (G 0, 6, .inl f6))] H → va_D A [(h0, .inr (1, [.int y18, .int y19, .int y21])), (wy, .inr (9, [.int (nI N), .int (nI B), .int (nI D), .ref a1, .ref a2, .ref a3, .ref a4, .ref a5, .ref a6])), (a1, .inl (G 0, 10, .inl f1)), (a2, .inl (G 0, 10, .inl f2)), (a3, .inl (G 0, 10, .inl f3)), (a4, .inl (G 0, 6, .inl f4)), (a5, .inl (G 0, 6, .inl f5)), (a6, .inl (G 0, 6, .inl f6))] → va_S A s.heap H locs → ∀ (ls : Array Slot), lv_has ls 5 [(3, .int v14), (4, .int (nI j1)), (0, .ref h0), (1, .ref wy), (2, .int sd)] → W p l e (headSpec (Cond.code yX1_cross cX1_cross 5 none :: GT) ({ frames := 4, cells := 0, slots := 0, locals := 88 } : Room)).room s m ([.ref h0, .ref wy, .int sd] : List Value).toArray below meth c H locs 0 0 (MQ below (va_Qv (fun (u : Int32 × Int32 × Int32) => match u with | (u0, u1, u2) => True) (fun (u : Int32 × Int32 × Int32) (t : State) => match u with | (u0, u1, u2) => va_P (dC, dI) vwCl [(h0, .inr (1, [.int u0, .int u1, .int u2])), (wy, .inr (9, [.int (nI N), .int (nI B), .int (nI D), .ref a1, .ref a2, .ref a3, .ref a4, .ref a5, .ref a6])), (a1, .inl (G 0, 10, .inl f1)), (a2, .inl (G 0, 10, .inl f2)), (a3, .inl (G 0, 10, .inl f3)), (a4, .inl (G 0, 6, .inl f4)), (a5, .inl (G 0, 6, .inl f5)), (a6, .inl (G 0, 6, .inl f6))] t.heap ∧ va_D A [(h0, .inr (1, [.int u0, .int u1, .int u2])), (wy, .inr (9, [.int (nI N), .int (nI B), .int (nI D), .ref a1, .ref a2, .ref a3, .ref a4, .ref a5, .ref a6])), (a1, .inl (G 0, 10, .inl f1)), (a2, .inl (G 0, 10, .inl f2)), (a3, .inl (G 0, 10, .inl f3)), (a4, .inl (G 0, 6, .inl f4)), (a5, .inl (G 0, 6, .inl f5)), (a6, .inl (G 0, 6, .inl f6))]) A) ([.ref h0, .ref wy, .int sd] : List Value).toArray s 0 0 A) (F0 m 120 ls []) := by
              intro y21 H locs hP hD hS ls hl
              refine lv_iinc (v := nI (j1 + 1)) (lv' := [(4, .int (nI (j1 + 1))), (3, .int v14), (0, .ref h0), (1, .ref wy), (2, .int sd)]) hx hb dX1_cross_120 hl (k := 1) rfl (by rw [show Int32.ofInt 1 = nI 1 from by decide]; exact nI_add _ _) (by decide) rfl (fun ls hl => ?_)
              refine lv_goto (tgt := 24) hx hb dX1_cross_123 rfl ?_
              exact ih24_6 (j1 + 1) (by omega) (by omega) v14 y18 y19 y21 _ _ hP hD hS ls (lv_sub hl [0, 1, 2, 3, 4] rfl)
            refine lv_if_ne (tgt := 120) hx hb dX1_cross_111 rfl (fun c23 => ?_) (fun c23 => ?_)
            · skip
              exact cut120_22 y5 _ _ hP hD hS ls (lv_sub hl [0, 1, 2, 3, 4] rfl)
            · skip
              refine lv_aload_n hx hb dX1_cross_114 rfl (lv_at hl 2 rfl) ?_
              refine lv_iload hx hb dX1_cross_115 (lv_at hl 1 rfl) ?_
              refine va_put (D := (dC, dI)) (ci := 1) (v := .int (nI j1)) (ty := .int) (C := RX1) (T := TX1) (N := 3) hx hb hg inG1 tyX1 tyX1_ok nmX1 hown hK.1 hP hD hS 0 rfl rfl 2 (Nat.le_of_ble_eq_true rfl) (hg _ wt_202) (fun _ h9 => h9) rfl (by decide +kernel) rfl rfl (Nat.le_of_ble_eq_true rfl) dX1_cross_117 (fun H locs hP hD hS => ?_)
              exact cut120_22 (nI j1) _ _ hP hD hS ls (lv_sub hl [0, 1, 2, 3, 4] rfl)
          refine lv_icmp_ge (tgt := 92) hx hb dX1_cross_66 rfl (fun c24 => ?_) (fun c24 => ?_)
          · skip
            refine lv_aload_n hx hb dX1_cross_92 rfl (lv_at hl 2 rfl) ?_
            refine lv_bipush (v := 9) hx hb dX1_cross_93 rfl ?_
            refine lv_aload_n hx hb dX1_cross_95 rfl (lv_at hl 2 rfl) ?_
            refine va_get (D := (dC, dI)) (ci := 1) (v := .int y3) (C := RX1) (T := TX1) (N := 3) hx hb hg inG1 hown hK.1 hP 0 rfl rfl 0 (Nat.le_of_ble_eq_true rfl) (hg _ wt_198) (fun _ h9 => h9) rfl dX1_cross_96 ?_
            refine lv_iconst (v := 1) hx hb dX1_cross_99 rfl ?_
            refine lv_iadd hx hb dX1_cross_100 ?_
            have hPc := hP.sub (ws' := []) [] rfl
            refine va_calli (va_runS (As := [.int 9, .int (y3 + 1)]) (rest := [.ref h0]) ⟨hx, hb, hml, hown, hg⟩ (c_J9_min l dC dI G _ 9 (y3 + 1)) (kwS hg mfJ9_min_7cf53 wt_729 ⟨Nat.le_of_ble_eq_true rfl, Nat.le_of_ble_eq_true rfl⟩) (preSR hK hPc) rfl rfl hl.1 rfl (lv_room (Nat.le_of_ble_eq_true rfl)) dX1_cross_101 ⟨Nat.le_of_ble_eq_true rfl, Nat.le_of_ble_eq_true rfl⟩) hS (fun q h1 h2 => absurd h2 (Nat.not_le.mpr h1)) (fun q h => hA q (Nat.le_trans hS.1 h)) (fun r25 ur25 t H1 locs ht hvm w26 hB hz1 hk1 hS => ?_)
            have hP := keepR hP hk1
            obtain ⟨w26, w26x⟩ := w26
            subst w26
            refine va_put (D := (dC, dI)) (ci := 1) (v := .int (mn 9 (y3 + 1))) (ty := .int) (C := RX1) (T := TX1) (N := 3) hx hb hg inG1 tyX1 tyX1_ok nmX1 hown hK.1 hP hD hS 0 rfl rfl 0 (Nat.le_of_ble_eq_true rfl) (hg _ wt_198) (fun _ h9 => h9) rfl (by decide +kernel) rfl rfl (Nat.le_of_ble_eq_true rfl) dX1_cross_104 (fun H locs hP hD hS => ?_)
            exact cut107_20 (mn 9 (y3 + 1)) y4 _ _ hP hD hS ls (lv_sub hl [0, 1, 2, 3, 4] rfl)
          · skip
            refine lv_aload_n hx hb dX1_cross_69 rfl (lv_at hl 2 rfl) ?_
            refine lv_dup hx hb dX1_cross_70 rfl ?_
            refine va_get (D := (dC, dI)) (ci := 1) (v := .int y3) (C := RX1) (T := TX1) (N := 3) hx hb hg inG1 hown hK.1 hP 0 rfl rfl 0 (Nat.le_of_ble_eq_true rfl) (hg _ wt_198) (fun _ h9 => h9) rfl dX1_cross_71 ?_
            refine lv_iconst (v := 1) hx hb dX1_cross_74 rfl ?_
            refine lv_isub hx hb dX1_cross_75 ?_
            refine va_put (D := (dC, dI)) (ci := 1) (v := .int (y3 - 1)) (ty := .int) (C := RX1) (T := TX1) (N := 3) hx hb hg inG1 tyX1 tyX1_ok nmX1 hown hK.1 hP hD hS 0 rfl rfl 0 (Nat.le_of_ble_eq_true rfl) (hg _ wt_198) (fun _ h9 => h9) rfl (by decide +kernel) rfl rfl (Nat.le_of_ble_eq_true rfl) dX1_cross_76 (fun H locs hP hD hS => ?_)
            refine lv_aload_n hx hb dX1_cross_79 rfl (lv_at hl 2 rfl) ?_
            refine lv_dup hx hb dX1_cross_80 rfl ?_
            refine va_get (D := (dC, dI)) (ci := 1) (v := .int y4) (C := RX1) (T := TX1) (N := 3) hx hb hg inG1 hown hK.1 hP 0 rfl rfl 1 (Nat.le_of_ble_eq_true rfl) (hg _ wt_200) (fun _ h9 => h9) rfl dX1_cross_81 ?_
            refine lv_iconst (v := 1) hx hb dX1_cross_84 rfl ?_
            refine lv_iadd hx hb dX1_cross_85 ?_
            refine va_put (D := (dC, dI)) (ci := 1) (v := .int (y4 + 1)) (ty := .int) (C := RX1) (T := TX1) (N := 3) hx hb hg inG1 tyX1 tyX1_ok nmX1 hown hK.1 hP hD hS 0 rfl rfl 1 (Nat.le_of_ble_eq_true rfl) (hg _ wt_200) (fun _ h9 => h9) rfl (by decide +kernel) rfl rfl (Nat.le_of_ble_eq_true rfl) dX1_cross_86 (fun H locs hP hD hS => ?_)
            refine lv_goto (tgt := 107) hx hb dX1_cross_89 rfl ?_
            exact cut107_20 (y3 - 1) (y4 + 1) _ _ hP hD hS ls (lv_sub hl [0, 1, 2, 3, 4] rfl)
  exact loop24_6 (N + 1) 0 (by omega) (by omega) sd (nI D) 0 (-4) _ _ hP hD hS ls (lv_sub hl [0, 1, 2, 3, 4] rfl)

set_option maxHeartbeats 1000000 in
set_option maxRecDepth 100000 in
theorem c_X0_slot (l : Launch) (dC : Nat → ClassId) (dI : Nat → Nat → Nat) (G : Nat → ClassId) (sz : Nat) (d : Nat) (g : Int32) (hg0 : g.toInt = -4 ∨ (0 ≤ g.toInt ∧ g.toInt < 6)) (hd : d ≤ 9) : Met l yX0_slot (Cond.code yX0_slot cX0_slot 2 (some .int) :: GT) ({ frames := 0, cells := 0, slots := 0, locals := 0 } : Room) (PcR [.int g, .int (nI d)] dC dI G [] sz) (va_Qi (fun (r : Int32) (u : Unit) => match u with | _ => (r = nI (slotF g d)) ∧ True) (fun _ _ => True) (fun q : Nat => sz ≤ q)) 0 0 (fun q : Nat => sz ≤ q) := by
  refine Met.ofW (cc := cX0_slot) (maxL := 2) (ret := (some .int)) (by decide) rfl ?_
  intro p e s m args below meth c s₁ Bd hml hv
  obtain ⟨rfl, hsz, hP, hK⟩ := hv
  have hx := Bd.exec
  have hb := Bd.bytes
  have hr := Bd.returns
  have hg : ∀ w ∈ GT, w.before ([.int g, .int (nI d)] : List Value).toArray s = true := fun w h => atoms_spec (ws := Cond.code yX0_slot cX0_slot 2 (some .int) :: GT) Bd.pre w (List.mem_cons_of_mem _ h)
  have hown : s.vm.findClass RX0 = some m.cls := findClass_of_methodNamed Bd.named
  have hlocks := Bd.notSynchronized
  subst hsz
  have hA : ∀ q : Nat, s.heap.size ≤ q → (fun q : Nat => s.heap.size ≤ q) q := fun _ h => h
  have hS : va_S (fun q : Nat => s.heap.size ≤ q) s.heap s.heap [] := va_S.rf
  have hl := lv_entry ([.int g, .int (nI d)]) (n := 2) (Nat.le_of_ble_eq_true rfl)
  rw [lg_entry_eq]
  generalize (lg_sl ([.int g, .int (nI d)]) ++ List.replicate (2 - (lg_sl ([.int g, .int (nI d)])).length) Slot.unset).toArray = ls at hl ⊢
  have hl : lv_has ls 2 [(0, .int g), (1, .int (nI d))] := hl
  refine lv_iload_n hx hb dX0_slot_0 rfl (lv_at hl 0 rfl) ?_
  refine lv_bipush (v := (-4)) hx hb dX0_slot_1 rfl ?_
  refine lv_icmp_ne (tgt := 10) hx hb dX0_slot_3 rfl (fun c1 => ?_) (fun c1 => ?_)
  · skip
    obtain ⟨gg, hgg, rfl⟩ : ∃ j : Nat, j < 6 ∧ g = nI j := by
      have t_c1 := neI c1
      have : ((-4) : Int32).toInt = -4 := qI_m4
      have tn79_ : nIT d := fun _ => nI_toInt (by omega)
      have t_n0 : (nI d).toInt = (d : Int) := tn79_ ()
      exact i32_nat (by omega) (by omega)
    refine lv_iload_n hx hb dX0_slot_10 rfl (lv_at hl 0 rfl) ?_
    refine lv_iconst (v := 1) hx hb dX0_slot_11 rfl ?_
    refine lv_iadd hx hb dX0_slot_12 ?_
    refine lv_cg (y := nI (gg + 1)) (by rw [show (1 : Int32) = nI 1 from rfl]; exact nI_add _ _) ?_
    refine lv_bipush (v := 10) hx hb dX0_slot_13 rfl ?_
    refine lv_imul hx hb dX0_slot_15 ?_
    refine lv_cg (y := nI ((gg + 1) * 10)) (by rw [show (10 : Int32) = nI 10 from rfl]; exact pk_mul _ _) ?_
    refine lv_iload_n hx hb dX0_slot_16 rfl (lv_at hl 1 rfl) ?_
    refine lv_iadd hx hb dX0_slot_17 ?_
    refine lv_cg (y := nI (((gg + 1) * 10) + d)) (by exact nI_add _ _) ?_
    have hpost : (nI (((gg + 1) * 10) + d) : Int32) = nI (slotF (nI gg) d) := by
      unfold slotF
      rw [nI_clamp (by omega), if_neg (by first | with_reducible assumption | assumption)]
    refine W.widen (k := 0) (n := 0) (Nat.le_of_ble_eq_true rfl) (Nat.le_of_ble_eq_true rfl) ?_
    exact W.iret (v := nI (((gg + 1) * 10) + d)) hx hb hr (fun t ht hW => ⟨⟨nI (((gg + 1) * 10) + d), (), rfl, ⟨hpost, trivial⟩, trivial⟩, hS.F ht⟩) hS.2.2 dX0_slot_18
  · skip
    refine lv_iconst (v := 0) hx hb dX0_slot_6 rfl ?_
    refine lv_goto (tgt := 13) hx hb dX0_slot_7 rfl ?_
    refine lv_bipush (v := 10) hx hb dX0_slot_13 rfl ?_
    refine lv_imul hx hb dX0_slot_15 ?_
    refine lv_cg (y := 0) (by decide) ?_
    refine lv_iload_n hx hb dX0_slot_16 rfl (lv_at hl 1 rfl) ?_
    refine lv_iadd hx hb dX0_slot_17 ?_
    refine lv_cg (y := nI d) (by rw [show (0 : Int32) = nI 0 from rfl, nI_add, Nat.zero_add]) ?_
    have hpost : (nI d : Int32) = nI (slotF g d) := by
      unfold slotF
      rw [if_pos (by first | with_reducible assumption | assumption)]; simp
    refine W.widen (k := 0) (n := 0) (Nat.le_of_ble_eq_true rfl) (Nat.le_of_ble_eq_true rfl) ?_
    exact W.iret (v := nI d) hx hb hr (fun t ht hW => ⟨⟨nI d, (), rfl, ⟨hpost, trivial⟩, trivial⟩, hS.F ht⟩) hS.2.2 dX0_slot_18

set_option maxHeartbeats 1000000 in
set_option maxRecDepth 100000 in
theorem c_X0_weigh (l : Launch) (dC : Nat → ClassId) (dI : Nat → Nat → Nat) (G : Nat → ClassId) (sz : Nat) (h0 wk cs i k : Nat) (g x1 : Int32) (w0 : Int64) (rw rq : Nat → Nat) (F : Nat → Nat → Int64) (E : Nat → Nat → Int32) (hg0 : g.toInt = -4 ∨ (0 ≤ g.toInt ∧ g.toInt < 6)) (hi : i < 10) (hk : k < 6) : Met l yX0_weigh (Cond.code yX0_weigh cX0_weigh 12 none :: GT) ({ frames := 1, cells := 0, slots := 0, locals := 21 } : Room) (PcW [.ref h0, .int (nI i), .int g, .int (nI k), .int x1] dC dI G (([(h0, .inr (0, [.long w0, .ref wk, .ref cs])), (wk, .inl (G 5, 11, .inr (.inr (.inr (.inr (fun ir => if ir < 11 then some (rw ir) else none)))))), (cs, .inl (G 4, 10, .inr (.inr (.inr (.inr (fun ir => if ir < 10 then some (rq ir) else none))))))] : va_W) ++ ((((List.range 11).map (fun iq => (rw iq, .inl (G 1, 70, .inr (.inl (F iq)))))) : va_W) ++ ((((List.range 10).map (fun iq => (rq iq, .inl (G 0, 70, .inl (E iq))))) : va_W) ++ []))) sz) (va_Qv (fun (u : Int64 × (Nat → Nat → Int64) × (Nat → Nat → Int32)) => match u with | (u0, u1, u2) => True) (fun (u : Int64 × (Nat → Nat → Int64) × (Nat → Nat → Int32)) (t : State) => match u with | (u0, u1, u2) => va_P (dC, dI) vwCl (([(h0, .inr (0, [.long u0, .ref wk, .ref cs])), (wk, .inl (G 5, 11, .inr (.inr (.inr (.inr (fun ir => if ir < 11 then some (rw ir) else none)))))), (cs, .inl (G 4, 10, .inr (.inr (.inr (.inr (fun ir => if ir < 10 then some (rq ir) else none))))))] : va_W) ++ ((((List.range 11).map (fun iq => (rw iq, .inl (G 1, 70, .inr (.inl (u1 iq)))))) : va_W) ++ ((((List.range 10).map (fun iq => (rq iq, .inl (G 0, 70, .inl (u2 iq))))) : va_W) ++ []))) t.heap ∧ va_D (va_A (([(h0, .inr (0, [.long w0, .ref wk, .ref cs])), (wk, .inl (G 5, 11, .inr (.inr (.inr (.inr (fun ir => if ir < 11 then some (rw ir) else none)))))), (cs, .inl (G 4, 10, .inr (.inr (.inr (.inr (fun ir => if ir < 10 then some (rq ir) else none))))))] : va_W) ++ ((((List.range 11).map (fun iq => (rw iq, .inl (G 1, 70, .inr (.inl (F iq)))))) : va_W) ++ ((((List.range 10).map (fun iq => (rq iq, .inl (G 0, 70, .inl (E iq))))) : va_W) ++ []))) sz) (([(h0, .inr (0, [.long u0, .ref wk, .ref cs])), (wk, .inl (G 5, 11, .inr (.inr (.inr (.inr (fun ir => if ir < 11 then some (rw ir) else none)))))), (cs, .inl (G 4, 10, .inr (.inr (.inr (.inr (fun ir => if ir < 10 then some (rq ir) else none))))))] : va_W) ++ ((((List.range 11).map (fun iq => (rw iq, .inl (G 1, 70, .inr (.inl (u1 iq)))))) : va_W) ++ ((((List.range 10).map (fun iq => (rq iq, .inl (G 0, 70, .inl (u2 iq))))) : va_W) ++ [])))) (va_A (([(h0, .inr (0, [.long w0, .ref wk, .ref cs])), (wk, .inl (G 5, 11, .inr (.inr (.inr (.inr (fun ir => if ir < 11 then some (rw ir) else none)))))), (cs, .inl (G 4, 10, .inr (.inr (.inr (.inr (fun ir => if ir < 10 then some (rq ir) else none))))))] : va_W) ++ ((((List.range 11).map (fun iq => (rw iq, .inl (G 1, 70, .inr (.inl (F iq)))))) : va_W) ++ ((((List.range 10).map (fun iq => (rq iq, .inl (G 0, 70, .inl (E iq))))) : va_W) ++ []))) sz)) 0 0 (va_A (([(h0, .inr (0, [.long w0, .ref wk, .ref cs])), (wk, .inl (G 5, 11, .inr (.inr (.inr (.inr (fun ir => if ir < 11 then some (rw ir) else none)))))), (cs, .inl (G 4, 10, .inr (.inr (.inr (.inr (fun ir => if ir < 10 then some (rq ir) else none))))))] : va_W) ++ ((((List.range 11).map (fun iq => (rw iq, .inl (G 1, 70, .inr (.inl (F iq)))))) : va_W) ++ ((((List.range 10).map (fun iq => (rq iq, .inl (G 0, 70, .inl (E iq))))) : va_W) ++ []))) sz) := by
  refine Met.ofW (cc := cX0_weigh) (maxL := 12) (ret := none) (by decide) rfl ?_
  intro p e s m args below meth c s₁ Bd hml hv
  obtain ⟨rfl, hsz, hP, hK, hD0⟩ := hv
  have hx := Bd.exec
  have hb := Bd.bytes
  have hr := Bd.returns
  have hg : ∀ w ∈ GT, w.before ([.ref h0, .int (nI i), .int g, .int (nI k), .int x1] : List Value).toArray s = true := fun w h => atoms_spec (ws := Cond.code yX0_weigh cX0_weigh 12 none :: GT) Bd.pre w (List.mem_cons_of_mem _ h)
  have hown : s.vm.findClass RX0 = some m.cls := findClass_of_methodNamed Bd.named
  have hlocks := Bd.notSynchronized
  subst hsz
  have hD := hD0.self (sz := s.heap.size)
  generalize hAe : va_A (([(h0, .inr (0, [.long w0, .ref wk, .ref cs])), (wk, .inl (G 5, 11, .inr (.inr (.inr (.inr (fun ir => if ir < 11 then some (rw ir) else none)))))), (cs, .inl (G 4, 10, .inr (.inr (.inr (.inr (fun ir => if ir < 10 then some (rq ir) else none))))))] : va_W) ++ ((((List.range 11).map (fun iq => (rw iq, .inl (G 1, 70, .inr (.inl (F iq)))))) : va_W) ++ ((((List.range 10).map (fun iq => (rq iq, .inl (G 0, 70, .inl (E iq))))) : va_W) ++ []))) s.heap.size = A at hD ⊢
  have hA : ∀ q : Nat, s.heap.size ≤ q → A q := fun q h => by rw [← hAe]; exact Or.inr h
  have hS : va_S A s.heap s.heap [] := va_S.rf
  have hl := lv_entry ([.ref h0, .int (nI i), .int g, .int (nI k), .int x1]) (n := 12) (Nat.le_of_ble_eq_true rfl)
  rw [lg_entry_eq]
  generalize (lg_sl ([.ref h0, .int (nI i), .int g, .int (nI k), .int x1]) ++ List.replicate (12 - (lg_sl ([.ref h0, .int (nI i), .int g, .int (nI k), .int x1])).length) Slot.unset).toArray = ls at hl ⊢
  have hl : lv_has ls 12 [(0, .ref h0), (1, .int (nI i)), (2, .int g), (3, .int (nI k)), (4, .int x1)] := hl
  refine lv_iconst (v := 1) hx hb dX0_weigh_0 rfl ?_
  refine lv_istore (lv' := [(5, .int 1), (0, .ref h0), (1, .int (nI i)), (2, .int g), (3, .int (nI k)), (4, .int x1)]) hx hb dX0_weigh_1 hl (by decide) rfl (fun ls hl => ?_)
  have loop3_4 : ∀ (nf j1 : Nat), 10 + 1 ≤ j1 + nf → j1 ≤ 10 → 1 ≤ j1 → ∀ (g2 : Nat → Nat → Int64) (g3 : Nat → Nat → Int32) (H : Heap) (locs : List Loc), va_P (dC, dI) vwCl (([(h0, .inr (0, [.long w0, .ref wk, .ref cs])), (wk, .inl (G 5, 11, .inr (.inr (.inr (.inr (fun ir => if ir < 11 then some (rw ir) else none)))))), (cs, .inl (G 4, 10, .inr (.inr (.inr (.inr (fun ir => if ir < 10 then some (rq ir) else none))))))] : va_W) ++ ((((List.range 11).map (fun iq => (rw iq, .inl (G 1, 70, .inr (.inl (g2 iq)))))) : va_W) ++ ((((List.range 10).map (fun iq => (rq iq, .inl (G 0, 70, .inl (g3 iq))))) : va_W) ++ []))) H → va_D A (([(h0, .inr (0, [.long w0, .ref wk, .ref cs])), (wk, .inl (G 5, 11, .inr (.inr (.inr (.inr (fun ir => if ir < 11 then some (rw ir) else none)))))), (cs, .inl (G 4, 10, .inr (.inr (.inr (.inr (fun ir => if ir < 10 then some (rq ir) else none))))))] : va_W) ++ ((((List.range 11).map (fun iq => (rw iq, .inl (G 1, 70, .inr (.inl (g2 iq)))))) : va_W) ++ ((((List.range 10).map (fun iq => (rq iq, .inl (G 0, 70, .inl (g3 iq))))) : va_W) ++ []))) → va_S A s.heap H locs → ∀ (ls : Array Slot), lv_has ls 12 [(5, .int (nI j1)), (0, .ref h0), (1, .int (nI i)), (2, .int g), (3, .int (nI k)), (4, .int x1)] → W p l e (headSpec (Cond.code yX0_weigh cX0_weigh 12 none :: GT) ({ frames := 1, cells := 0, slots := 0, locals := 21 } : Room)).room s m ([.ref h0, .int (nI i), .int g, .int (nI k), .int x1] : List Value).toArray below meth c H locs 0 0 (MQ below (va_Qv (fun (u : Int64 × (Nat → Nat → Int64) × (Nat → Nat → Int32)) => match u with | (u0, u1, u2) => True) (fun (u : Int64 × (Nat → Nat → Int64) × (Nat → Nat → Int32)) (t : State) => match u with | (u0, u1, u2) => va_P (dC, dI) vwCl (([(h0, .inr (0, [.long u0, .ref wk, .ref cs])), (wk, .inl (G 5, 11, .inr (.inr (.inr (.inr (fun ir => if ir < 11 then some (rw ir) else none)))))), (cs, .inl (G 4, 10, .inr (.inr (.inr (.inr (fun ir => if ir < 10 then some (rq ir) else none))))))] : va_W) ++ ((((List.range 11).map (fun iq => (rw iq, .inl (G 1, 70, .inr (.inl (u1 iq)))))) : va_W) ++ ((((List.range 10).map (fun iq => (rq iq, .inl (G 0, 70, .inl (u2 iq))))) : va_W) ++ []))) t.heap ∧ va_D A (([(h0, .inr (0, [.long u0, .ref wk, .ref cs])), (wk, .inl (G 5, 11, .inr (.inr (.inr (.inr (fun ir => if ir < 11 then some (rw ir) else none)))))), (cs, .inl (G 4, 10, .inr (.inr (.inr (.inr (fun ir => if ir < 10 then some (rq ir) else none))))))] : va_W) ++ ((((List.range 11).map (fun iq => (rw iq, .inl (G 1, 70, .inr (.inl (u1 iq)))))) : va_W) ++ ((((List.range 10).map (fun iq => (rq iq, .inl (G 0, 70, .inl (u2 iq))))) : va_W) ++ [])))) A) ([.ref h0, .int (nI i), .int g, .int (nI k), .int x1] : List Value).toArray s 0 0 A) (F0 m 3 ls []) := by
    intro nf
    induction nf with
    | zero => intro j1 h1 h2; exact absurd h1 (by omega)
    | succ nf ih3_4 =>
      intro j1 hn5 hj6 hlo_j1 g2 g3 H locs hP hD hS ls hl
      refine lv_iload hx hb dX0_weigh_3 (lv_at hl 0 rfl) ?_
      refine lv_bipush (v := 10) hx hb dX0_weigh_5 rfl ?_
      refine lv_icmp_ge (tgt := 125) hx hb dX0_weigh_7 rfl (fun c7 => ?_) (fun c7 => ?_)
      · skip
        have tn80_ : nIT j1 := fun _ => nI_toInt (by first | omega | (have t := leI c7; omega))
        have n8 : 10 ≤ j1 := by have t := leI c7; rw [show (nI (j1)).toInt = ((j1 : Nat) : Int) from tn80_ ()] at t; have : (10 : Int32).toInt = 10 := qI_10; omega
        obtain ⟨hP9, hD9⟩ := va_sub2 (ws' := (([(h0, .inr (0, [.long w0, .ref wk, .ref cs])), (wk, .inl (G 5, 11, .inr (.inr (.inr (.inr (fun ir => if ir < 11 then some (rw ir) else none)))))), (cs, .inl (G 4, 10, .inr (.inr (.inr (.inr (fun ir => if ir < 10 then some (rq ir) else none))))))] : va_W) ++ ((((List.range 11).map (fun iq => (rw iq, .inl (G 1, 70, .inr (.inl (g2 iq)))))) : va_W) ++ ((((List.range 10).map (fun iq => (rq iq, .inl (G 0, 70, .inl (g3 iq))))) : va_W) ++ [])))) hP hD [0, 1, 2, 3, 4, 5, 6, 7, 8, 9, 10, 11, 12, 13, 14, 15, 16, 17, 18, 19, 20, 21, 22, 23] (by decide +kernel) rfl
        refine W.widen (k := 0) (n := 0) (Nat.le_of_ble_eq_true rfl) (Nat.le_of_ble_eq_true rfl) ?_
        exact W.vret hx hb hr (fun t ht hW => ⟨⟨(w0, g2, g3), rfl, trivial, ⟨by rw [ht]; exact hP9, hD9⟩⟩, hS.F ht⟩) hS.2.2 dX0_weigh_125
      · skip
        have tn81_ : nIT j1 := fun _ => nI_toInt (by first | omega | (have t := nleI c7; omega))
        have n9 : j1 < 10 := by have t := nleI c7; rw [show (nI (j1)).toInt = ((j1 : Nat) : Int) from tn81_ ()] at t; have : (10 : Int32).toInt = 10 := qI_10; omega
        refine lv_aload_n hx hb dX0_weigh_10 rfl (lv_at hl 1 rfl) ?_
        refine va_get (D := (dC, dI)) (ci := 0) (v := .ref wk) (C := RX0) (T := TX0) (N := 3) hx hb hg inG0 hown hK.1 hP 0 rfl rfl 1 (Nat.le_of_ble_eq_true rfl) (hg _ wt_182) (fun _ h9 => h9) rfl dX0_weigh_11 ?_
        refine lv_iload_n hx hb dX0_weigh_14 rfl (lv_at hl 2 rfl) ?_
        refine lv_iconst (v := 1) hx hb dX0_weigh_15 rfl ?_
        refine lv_iadd hx hb dX0_weigh_16 ?_
        refine lv_cg (y := nI (i + 1)) (by rw [show (1 : Int32) = nI 1 from rfl]; exact nI_add _ _) ?_
        have tn82_ : nIT i := fun _ => nI_toInt (by first | omega | (have t_hj6 := hj6; have t_hlo_j1 := hlo_j1; have t_n9 := n9; omega))
        have tn83_ : nIT k := fun _ => nI_toInt (by first | omega | (have t_hj6 := hj6; have t_hlo_j1 := hlo_j1; have t_n9 := n9; omega))
        refine va_aldA hx hb hK.1 hP 1 5 rfl rfl (vp_in_nI (by first | omega | (have t_hj6 := hj6; have t_hlo_j1 := hlo_j1; have t_n9 := n9; have tnb_ := nib3 tn82_ tn83_ tn81_; omega)) (by decide)) dX0_weigh_17 ?_
        refine lv_cgv (y := .ref (rw (i + 1))) (rowref (by first | omega | (have t_hj6 := hj6; have t_hlo_j1 := hlo_j1; have t_n9 := n9; have tnb_ := nib3 tn82_ tn83_ tn81_; omega)) (by decide)) ?_
        refine lv_iload_n hx hb dX0_weigh_18 rfl (lv_at hl 4 rfl) ?_
        refine lv_iload hx hb dX0_weigh_19 (lv_at hl 0 rfl) ?_
        refine lv_iconst (v := 1) hx hb dX0_weigh_21 rfl ?_
        refine lv_isub hx hb dX0_weigh_22 ?_
        refine lv_cg (y := nI (j1 - 1)) (by rw [show (1 : Int32) = nI 1 from rfl]; exact pk_sub (by have t_hj6 := hj6; have t_hlo_j1 := hlo_j1; have t_n9 := n9; have tnb_ := nib3 tn82_ tn83_ tn81_; omega)) ?_
        have hPc := hP.sub (ws' := []) [] rfl
        refine va_calli (va_runS (As := [.int (nI k), .int (nI (j1 - 1))]) (rest := [.ref (rw (i + 1))]) ⟨hx, hb, hml, hown, hg⟩ (c_X0_slot l dC dI G _ (j1 - 1) (nI k) (by have t_hj6 := hj6; have t_hlo_j1 := hlo_j1; have t_n9 := n9; have tnb_ := nib3 tn82_ tn83_ tn81_; omega) (by first | omega | (have t_hj6 := hj6; have t_hlo_j1 := hlo_j1; have t_n9 := n9; have tnb_ := nib3 tn82_ tn83_ tn81_; omega))) (kwS hg mfX0_slot wt_666 ⟨Nat.le_of_ble_eq_true rfl, Nat.le_of_ble_eq_true rfl⟩) (preSR hK hPc) rfl rfl hl.1 rfl (lv_room (Nat.le_of_ble_eq_true rfl)) dX0_weigh_23 ⟨Nat.le_of_ble_eq_true rfl, Nat.le_of_ble_eq_true rfl⟩) hS (fun q h1 h2 => absurd h2 (Nat.not_le.mpr h1)) (fun q h => hA q (Nat.le_trans hS.1 h)) (fun r10 ur10 t H1 locs ht hvm w11 hB hz1 hk1 hS => ?_)
        have hP := keepR hP hk1
        obtain ⟨w11, w11x⟩ := w11
        have hs12 : slotF (nI k) (j1 - 1) < 70 := slotF_lt (by have t_hj6 := hj6; have t_hlo_j1 := hlo_j1; have t_n9 := n9; have tnb_ := nib3 tn82_ tn83_ tn81_; omega) (by have t_hj6 := hj6; have t_hlo_j1 := hlo_j1; have t_n9 := n9; have tnb_ := nib3 tn82_ tn83_ tn81_; omega)
        subst w11
        refine va_lald hx hb hK.1 (blk_P (j := (i + 1)) hP (by first | omega | (have t_hj6 := hj6; have t_hlo_j1 := hlo_j1; have t_n9 := n9; have t_hs12 := hs12; have tnb_ := nib3 tn82_ tn83_ tn81_; omega))) 0 1 rfl rfl (vp_in_nI (by first | omega | (have t_hj6 := hj6; have t_hlo_j1 := hlo_j1; have t_n9 := n9; have t_hs12 := hs12; have tnb_ := nib3 tn82_ tn83_ tn81_; omega)) (by decide)) dX0_weigh_26 ?_
        refine lv_cgl (y := g2 (i + 1) (slotF (nI k) (j1 - 1))) (by rw [nI_clamp (by first | omega | (have t_hj6 := hj6; have t_hlo_j1 := hlo_j1; have t_n9 := n9; have t_hs12 := hs12; have tnb_ := nib3 tn82_ tn83_ tn81_; omega))]) ?_
        refine lv_lstore (lv' := [(6, .long (g2 (i + 1) (slotF (nI k) (j1 - 1)))), (5, .int (nI j1)), (0, .ref h0), (1, .int (nI i)), (2, .int g), (3, .int (nI k)), (4, .int x1)]) hx hb dX0_weigh_27 hl (by decide) rfl (fun ls hl => ?_)
        refine lv_aload_n hx hb dX0_weigh_29 rfl (lv_at hl 2 rfl) ?_
        refine va_get (D := (dC, dI)) (ci := 0) (v := .ref wk) (C := RX0) (T := TX0) (N := 3) hx hb hg inG0 hown hK.1 hP 0 rfl rfl 1 (Nat.le_of_ble_eq_true rfl) (hg _ wt_182) (fun _ h9 => h9) rfl dX0_weigh_30 ?_
        refine lv_iload_n hx hb dX0_weigh_33 rfl (lv_at hl 3 rfl) ?_
        refine lv_iconst (v := 1) hx hb dX0_weigh_34 rfl ?_
        refine lv_iadd hx hb dX0_weigh_35 ?_
        refine lv_cg (y := nI (i + 1)) (by rw [show (1 : Int32) = nI 1 from rfl]; exact nI_add _ _) ?_
        refine va_aldA hx hb hK.1 hP 1 5 rfl rfl (vp_in_nI (by first | omega | (have t_hj6 := hj6; have t_hlo_j1 := hlo_j1; have t_n9 := n9; have t_hs12 := hs12; have tnb_ := nib3 tn82_ tn83_ tn81_; omega)) (by decide)) dX0_weigh_36 ?_
        refine lv_cgv (y := .ref (rw (i + 1))) (rowref (by first | omega | (have t_hj6 := hj6; have t_hlo_j1 := hlo_j1; have t_n9 := n9; have t_hs12 := hs12; have tnb_ := nib3 tn82_ tn83_ tn81_; omega)) (by decide)) ?_
        refine lv_iload_n hx hb dX0_weigh_37 rfl (lv_at hl 5 rfl) ?_
        refine lv_bipush (v := 9) hx hb dX0_weigh_38 rfl ?_
        refine lv_iload hx hb dX0_weigh_40 (lv_at hl 1 rfl) ?_
        refine lv_iconst (v := 1) hx hb dX0_weigh_42 rfl ?_
        refine lv_iadd hx hb dX0_weigh_43 ?_
        refine lv_cg (y := nI (j1 + 1)) (by rw [show (1 : Int32) = nI 1 from rfl]; exact nI_add _ _) ?_
        have hPc := hP.sub (ws' := []) [] rfl
        refine va_calli (va_runS (As := [.int 9, .int (nI (j1 + 1))]) (rest := [.int (nI k), .ref (rw (i + 1))]) ⟨hx, hb, hml, hown, hg⟩ (c_J9_min l dC dI G _ 9 (nI (j1 + 1))) (kwS hg mfJ9_min_7cf53 wt_675 ⟨Nat.le_of_ble_eq_true rfl, Nat.le_of_ble_eq_true rfl⟩) (preSR hK hPc) rfl rfl hl.1 rfl (lv_room (Nat.le_of_ble_eq_true rfl)) dX0_weigh_44 ⟨Nat.le_of_ble_eq_true rfl, Nat.le_of_ble_eq_true rfl⟩) hS (fun q h1 h2 => absurd h2 (Nat.not_le.mpr h1)) (fun q h => hA q (Nat.le_trans hS.1 h)) (fun r13 ur13 t H1 locs ht hvm w14 hB hz1 hk1 hS => ?_)
        have hP := keepR hP hk1
        obtain ⟨w14, w14x⟩ := w14
        have w14 : r13 = nI (min 9 (j1 + 1)) := w14.trans (mn_nI (a := 9) (b := (j1 + 1)) (by omega) (by omega))
        subst w14
        have hPc := hP.sub (ws' := []) [] rfl
        refine va_calli (va_runS (As := [.int (nI k), .int (nI (min 9 (j1 + 1)))]) (rest := [.ref (rw (i + 1))]) ⟨hx, hb, hml, hown, hg⟩ (c_X0_slot l dC dI G _ (min 9 (j1 + 1)) (nI k) (by have t_hj6 := hj6; have t_hlo_j1 := hlo_j1; have t_n9 := n9; have t_hs12 := hs12; have tnb_ := nib3 tn82_ tn83_ tn81_; omega) (by first | omega | (have t_hj6 := hj6; have t_hlo_j1 := hlo_j1; have t_n9 := n9; have t_hs12 := hs12; have tnb_ := nib3 tn82_ tn83_ tn81_; omega))) (kwS hg mfX0_slot wt_666 ⟨Nat.le_of_ble_eq_true rfl, Nat.le_of_ble_eq_true rfl⟩) (preSR hK hPc) rfl rfl hl.1 rfl (lv_room (Nat.le_of_ble_eq_true rfl)) dX0_weigh_47 ⟨Nat.le_of_ble_eq_true rfl, Nat.le_of_ble_eq_true rfl⟩) hS (fun q h1 h2 => absurd h2 (Nat.not_le.mpr h1)) (fun q h => hA q (Nat.le_trans hS.1 h)) (fun r15 ur15 t H1 locs ht hvm w16 hB hz1 hk1 hS => ?_)
        have hP := keepR hP hk1
        obtain ⟨w16, w16x⟩ := w16
        have hs17 : slotF (nI k) (min 9 (j1 + 1)) < 70 := slotF_lt (by have t_hj6 := hj6; have t_hlo_j1 := hlo_j1; have t_n9 := n9; have t_hs12 := hs12; have tnb_ := nib3 tn82_ tn83_ tn81_; omega) (by have t_hj6 := hj6; have t_hlo_j1 := hlo_j1; have t_n9 := n9; have t_hs12 := hs12; have tnb_ := nib3 tn82_ tn83_ tn81_; omega)
        subst w16
        refine va_lald hx hb hK.1 (blk_P (j := (i + 1)) hP (by first | omega | (have t_hj6 := hj6; have t_hlo_j1 := hlo_j1; have t_n9 := n9; have t_hs12 := hs12; have t_hs17 := hs17; have tnb_ := nib3 tn82_ tn83_ tn81_; omega))) 0 1 rfl rfl (vp_in_nI (by first | omega | (have t_hj6 := hj6; have t_hlo_j1 := hlo_j1; have t_n9 := n9; have t_hs12 := hs12; have t_hs17 := hs17; have tnb_ := nib3 tn82_ tn83_ tn81_; omega)) (by decide)) dX0_weigh_50 ?_
        refine lv_cgl (y := g2 (i + 1) (slotF (nI k) (min 9 (j1 + 1)))) (by rw [nI_clamp (by first | omega | (have t_hj6 := hj6; have t_hlo_j1 := hlo_j1; have t_n9 := n9; have t_hs12 := hs12; have t_hs17 := hs17; have tnb_ := nib3 tn82_ tn83_ tn81_; omega))]) ?_
        refine lv_lstore (lv' := [(8, .long (g2 (i + 1) (slotF (nI k) (min 9 (j1 + 1))))), (6, .long (g2 (i + 1) (slotF (nI k) (j1 - 1)))), (5, .int (nI j1)), (0, .ref h0), (1, .int (nI i)), (2, .int g), (3, .int (nI k)), (4, .int x1)]) hx hb dX0_weigh_51 hl (by decide) rfl (fun ls hl => ?_)
        refine lv_lload hx hb dX0_weigh_53 (lv_at hl 1 rfl) ?_
        refine lv_iload hx hb dX0_weigh_55 (lv_at hl 7 rfl) ?_
        refine lv_i2l (v := x1.toInt64) hx hb dX0_weigh_57 rfl ?_
        refine lv_lmul hx hb dX0_weigh_58 ?_
        refine lv_topl (fun v18 ev18 => ?_)
        refine lv_lload hx hb dX0_weigh_59 (lv_at hl 0 rfl) ?_
        refine lv_bipush (v := 20) hx hb dX0_weigh_61 rfl ?_
        refine lv_iload hx hb dX0_weigh_63 (lv_at hl 7 rfl) ?_
        refine lv_isub hx hb dX0_weigh_65 ?_
        refine lv_i2l (v := (20 - x1).toInt64) hx hb dX0_weigh_66 rfl ?_
        refine lv_lmul hx hb dX0_weigh_67 ?_
        refine lv_topl (fun v19 ev19 => ?_)
        refine lv_ladd hx hb dX0_weigh_68 ?_
        refine lv_lstore (lv' := [(10, .long (v18 + v19)), (8, .long (g2 (i + 1) (slotF (nI k) (min 9 (j1 + 1))))), (6, .long (g2 (i + 1) (slotF (nI k) (j1 - 1)))), (5, .int (nI j1)), (0, .ref h0), (1, .int (nI i)), (2, .int g), (3, .int (nI k)), (4, .int x1)]) hx hb dX0_weigh_69 hl (by decide) rfl (fun ls hl => ?_)
        refine lv_lload hx hb dX0_weigh_71 (lv_at hl 0 rfl) ?_
        refine lv_aload_n hx hb dX0_weigh_73 rfl (lv_at hl 4 rfl) ?_
        refine va_get (D := (dC, dI)) (ci := 0) (v := .ref wk) (C := RX0) (T := TX0) (N := 3) hx hb hg inG0 hown hK.1 hP 0 rfl rfl 1 (Nat.le_of_ble_eq_true rfl) (hg _ wt_182) (fun _ h9 => h9) rfl dX0_weigh_74 ?_
        refine lv_iload_n hx hb dX0_weigh_77 rfl (lv_at hl 5 rfl) ?_
        refine va_aldA hx hb hK.1 hP 1 5 rfl rfl (vp_in_nI (by first | omega | (have t_hj6 := hj6; have t_hlo_j1 := hlo_j1; have t_n9 := n9; have t_hs12 := hs12; have t_hs17 := hs17; have tnb_ := nib3 tn82_ tn83_ tn81_; omega)) (by decide)) dX0_weigh_78 ?_
        refine lv_cgv (y := .ref (rw i)) (rowref (by first | omega | (have t_hj6 := hj6; have t_hlo_j1 := hlo_j1; have t_n9 := n9; have t_hs12 := hs12; have t_hs17 := hs17; have tnb_ := nib3 tn82_ tn83_ tn81_; omega)) (by decide)) ?_
        refine lv_iload_n hx hb dX0_weigh_79 rfl (lv_at hl 6 rfl) ?_
        refine lv_iload hx hb dX0_weigh_80 (lv_at hl 3 rfl) ?_
        have hPc := hP.sub (ws' := []) [] rfl
        refine va_calli (va_runS (As := [.int g, .int (nI j1)]) (rest := [.ref (rw i), .long (v18 + v19)]) ⟨hx, hb, hml, hown, hg⟩ (c_X0_slot l dC dI G _ j1 g hg0 (by first | omega | (have t_hj6 := hj6; have t_hlo_j1 := hlo_j1; have t_n9 := n9; have t_hs12 := hs12; have t_hs17 := hs17; have tnb_ := nib3 tn82_ tn83_ tn81_; omega))) (kwS hg mfX0_slot wt_666 ⟨Nat.le_of_ble_eq_true rfl, Nat.le_of_ble_eq_true rfl⟩) (preSR hK hPc) rfl rfl hl.1 rfl (lv_room (Nat.le_of_ble_eq_true rfl)) dX0_weigh_82 ⟨Nat.le_of_ble_eq_true rfl, Nat.le_of_ble_eq_true rfl⟩) hS (fun q h1 h2 => absurd h2 (Nat.not_le.mpr h1)) (fun q h => hA q (Nat.le_trans hS.1 h)) (fun r20 ur20 t H1 locs ht hvm w21 hB hz1 hk1 hS => ?_)
        have hP := keepR hP hk1
        obtain ⟨w21, w21x⟩ := w21
        have hs22 : slotF g j1 < 70 := slotF_lt (by have t_hj6 := hj6; have t_hlo_j1 := hlo_j1; have t_n9 := n9; have t_hs12 := hs12; have t_hs17 := hs17; have tnb_ := nib3 tn82_ tn83_ tn81_; omega) (by have t_hj6 := hj6; have t_hlo_j1 := hlo_j1; have t_n9 := n9; have t_hs12 := hs12; have t_hs17 := hs17; have tnb_ := nib3 tn82_ tn83_ tn81_; omega)
        subst w21
        refine va_lald hx hb hK.1 (blk_P (j := i) hP (by first | omega | (have t_hj6 := hj6; have t_hlo_j1 := hlo_j1; have t_n9 := n9; have t_hs12 := hs12; have t_hs17 := hs17; have t_hs22 := hs22; have tnb_ := nib3 tn82_ tn83_ tn81_; omega))) 0 1 rfl rfl (vp_in_nI (by first | omega | (have t_hj6 := hj6; have t_hlo_j1 := hlo_j1; have t_n9 := n9; have t_hs12 := hs12; have t_hs17 := hs17; have t_hs22 := hs22; have tnb_ := nib3 tn82_ tn83_ tn81_; omega)) (by decide)) dX0_weigh_85 ?_
        refine lv_cgl (y := g2 i (slotF g j1)) (by rw [nI_clamp (by first | omega | (have t_hj6 := hj6; have t_hlo_j1 := hlo_j1; have t_n9 := n9; have t_hs12 := hs12; have t_hs17 := hs17; have t_hs22 := hs22; have tnb_ := nib3 tn82_ tn83_ tn81_; omega))]) ?_
        refine W.lcmp hx hb dX0_weigh_86 ?_
        have cut119_25 : ∀ (g23 : Nat → Nat → Int64) (g24 : Nat → Nat → Int32) (H : Heap) (locs : List Loc), va_P (dC, dI) vwCl (([(h0, .inr (0, [.long w0, .ref wk, .ref cs])), (wk, .inl (G 5, 11, .inr (.inr (.inr (.inr (fun ir => if ir < 11 then some (rw ir) else none)))))), (cs, .inl (G 4, 10, .inr (.inr (.inr (.inr (fun ir => if ir < 10 then some (rq ir) else none))))))] : va_W) ++ ((((List.range 11).map (fun iq => (rw iq, .inl (G 1, 70, .inr (.inl (g23 iq)))))) : va_W) ++ ((((List.range 10).map (fun iq => (rq iq, .inl (G 0, 70, .inl (g24 iq))))) : va_W) ++ []))) H → va_D A (([(h0, .inr (0, [.long w0, .ref wk, .ref cs])), (wk, .inl (G 5, 11, .inr (.inr (.inr (.inr (fun ir => if ir < 11 then some (rw ir) else none)))))), (cs, .inl (G 4, 10, .inr (.inr (.inr (.inr (fun ir => if ir < 10 then some (rq ir) else none))))))] : va_W) ++ ((((List.range 11).map (fun iq => (rw iq, .inl (G 1, 70, .inr (.inl (g23 iq)))))) : va_W) ++ ((((List.range 10).map (fun iq => (rq iq, .inl (G 0, 70, .inl (g24 iq))))) : va_W) ++ []))) → va_S A s.heap H locs → ∀ (ls : Array Slot), lv_has ls 12 [(10, .long (v18 + v19)), (8, .long (g2 (i + 1) (slotF (nI k) (min 9 (j1 + 1))))), (6, .long (g2 (i + 1) (slotF (nI k) (j1 - 1)))), (5, .int (nI j1)), (0, .ref h0), (1, .int (nI i)), (2, .int g), (3, .int (nI k)), (4, .int x1)] → W p l e (headSpec (Cond.code yX0_weigh cX0_weigh 12 none :: GT) ({ frames := 1, cells := 0, slots := 0, locals := 21 } : Room)).room s m ([.ref h0, .int (nI i), .int g, .int (nI k), .int x1] : List Value).toArray below meth c H locs 0 0 (MQ below (va_Qv (fun (u : Int64 × (Nat → Nat → Int64) × (Nat → Nat → Int32)) => match u with | (u0, u1, u2) => True) (fun (u : Int64 × (Nat → Nat → Int64) × (Nat → Nat → Int32)) (t : State) => match u with | (u0, u1, u2) => va_P (dC, dI) vwCl (([(h0, .inr (0, [.long u0, .ref wk, .ref cs])), (wk, .inl (G 5, 11, .inr (.inr (.inr (.inr (fun ir => if ir < 11 then some (rw ir) else none)))))), (cs, .inl (G 4, 10, .inr (.inr (.inr (.inr (fun ir => if ir < 10 then some (rq ir) else none))))))] : va_W) ++ ((((List.range 11).map (fun iq => (rw iq, .inl (G 1, 70, .inr (.inl (u1 iq)))))) : va_W) ++ ((((List.range 10).map (fun iq => (rq iq, .inl (G 0, 70, .inl (u2 iq))))) : va_W) ++ []))) t.heap ∧ va_D A (([(h0, .inr (0, [.long u0, .ref wk, .ref cs])), (wk, .inl (G 5, 11, .inr (.inr (.inr (.inr (fun ir => if ir < 11 then some (rw ir) else none)))))), (cs, .inl (G 4, 10, .inr (.inr (.inr (.inr (fun ir => if ir < 10 then some (rq ir) else none))))))] : va_W) ++ ((((List.range 11).map (fun iq => (rw iq, .inl (G 1, 70, .inr (.inl (u1 iq)))))) : va_W) ++ ((((List.range 10).map (fun iq => (rq iq, .inl (G 0, 70, .inl (u2 iq))))) : va_W) ++ [])))) A) ([.ref h0, .int (nI i), .int g, .int (nI k), .int x1] : List Value).toArray s 0 0 A) (F0 m 119 ls []) := by
          intro g23 g24 H locs hP hD hS ls hl
          refine lv_iinc (v := nI (j1 + 1)) (lv' := [(5, .int (nI (j1 + 1))), (10, .long (v18 + v19)), (8, .long (g2 (i + 1) (slotF (nI k) (min 9 (j1 + 1))))), (6, .long (g2 (i + 1) (slotF (nI k) (j1 - 1)))), (0, .ref h0), (1, .int (nI i)), (2, .int g), (3, .int (nI k)), (4, .int x1)]) hx hb dX0_weigh_119 hl (k := 3) rfl (by rw [show Int32.ofInt 1 = nI 1 from by decide]; exact nI_add _ _) (by decide) rfl (fun ls hl => ?_)
          refine lv_goto (tgt := 3) hx hb dX0_weigh_122 rfl ?_
          exact ih3_4 (j1 + 1) (by omega) (by omega) (by omega) g23 g24 _ _ hP hD hS ls (lv_sub hl [0, 4, 5, 6, 7, 8] rfl)
        refine lv_if_ge (tgt := 119) hx hb dX0_weigh_87 rfl (fun c26 => ?_) (fun c26 => ?_)
        · skip
          exact cut119_25 g2 g3 _ _ hP hD hS ls (lv_sub hl [0, 1, 2, 3, 4, 5, 6, 7, 8] rfl)
        · skip
          refine lv_aload_n hx hb dX0_weigh_90 rfl (lv_at hl 4 rfl) ?_
          refine va_get (D := (dC, dI)) (ci := 0) (v := .ref wk) (C := RX0) (T := TX0) (N := 3) hx hb hg inG0 hown hK.1 hP 0 rfl rfl 1 (Nat.le_of_ble_eq_true rfl) (hg _ wt_182) (fun _ h9 => h9) rfl dX0_weigh_91 ?_
          refine lv_iload_n hx hb dX0_weigh_94 rfl (lv_at hl 5 rfl) ?_
          refine va_aldA hx hb hK.1 hP 1 5 rfl rfl (vp_in_nI (by first | omega | (have t_hj6 := hj6; have t_hlo_j1 := hlo_j1; have t_n9 := n9; have t_hs12 := hs12; have t_hs17 := hs17; have t_hs22 := hs22; have t_c26 := lcm_ge_f c26; have tnb_ := nib3 tn82_ tn83_ tn81_; omega)) (by decide)) dX0_weigh_95 ?_
          refine lv_cgv (y := .ref (rw i)) (rowref (by first | omega | (have t_hj6 := hj6; have t_hlo_j1 := hlo_j1; have t_n9 := n9; have t_hs12 := hs12; have t_hs17 := hs17; have t_hs22 := hs22; have t_c26 := lcm_ge_f c26; have tnb_ := nib3 tn82_ tn83_ tn81_; omega)) (by decide)) ?_
          refine lv_iload_n hx hb dX0_weigh_96 rfl (lv_at hl 6 rfl) ?_
          refine lv_iload hx hb dX0_weigh_97 (lv_at hl 3 rfl) ?_
          have hPc := hP.sub (ws' := []) [] rfl
          refine va_calli (va_runS (As := [.int g, .int (nI j1)]) (rest := [.ref (rw i)]) ⟨hx, hb, hml, hown, hg⟩ (c_X0_slot l dC dI G _ j1 g hg0 (by first | omega | (have t_hj6 := hj6; have t_hlo_j1 := hlo_j1; have t_n9 := n9; have t_hs12 := hs12; have t_hs17 := hs17; have t_hs22 := hs22; have t_c26 := lcm_ge_f c26; have tnb_ := nib3 tn82_ tn83_ tn81_; omega))) (kwS hg mfX0_slot wt_666 ⟨Nat.le_of_ble_eq_true rfl, Nat.le_of_ble_eq_true rfl⟩) (preSR hK hPc) rfl rfl hl.1 rfl (lv_room (Nat.le_of_ble_eq_true rfl)) dX0_weigh_99 ⟨Nat.le_of_ble_eq_true rfl, Nat.le_of_ble_eq_true rfl⟩) hS (fun q h1 h2 => absurd h2 (Nat.not_le.mpr h1)) (fun q h => hA q (Nat.le_trans hS.1 h)) (fun r27 ur27 t H1 locs ht hvm w28 hB hz1 hk1 hS => ?_)
          have hP := keepR hP hk1
          obtain ⟨w28, w28x⟩ := w28
          have hs29 : slotF g j1 < 70 := slotF_lt (by have t_hj6 := hj6; have t_hlo_j1 := hlo_j1; have t_n9 := n9; have t_hs12 := hs12; have t_hs17 := hs17; have t_hs22 := hs22; have t_c26 := lcm_ge_f c26; have tnb_ := nib3 tn82_ tn83_ tn81_; omega) (by have t_hj6 := hj6; have t_hlo_j1 := hlo_j1; have t_n9 := n9; have t_hs12 := hs12; have t_hs17 := hs17; have t_hs22 := hs22; have t_c26 := lcm_ge_f c26; have tnb_ := nib3 tn82_ tn83_ tn81_; omega)
          subst w28
          refine lv_lload hx hb dX0_weigh_102 (lv_at hl 0 rfl) ?_
          refine va_lastB (j := i) hx hb hK.1 hP hD hS 1 (by first | omega | (have t_hj6 := hj6; have t_hlo_j1 := hlo_j1; have t_n9 := n9; have t_hs12 := hs12; have t_hs17 := hs17; have t_hs22 := hs22; have t_c26 := lcm_ge_f c26; have t_hs29 := hs29; have tnb_ := nib3 tn82_ tn83_ tn81_; omega)) rfl (vp_in_nI (by first | omega | (have t_hj6 := hj6; have t_hlo_j1 := hlo_j1; have t_n9 := n9; have t_hs12 := hs12; have t_hs17 := hs17; have t_hs22 := hs22; have t_c26 := lcm_ge_f c26; have t_hs29 := hs29; have tnb_ := nib3 tn82_ tn83_ tn81_; omega)) (by decide)) dX0_weigh_104 (fun H locs hP hD hS => ?_)
          rw [nI_clamp (by first | omega | (have t_hj6 := hj6; have t_hlo_j1 := hlo_j1; have t_n9 := n9; have t_hs12 := hs12; have t_hs17 := hs17; have t_hs22 := hs22; have t_c26 := lcm_ge_f c26; have t_hs29 := hs29; have tnb_ := nib3 tn82_ tn83_ tn81_; omega))] at hP hD
          obtain ⟨hP, hD⟩ := va_rls (ws' := (([(h0, .inr (0, [.long w0, .ref wk, .ref cs])), (wk, .inl (G 5, 11, .inr (.inr (.inr (.inr (fun ir => if ir < 11 then some (rw ir) else none)))))), (cs, .inl (G 4, 10, .inr (.inr (.inr (.inr (fun ir => if ir < 10 then some (rq ir) else none))))))] : va_W) ++ ((((List.range 11).map (fun iq => (rw iq, .inl (G 1, 70, .inr (.inl ((va_up g2 i (vp_updL (g2 i) (slotF g j1) (v18 + v19))) iq)))))) : va_W) ++ ((((List.range 10).map (fun iq => (rq iq, .inl (G 0, 70, .inl (g3 iq))))) : va_W) ++ [])))) hP hD rfl
          refine lv_aload_n hx hb dX0_weigh_105 rfl (lv_at hl 4 rfl) ?_
          refine va_get (D := (dC, dI)) (ci := 0) (v := .ref cs) (C := RX0) (T := TX0) (N := 3) hx hb hg inG0 hown hK.1 hP 0 rfl rfl 2 (Nat.le_of_ble_eq_true rfl) (hg _ wt_183) (fun _ h9 => h9) rfl dX0_weigh_106 ?_
          refine lv_iload_n hx hb dX0_weigh_109 rfl (lv_at hl 5 rfl) ?_
          refine va_aldA hx hb hK.1 hP 2 4 rfl rfl (vp_in_nI (by first | omega | (have t_hj6 := hj6; have t_hlo_j1 := hlo_j1; have t_n9 := n9; have t_hs12 := hs12; have t_hs17 := hs17; have t_hs22 := hs22; have t_c26 := lcm_ge_f c26; have t_hs29 := hs29; have tnb_ := nib3 tn82_ tn83_ tn81_; omega)) (by decide)) dX0_weigh_110 ?_
          refine lv_cgv (y := .ref (rq i)) (rowref (by first | omega | (have t_hj6 := hj6; have t_hlo_j1 := hlo_j1; have t_n9 := n9; have t_hs12 := hs12; have t_hs17 := hs17; have t_hs22 := hs22; have t_c26 := lcm_ge_f c26; have t_hs29 := hs29; have tnb_ := nib3 tn82_ tn83_ tn81_; omega)) (by decide)) ?_
          refine lv_iload_n hx hb dX0_weigh_111 rfl (lv_at hl 6 rfl) ?_
          refine lv_iload hx hb dX0_weigh_112 (lv_at hl 3 rfl) ?_
          have hPc := hP.sub (ws' := []) [] rfl
          refine va_calli (va_runS (As := [.int g, .int (nI j1)]) (rest := [.ref (rq i)]) ⟨hx, hb, hml, hown, hg⟩ (c_X0_slot l dC dI G _ j1 g hg0 (by first | omega | (have t_hj6 := hj6; have t_hlo_j1 := hlo_j1; have t_n9 := n9; have t_hs12 := hs12; have t_hs17 := hs17; have t_hs22 := hs22; have t_c26 := lcm_ge_f c26; have t_hs29 := hs29; have tnb_ := nib3 tn82_ tn83_ tn81_; omega))) (kwS hg mfX0_slot wt_666 ⟨Nat.le_of_ble_eq_true rfl, Nat.le_of_ble_eq_true rfl⟩) (preSR hK hPc) rfl rfl hl.1 rfl (lv_room (Nat.le_of_ble_eq_true rfl)) dX0_weigh_114 ⟨Nat.le_of_ble_eq_true rfl, Nat.le_of_ble_eq_true rfl⟩) hS (fun q h1 h2 => absurd h2 (Nat.not_le.mpr h1)) (fun q h => hA q (Nat.le_trans hS.1 h)) (fun r30 ur30 t H1 locs ht hvm w31 hB hz1 hk1 hS => ?_)
          have hP := keepR hP hk1
          obtain ⟨w31, w31x⟩ := w31
          have hs32 : slotF g j1 < 70 := slotF_lt (by have t_hj6 := hj6; have t_hlo_j1 := hlo_j1; have t_n9 := n9; have t_hs12 := hs12; have t_hs17 := hs17; have t_hs22 := hs22; have t_c26 := lcm_ge_f c26; have t_hs29 := hs29; have tnb_ := nib3 tn82_ tn83_ tn81_; omega) (by have t_hj6 := hj6; have t_hlo_j1 := hlo_j1; have t_n9 := n9; have t_hs12 := hs12; have t_hs17 := hs17; have t_hs22 := hs22; have t_c26 := lcm_ge_f c26; have t_hs29 := hs29; have tnb_ := nib3 tn82_ tn83_ tn81_; omega)
          subst w31
          refine lv_iload_n hx hb dX0_weigh_117 rfl (lv_at hl 7 rfl) ?_
          refine va_iastB2 (j := i) hx hb hK.1 hP hD hS 0 (by first | omega | (have t_hj6 := hj6; have t_hlo_j1 := hlo_j1; have t_n9 := n9; have t_hs12 := hs12; have t_hs17 := hs17; have t_hs22 := hs22; have t_c26 := lcm_ge_f c26; have t_hs29 := hs29; have t_hs32 := hs32; have tnb_ := nib3 tn82_ tn83_ tn81_; omega)) rfl (vp_in_nI (by first | omega | (have t_hj6 := hj6; have t_hlo_j1 := hlo_j1; have t_n9 := n9; have t_hs12 := hs12; have t_hs17 := hs17; have t_hs22 := hs22; have t_c26 := lcm_ge_f c26; have t_hs29 := hs29; have t_hs32 := hs32; have tnb_ := nib3 tn82_ tn83_ tn81_; omega)) (by decide)) dX0_weigh_118 (fun H locs hP hD hS => ?_)
          rw [nI_clamp (by first | omega | (have t_hj6 := hj6; have t_hlo_j1 := hlo_j1; have t_n9 := n9; have t_hs12 := hs12; have t_hs17 := hs17; have t_hs22 := hs22; have t_c26 := lcm_ge_f c26; have t_hs29 := hs29; have t_hs32 := hs32; have tnb_ := nib3 tn82_ tn83_ tn81_; omega))] at hP hD
          obtain ⟨hP, hD⟩ := va_rls (ws' := (([(h0, .inr (0, [.long w0, .ref wk, .ref cs])), (wk, .inl (G 5, 11, .inr (.inr (.inr (.inr (fun ir => if ir < 11 then some (rw ir) else none)))))), (cs, .inl (G 4, 10, .inr (.inr (.inr (.inr (fun ir => if ir < 10 then some (rq ir) else none))))))] : va_W) ++ ((((List.range 11).map (fun iq => (rw iq, .inl (G 1, 70, .inr (.inl ((va_up g2 i (vp_updL (g2 i) (slotF g j1) (v18 + v19))) iq)))))) : va_W) ++ ((((List.range 10).map (fun iq => (rq iq, .inl (G 0, 70, .inl ((va_up g3 i (upd (g3 i) (slotF g j1) (nI k))) iq))))) : va_W) ++ [])))) hP hD rfl
          exact cut119_25 (va_up g2 i (vp_updL (g2 i) (slotF g j1) (v18 + v19))) (va_up g3 i (upd (g3 i) (slotF g j1) (nI k))) _ _ hP hD hS ls (lv_sub hl [0, 1, 2, 3, 4, 5, 6, 7, 8] rfl)
  exact loop3_4 (10 + 1) 1 (by omega) (by omega) (by omega) F E _ _ hP hD hS ls (lv_sub hl [0, 1, 2, 3, 4, 5] rfl)

set_option maxHeartbeats 1000000 in
set_option maxRecDepth 100000 in
theorem c_X0_chooseFrom (l : Launch) (dC : Nat → ClassId) (dI : Nat → Nat → Nat) (G : Nat → ClassId) (sz : Nat) (h0 wk cs wy a1 a2 a3 a4 a5 a6 N B D i : Nat) (g x1 : Int32) (w0 : Int64) (f1 f2 f4 f5 f6 : Nat → Int32) (rw rq : Nat → Nat) (F : Nat → Nat → Int64) (E : Nat → Nat → Int32) (hg0 : g.toInt = -4 ∨ (0 ≤ g.toInt ∧ g.toInt < 6)) (hN_N : N ≤ 10) (hB_B : B ≤ 6) (hD_D : 1 ≤ D ∧ D ≤ 9) (hi : i < N) : Met l yX0_chooseFrom (Cond.code yX0_chooseFrom cX0_chooseFrom 6 none :: GT) ({ frames := 3, cells := 0, slots := 0, locals := 67 } : Room) (PcW [.ref h0, .ref wy, .int (nI i), .int g, .int x1] dC dI G (([(h0, .inr (0, [.long w0, .ref wk, .ref cs])), (wk, .inl (G 5, 11, .inr (.inr (.inr (.inr (fun ir => if ir < 11 then some (rw ir) else none)))))), (cs, .inl (G 4, 10, .inr (.inr (.inr (.inr (fun ir => if ir < 10 then some (rq ir) else none)))))), (wy, .inr (9, [.int (nI N), .int (nI B), .int (nI D), .ref a1, .ref a2, .ref a3, .ref a4, .ref a5, .ref a6])), (a1, .inl (G 0, 10, .inl f1)), (a2, .inl (G 0, 10, .inl f2)), (a4, .inl (G 0, 6, .inl f4)), (a5, .inl (G 0, 6, .inl f5)), (a6, .inl (G 0, 6, .inl f6))] : va_W) ++ ((((List.range 11).map (fun iq => (rw iq, .inl (G 1, 70, .inr (.inl (F iq)))))) : va_W) ++ ((((List.range 10).map (fun iq => (rq iq, .inl (G 0, 70, .inl (E iq))))) : va_W) ++ []))) sz) (va_Qv (fun (u : Int64 × (Nat → Nat → Int64) × (Nat → Nat → Int32)) => match u with | (u0, u1, u2) => True) (fun (u : Int64 × (Nat → Nat → Int64) × (Nat → Nat → Int32)) (t : State) => match u with | (u0, u1, u2) => va_P (dC, dI) vwCl (([(h0, .inr (0, [.long u0, .ref wk, .ref cs])), (wk, .inl (G 5, 11, .inr (.inr (.inr (.inr (fun ir => if ir < 11 then some (rw ir) else none)))))), (cs, .inl (G 4, 10, .inr (.inr (.inr (.inr (fun ir => if ir < 10 then some (rq ir) else none)))))), (wy, .inr (9, [.int (nI N), .int (nI B), .int (nI D), .ref a1, .ref a2, .ref a3, .ref a4, .ref a5, .ref a6])), (a1, .inl (G 0, 10, .inl f1)), (a2, .inl (G 0, 10, .inl f2)), (a4, .inl (G 0, 6, .inl f4)), (a5, .inl (G 0, 6, .inl f5)), (a6, .inl (G 0, 6, .inl f6))] : va_W) ++ ((((List.range 11).map (fun iq => (rw iq, .inl (G 1, 70, .inr (.inl (u1 iq)))))) : va_W) ++ ((((List.range 10).map (fun iq => (rq iq, .inl (G 0, 70, .inl (u2 iq))))) : va_W) ++ []))) t.heap ∧ va_D (va_A (([(h0, .inr (0, [.long w0, .ref wk, .ref cs])), (wk, .inl (G 5, 11, .inr (.inr (.inr (.inr (fun ir => if ir < 11 then some (rw ir) else none)))))), (cs, .inl (G 4, 10, .inr (.inr (.inr (.inr (fun ir => if ir < 10 then some (rq ir) else none)))))), (wy, .inr (9, [.int (nI N), .int (nI B), .int (nI D), .ref a1, .ref a2, .ref a3, .ref a4, .ref a5, .ref a6])), (a1, .inl (G 0, 10, .inl f1)), (a2, .inl (G 0, 10, .inl f2)), (a4, .inl (G 0, 6, .inl f4)), (a5, .inl (G 0, 6, .inl f5)), (a6, .inl (G 0, 6, .inl f6))] : va_W) ++ ((((List.range 11).map (fun iq => (rw iq, .inl (G 1, 70, .inr (.inl (F iq)))))) : va_W) ++ ((((List.range 10).map (fun iq => (rq iq, .inl (G 0, 70, .inl (E iq))))) : va_W) ++ []))) sz) (([(h0, .inr (0, [.long u0, .ref wk, .ref cs])), (wk, .inl (G 5, 11, .inr (.inr (.inr (.inr (fun ir => if ir < 11 then some (rw ir) else none)))))), (cs, .inl (G 4, 10, .inr (.inr (.inr (.inr (fun ir => if ir < 10 then some (rq ir) else none)))))), (wy, .inr (9, [.int (nI N), .int (nI B), .int (nI D), .ref a1, .ref a2, .ref a3, .ref a4, .ref a5, .ref a6])), (a1, .inl (G 0, 10, .inl f1)), (a2, .inl (G 0, 10, .inl f2)), (a4, .inl (G 0, 6, .inl f4)), (a5, .inl (G 0, 6, .inl f5)), (a6, .inl (G 0, 6, .inl f6))] : va_W) ++ ((((List.range 11).map (fun iq => (rw iq, .inl (G 1, 70, .inr (.inl (u1 iq)))))) : va_W) ++ ((((List.range 10).map (fun iq => (rq iq, .inl (G 0, 70, .inl (u2 iq))))) : va_W) ++ [])))) (va_A (([(h0, .inr (0, [.long w0, .ref wk, .ref cs])), (wk, .inl (G 5, 11, .inr (.inr (.inr (.inr (fun ir => if ir < 11 then some (rw ir) else none)))))), (cs, .inl (G 4, 10, .inr (.inr (.inr (.inr (fun ir => if ir < 10 then some (rq ir) else none)))))), (wy, .inr (9, [.int (nI N), .int (nI B), .int (nI D), .ref a1, .ref a2, .ref a3, .ref a4, .ref a5, .ref a6])), (a1, .inl (G 0, 10, .inl f1)), (a2, .inl (G 0, 10, .inl f2)), (a4, .inl (G 0, 6, .inl f4)), (a5, .inl (G 0, 6, .inl f5)), (a6, .inl (G 0, 6, .inl f6))] : va_W) ++ ((((List.range 11).map (fun iq => (rw iq, .inl (G 1, 70, .inr (.inl (F iq)))))) : va_W) ++ ((((List.range 10).map (fun iq => (rq iq, .inl (G 0, 70, .inl (E iq))))) : va_W) ++ []))) sz)) 0 0 (va_A (([(h0, .inr (0, [.long w0, .ref wk, .ref cs])), (wk, .inl (G 5, 11, .inr (.inr (.inr (.inr (fun ir => if ir < 11 then some (rw ir) else none)))))), (cs, .inl (G 4, 10, .inr (.inr (.inr (.inr (fun ir => if ir < 10 then some (rq ir) else none)))))), (wy, .inr (9, [.int (nI N), .int (nI B), .int (nI D), .ref a1, .ref a2, .ref a3, .ref a4, .ref a5, .ref a6])), (a1, .inl (G 0, 10, .inl f1)), (a2, .inl (G 0, 10, .inl f2)), (a4, .inl (G 0, 6, .inl f4)), (a5, .inl (G 0, 6, .inl f5)), (a6, .inl (G 0, 6, .inl f6))] : va_W) ++ ((((List.range 11).map (fun iq => (rw iq, .inl (G 1, 70, .inr (.inl (F iq)))))) : va_W) ++ ((((List.range 10).map (fun iq => (rq iq, .inl (G 0, 70, .inl (E iq))))) : va_W) ++ []))) sz) := by
  have tn84_ : nIT N := fun _ => nI_toInt (by omega)
  have tn85_ : nIT B := fun _ => nI_toInt (by omega)
  have tn86_ : nIT D := fun _ => nI_toInt (by omega)
  refine Met.ofW (cc := cX0_chooseFrom) (maxL := 6) (ret := none) (by decide) rfl ?_
  intro p e s m args below meth c s₁ Bd hml hv
  obtain ⟨rfl, hsz, hP, hK, hD0⟩ := hv
  have hx := Bd.exec
  have hb := Bd.bytes
  have hr := Bd.returns
  have hg : ∀ w ∈ GT, w.before ([.ref h0, .ref wy, .int (nI i), .int g, .int x1] : List Value).toArray s = true := fun w h => atoms_spec (ws := Cond.code yX0_chooseFrom cX0_chooseFrom 6 none :: GT) Bd.pre w (List.mem_cons_of_mem _ h)
  have hown : s.vm.findClass RX0 = some m.cls := findClass_of_methodNamed Bd.named
  have hlocks := Bd.notSynchronized
  subst hsz
  have hD := hD0.self (sz := s.heap.size)
  generalize hAe : va_A (([(h0, .inr (0, [.long w0, .ref wk, .ref cs])), (wk, .inl (G 5, 11, .inr (.inr (.inr (.inr (fun ir => if ir < 11 then some (rw ir) else none)))))), (cs, .inl (G 4, 10, .inr (.inr (.inr (.inr (fun ir => if ir < 10 then some (rq ir) else none)))))), (wy, .inr (9, [.int (nI N), .int (nI B), .int (nI D), .ref a1, .ref a2, .ref a3, .ref a4, .ref a5, .ref a6])), (a1, .inl (G 0, 10, .inl f1)), (a2, .inl (G 0, 10, .inl f2)), (a4, .inl (G 0, 6, .inl f4)), (a5, .inl (G 0, 6, .inl f5)), (a6, .inl (G 0, 6, .inl f6))] : va_W) ++ ((((List.range 11).map (fun iq => (rw iq, .inl (G 1, 70, .inr (.inl (F iq)))))) : va_W) ++ ((((List.range 10).map (fun iq => (rq iq, .inl (G 0, 70, .inl (E iq))))) : va_W) ++ []))) s.heap.size = A at hD ⊢
  have hA : ∀ q : Nat, s.heap.size ≤ q → A q := fun q h => by rw [← hAe]; exact Or.inr h
  have hS : va_S A s.heap s.heap [] := va_S.rf
  have hl := lv_entry ([.ref h0, .ref wy, .int (nI i), .int g, .int x1]) (n := 6) (Nat.le_of_ble_eq_true rfl)
  rw [lg_entry_eq]
  generalize (lg_sl ([.ref h0, .ref wy, .int (nI i), .int g, .int x1]) ++ List.replicate (6 - (lg_sl ([.ref h0, .ref wy, .int (nI i), .int g, .int x1])).length) Slot.unset).toArray = ls at hl ⊢
  have hl : lv_has ls 6 [(0, .ref h0), (1, .ref wy), (2, .int (nI i)), (3, .int g), (4, .int x1)] := hl
  refine lv_aload_n hx hb dX0_chooseFrom_0 rfl (lv_at hl 0 rfl) ?_
  refine va_get (D := (dC, dI)) (ci := 0) (v := .ref wk) (C := RX0) (T := TX0) (N := 3) hx hb hg inG0 hown hK.1 hP 0 rfl rfl 1 (Nat.le_of_ble_eq_true rfl) (hg _ wt_182) (fun _ h9 => h9) rfl dX0_chooseFrom_1 ?_
  refine lv_iload_n hx hb dX0_chooseFrom_4 rfl (lv_at hl 2 rfl) ?_
  have tn87_ : nIT i := fun _ => nI_toInt (by omega)
  refine va_aldA hx hb hK.1 hP 1 5 rfl rfl (vp_in_nI (by first | omega | (have tnb_ := nib4 tn87_ tn84_ tn85_ tn86_; omega)) (by decide)) dX0_chooseFrom_5 ?_
  refine lv_cgv (y := .ref (rw i)) (rowref (by first | omega | (have tnb_ := nib4 tn87_ tn84_ tn85_ tn86_; omega)) (by decide)) ?_
  refine lv_iload_n hx hb dX0_chooseFrom_6 rfl (lv_at hl 3 rfl) ?_
  refine lv_iconst (v := 0) hx hb dX0_chooseFrom_7 rfl ?_
  have hPc := hP.sub (ws' := []) [] rfl
  refine va_calli (va_runS (As := [.int g, .int 0]) (rest := [.ref (rw i)]) ⟨hx, hb, hml, hown, hg⟩ (c_X0_slot l dC dI G _ 0 g hg0 (by first | omega | (have tnb_ := nib4 tn87_ tn84_ tn85_ tn86_; have : (0 : Int32).toInt = 0 := qI_0; omega))) (kwS hg mfX0_slot wt_666 ⟨Nat.le_of_ble_eq_true rfl, Nat.le_of_ble_eq_true rfl⟩) (preSR hK hPc) rfl rfl hl.1 rfl (lv_room (Nat.le_of_ble_eq_true rfl)) dX0_chooseFrom_8 ⟨Nat.le_of_ble_eq_true rfl, Nat.le_of_ble_eq_true rfl⟩) hS (fun q h1 h2 => absurd h2 (Nat.not_le.mpr h1)) (fun q h => hA q (Nat.le_trans hS.1 h)) (fun r1 ur1 t H1 locs ht hvm w2 hB hz1 hk1 hS => ?_)
  have hP := keepR hP hk1
  obtain ⟨w2, w2x⟩ := w2
  have hs3 : slotF g 0 < 70 := slotF_lt (by have tnb_ := nib4 tn87_ tn84_ tn85_ tn86_; have : (0 : Int32).toInt = 0 := qI_0; omega) (by have tnb_ := nib4 tn87_ tn84_ tn85_ tn86_; omega)
  subst w2
  refine lv_aload_n hx hb dX0_chooseFrom_11 rfl (lv_at hl 0 rfl) ?_
  refine va_get (D := (dC, dI)) (ci := 0) (v := .long w0) (C := RX0) (T := TX0) (N := 3) hx hb hg inG0 hown hK.1 hP 0 rfl rfl 0 (Nat.le_of_ble_eq_true rfl) (hg _ wt_180) (fun _ h9 => h9) rfl dX0_chooseFrom_12 ?_
  refine va_lastB (j := i) hx hb hK.1 hP hD hS 1 (by first | omega | (have t_hs3 := hs3; have tnb_ := nib4 tn87_ tn84_ tn85_ tn86_; omega)) rfl (vp_in_nI (by first | omega | (have t_hs3 := hs3; have tnb_ := nib4 tn87_ tn84_ tn85_ tn86_; omega)) (by decide)) dX0_chooseFrom_15 (fun H locs hP hD hS => ?_)
  rw [nI_clamp (by first | omega | (have t_hs3 := hs3; have tnb_ := nib4 tn87_ tn84_ tn85_ tn86_; omega))] at hP hD
  obtain ⟨hP, hD⟩ := va_rls (ws' := (([(h0, .inr (0, [.long w0, .ref wk, .ref cs])), (wk, .inl (G 5, 11, .inr (.inr (.inr (.inr (fun ir => if ir < 11 then some (rw ir) else none)))))), (cs, .inl (G 4, 10, .inr (.inr (.inr (.inr (fun ir => if ir < 10 then some (rq ir) else none)))))), (wy, .inr (9, [.int (nI N), .int (nI B), .int (nI D), .ref a1, .ref a2, .ref a3, .ref a4, .ref a5, .ref a6])), (a1, .inl (G 0, 10, .inl f1)), (a2, .inl (G 0, 10, .inl f2)), (a4, .inl (G 0, 6, .inl f4)), (a5, .inl (G 0, 6, .inl f5)), (a6, .inl (G 0, 6, .inl f6))] : va_W) ++ ((((List.range 11).map (fun iq => (rw iq, .inl (G 1, 70, .inr (.inl ((va_up F i (vp_updL (F i) (slotF g 0) w0)) iq)))))) : va_W) ++ ((((List.range 10).map (fun iq => (rq iq, .inl (G 0, 70, .inl (E iq))))) : va_W) ++ [])))) hP hD rfl
  refine lv_iconst (v := 1) hx hb dX0_chooseFrom_16 rfl ?_
  refine lv_istore (lv' := [(5, .int 1), (0, .ref h0), (1, .ref wy), (2, .int (nI i)), (3, .int g), (4, .int x1)]) hx hb dX0_chooseFrom_17 hl (by decide) rfl (fun ls hl => ?_)
  have loop19_6 : ∀ (nf j4 : Nat), 10 + 1 ≤ j4 + nf → j4 ≤ 10 → 1 ≤ j4 → ∀ (g5 : Nat → Nat → Int64) (H : Heap) (locs : List Loc), va_P (dC, dI) vwCl (([(h0, .inr (0, [.long w0, .ref wk, .ref cs])), (wk, .inl (G 5, 11, .inr (.inr (.inr (.inr (fun ir => if ir < 11 then some (rw ir) else none)))))), (cs, .inl (G 4, 10, .inr (.inr (.inr (.inr (fun ir => if ir < 10 then some (rq ir) else none)))))), (wy, .inr (9, [.int (nI N), .int (nI B), .int (nI D), .ref a1, .ref a2, .ref a3, .ref a4, .ref a5, .ref a6])), (a1, .inl (G 0, 10, .inl f1)), (a2, .inl (G 0, 10, .inl f2)), (a4, .inl (G 0, 6, .inl f4)), (a5, .inl (G 0, 6, .inl f5)), (a6, .inl (G 0, 6, .inl f6))] : va_W) ++ ((((List.range 11).map (fun iq => (rw iq, .inl (G 1, 70, .inr (.inl (g5 iq)))))) : va_W) ++ ((((List.range 10).map (fun iq => (rq iq, .inl (G 0, 70, .inl (E iq))))) : va_W) ++ []))) H → va_D A (([(h0, .inr (0, [.long w0, .ref wk, .ref cs])), (wk, .inl (G 5, 11, .inr (.inr (.inr (.inr (fun ir => if ir < 11 then some (rw ir) else none)))))), (cs, .inl (G 4, 10, .inr (.inr (.inr (.inr (fun ir => if ir < 10 then some (rq ir) else none)))))), (wy, .inr (9, [.int (nI N), .int (nI B), .int (nI D), .ref a1, .ref a2, .ref a3, .ref a4, .ref a5, .ref a6])), (a1, .inl (G 0, 10, .inl f1)), (a2, .inl (G 0, 10, .inl f2)), (a4, .inl (G 0, 6, .inl f4)), (a5, .inl (G 0, 6, .inl f5)), (a6, .inl (G 0, 6, .inl f6))] : va_W) ++ ((((List.range 11).map (fun iq => (rw iq, .inl (G 1, 70, .inr (.inl (g5 iq)))))) : va_W) ++ ((((List.range 10).map (fun iq => (rq iq, .inl (G 0, 70, .inl (E iq))))) : va_W) ++ []))) → va_S A s.heap H locs → ∀ (ls : Array Slot), lv_has ls 6 [(5, .int (nI j4)), (0, .ref h0), (1, .ref wy), (2, .int (nI i)), (3, .int g), (4, .int x1)] → W p l e (headSpec (Cond.code yX0_chooseFrom cX0_chooseFrom 6 none :: GT) ({ frames := 3, cells := 0, slots := 0, locals := 67 } : Room)).room s m ([.ref h0, .ref wy, .int (nI i), .int g, .int x1] : List Value).toArray below meth c H locs 0 0 (MQ below (va_Qv (fun (u : Int64 × (Nat → Nat → Int64) × (Nat → Nat → Int32)) => match u with | (u0, u1, u2) => True) (fun (u : Int64 × (Nat → Nat → Int64) × (Nat → Nat → Int32)) (t : State) => match u with | (u0, u1, u2) => va_P (dC, dI) vwCl (([(h0, .inr (0, [.long u0, .ref wk, .ref cs])), (wk, .inl (G 5, 11, .inr (.inr (.inr (.inr (fun ir => if ir < 11 then some (rw ir) else none)))))), (cs, .inl (G 4, 10, .inr (.inr (.inr (.inr (fun ir => if ir < 10 then some (rq ir) else none)))))), (wy, .inr (9, [.int (nI N), .int (nI B), .int (nI D), .ref a1, .ref a2, .ref a3, .ref a4, .ref a5, .ref a6])), (a1, .inl (G 0, 10, .inl f1)), (a2, .inl (G 0, 10, .inl f2)), (a4, .inl (G 0, 6, .inl f4)), (a5, .inl (G 0, 6, .inl f5)), (a6, .inl (G 0, 6, .inl f6))] : va_W) ++ ((((List.range 11).map (fun iq => (rw iq, .inl (G 1, 70, .inr (.inl (u1 iq)))))) : va_W) ++ ((((List.range 10).map (fun iq => (rq iq, .inl (G 0, 70, .inl (u2 iq))))) : va_W) ++ []))) t.heap ∧ va_D A (([(h0, .inr (0, [.long u0, .ref wk, .ref cs])), (wk, .inl (G 5, 11, .inr (.inr (.inr (.inr (fun ir => if ir < 11 then some (rw ir) else none)))))), (cs, .inl (G 4, 10, .inr (.inr (.inr (.inr (fun ir => if ir < 10 then some (rq ir) else none)))))), (wy, .inr (9, [.int (nI N), .int (nI B), .int (nI D), .ref a1, .ref a2, .ref a3, .ref a4, .ref a5, .ref a6])), (a1, .inl (G 0, 10, .inl f1)), (a2, .inl (G 0, 10, .inl f2)), (a4, .inl (G 0, 6, .inl f4)), (a5, .inl (G 0, 6, .inl f5)), (a6, .inl (G 0, 6, .inl f6))] : va_W) ++ ((((List.range 11).map (fun iq => (rw iq, .inl (G 1, 70, .inr (.inl (u1 iq)))))) : va_W) ++ ((((List.range 10).map (fun iq => (rq iq, .inl (G 0, 70, .inl (u2 iq))))) : va_W) ++ [])))) A) ([.ref h0, .ref wy, .int (nI i), .int g, .int x1] : List Value).toArray s 0 0 A) (F0 m 19 ls []) := by
    intro nf
    induction nf with
    | zero => intro j4 h1 h2; exact absurd h1 (by omega)
    | succ nf ih19_6 =>
      intro j4 hn7 hj8 hlo_j4 g5 H locs hP hD hS ls hl
      refine lv_iload hx hb dX0_chooseFrom_19 (lv_at hl 0 rfl) ?_
      refine lv_bipush (v := 10) hx hb dX0_chooseFrom_21 rfl ?_
      refine lv_icmp_ge (tgt := 48) hx hb dX0_chooseFrom_23 rfl (fun c9 => ?_) (fun c9 => ?_)
      · skip
        have tn88_ : nIT j4 := fun _ => nI_toInt (by first | omega | (have t := leI c9; omega))
        have n10 : 10 ≤ j4 := by have t := leI c9; rw [show (nI (j4)).toInt = ((j4 : Nat) : Int) from tn88_ ()] at t; have : (10 : Int32).toInt = 10 := qI_10; omega
        refine lv_iconst (v := 0) hx hb dX0_chooseFrom_48 rfl ?_
        refine lv_istore (lv' := [(5, .int 0), (0, .ref h0), (1, .ref wy), (2, .int (nI i)), (3, .int g), (4, .int x1)]) hx hb dX0_chooseFrom_49 hl (by decide) rfl (fun ls hl => ?_)
        have loop51_15 : ∀ (nf j11 : Nat), B + 1 ≤ j11 + nf → j11 ≤ B → ∀ (y12 : Int64) (g13 : Nat → Nat → Int64) (g14 : Nat → Nat → Int32) (H : Heap) (locs : List Loc), va_P (dC, dI) vwCl (([(h0, .inr (0, [.long y12, .ref wk, .ref cs])), (wk, .inl (G 5, 11, .inr (.inr (.inr (.inr (fun ir => if ir < 11 then some (rw ir) else none)))))), (cs, .inl (G 4, 10, .inr (.inr (.inr (.inr (fun ir => if ir < 10 then some (rq ir) else none)))))), (wy, .inr (9, [.int (nI N), .int (nI B), .int (nI D), .ref a1, .ref a2, .ref a3, .ref a4, .ref a5, .ref a6])), (a1, .inl (G 0, 10, .inl f1)), (a2, .inl (G 0, 10, .inl f2)), (a4, .inl (G 0, 6, .inl f4)), (a5, .inl (G 0, 6, .inl f5)), (a6, .inl (G 0, 6, .inl f6))] : va_W) ++ ((((List.range 11).map (fun iq => (rw iq, .inl (G 1, 70, .inr (.inl (g13 iq)))))) : va_W) ++ ((((List.range 10).map (fun iq => (rq iq, .inl (G 0, 70, .inl (g14 iq))))) : va_W) ++ []))) H → va_D A (([(h0, .inr (0, [.long y12, .ref wk, .ref cs])), (wk, .inl (G 5, 11, .inr (.inr (.inr (.inr (fun ir => if ir < 11 then some (rw ir) else none)))))), (cs, .inl (G 4, 10, .inr (.inr (.inr (.inr (fun ir => if ir < 10 then some (rq ir) else none)))))), (wy, .inr (9, [.int (nI N), .int (nI B), .int (nI D), .ref a1, .ref a2, .ref a3, .ref a4, .ref a5, .ref a6])), (a1, .inl (G 0, 10, .inl f1)), (a2, .inl (G 0, 10, .inl f2)), (a4, .inl (G 0, 6, .inl f4)), (a5, .inl (G 0, 6, .inl f5)), (a6, .inl (G 0, 6, .inl f6))] : va_W) ++ ((((List.range 11).map (fun iq => (rw iq, .inl (G 1, 70, .inr (.inl (g13 iq)))))) : va_W) ++ ((((List.range 10).map (fun iq => (rq iq, .inl (G 0, 70, .inl (g14 iq))))) : va_W) ++ []))) → va_S A s.heap H locs → ∀ (ls : Array Slot), lv_has ls 6 [(5, .int (nI j11)), (0, .ref h0), (1, .ref wy), (2, .int (nI i)), (3, .int g), (4, .int x1)] → W p l e (headSpec (Cond.code yX0_chooseFrom cX0_chooseFrom 6 none :: GT) ({ frames := 3, cells := 0, slots := 0, locals := 67 } : Room)).room s m ([.ref h0, .ref wy, .int (nI i), .int g, .int x1] : List Value).toArray below meth c H locs 0 0 (MQ below (va_Qv (fun (u : Int64 × (Nat → Nat → Int64) × (Nat → Nat → Int32)) => match u with | (u0, u1, u2) => True) (fun (u : Int64 × (Nat → Nat → Int64) × (Nat → Nat → Int32)) (t : State) => match u with | (u0, u1, u2) => va_P (dC, dI) vwCl (([(h0, .inr (0, [.long u0, .ref wk, .ref cs])), (wk, .inl (G 5, 11, .inr (.inr (.inr (.inr (fun ir => if ir < 11 then some (rw ir) else none)))))), (cs, .inl (G 4, 10, .inr (.inr (.inr (.inr (fun ir => if ir < 10 then some (rq ir) else none)))))), (wy, .inr (9, [.int (nI N), .int (nI B), .int (nI D), .ref a1, .ref a2, .ref a3, .ref a4, .ref a5, .ref a6])), (a1, .inl (G 0, 10, .inl f1)), (a2, .inl (G 0, 10, .inl f2)), (a4, .inl (G 0, 6, .inl f4)), (a5, .inl (G 0, 6, .inl f5)), (a6, .inl (G 0, 6, .inl f6))] : va_W) ++ ((((List.range 11).map (fun iq => (rw iq, .inl (G 1, 70, .inr (.inl (u1 iq)))))) : va_W) ++ ((((List.range 10).map (fun iq => (rq iq, .inl (G 0, 70, .inl (u2 iq))))) : va_W) ++ []))) t.heap ∧ va_D A (([(h0, .inr (0, [.long u0, .ref wk, .ref cs])), (wk, .inl (G 5, 11, .inr (.inr (.inr (.inr (fun ir => if ir < 11 then some (rw ir) else none)))))), (cs, .inl (G 4, 10, .inr (.inr (.inr (.inr (fun ir => if ir < 10 then some (rq ir) else none)))))), (wy, .inr (9, [.int (nI N), .int (nI B), .int (nI D), .ref a1, .ref a2, .ref a3, .ref a4, .ref a5, .ref a6])), (a1, .inl (G 0, 10, .inl f1)), (a2, .inl (G 0, 10, .inl f2)), (a4, .inl (G 0, 6, .inl f4)), (a5, .inl (G 0, 6, .inl f5)), (a6, .inl (G 0, 6, .inl f6))] : va_W) ++ ((((List.range 11).map (fun iq => (rw iq, .inl (G 1, 70, .inr (.inl (u1 iq)))))) : va_W) ++ ((((List.range 10).map (fun iq => (rq iq, .inl (G 0, 70, .inl (u2 iq))))) : va_W) ++ [])))) A) ([.ref h0, .ref wy, .int (nI i), .int g, .int x1] : List Value).toArray s 0 0 A) (F0 m 51 ls []) := by
          intro nf
          induction nf with
          | zero => intro j11 h1 h2; exact absurd h1 (by omega)
          | succ nf ih51_15 =>
            intro j11 hn16 hj17 y12 g13 g14 H locs hP hD hS ls hl
            refine lv_iload hx hb dX0_chooseFrom_51 (lv_at hl 0 rfl) ?_
            refine lv_aload_n hx hb dX0_chooseFrom_53 rfl (lv_at hl 2 rfl) ?_
            refine va_getN (D := (dC, dI)) (ci := 9) (v := .int (nI B)) (C := RX9) (T := TX9) (N := 9) hx hb hg inG9 hown hK.1 hP 3 rfl rfl 1 (Nat.le_of_ble_eq_true rfl) (hK.nest wn_63) (fun _ h9 => h9) rfl dX0_chooseFrom_54 ?_
            refine lv_icmp_ge (tgt := 89) hx hb dX0_chooseFrom_57 rfl (fun c18 => ?_) (fun c18 => ?_)
            · skip
              have tn89_ : nIT j11 := fun _ => nI_toInt (by first | omega | (have t := leI c18; omega))
              have n19 : B ≤ j11 := by have t := leI c18; rw [show (nI (j11)).toInt = ((j11 : Nat) : Int) from tn89_ ()] at t; rw [show (nI (B)).toInt = ((B : Nat) : Int) from tn85_ ()] at t; omega
              obtain ⟨hP9, hD9⟩ := va_sub2 (ws' := (([(h0, .inr (0, [.long y12, .ref wk, .ref cs])), (wk, .inl (G 5, 11, .inr (.inr (.inr (.inr (fun ir => if ir < 11 then some (rw ir) else none)))))), (cs, .inl (G 4, 10, .inr (.inr (.inr (.inr (fun ir => if ir < 10 then some (rq ir) else none)))))), (wy, .inr (9, [.int (nI N), .int (nI B), .int (nI D), .ref a1, .ref a2, .ref a3, .ref a4, .ref a5, .ref a6])), (a1, .inl (G 0, 10, .inl f1)), (a2, .inl (G 0, 10, .inl f2)), (a4, .inl (G 0, 6, .inl f4)), (a5, .inl (G 0, 6, .inl f5)), (a6, .inl (G 0, 6, .inl f6))] : va_W) ++ ((((List.range 11).map (fun iq => (rw iq, .inl (G 1, 70, .inr (.inl (g13 iq)))))) : va_W) ++ ((((List.range 10).map (fun iq => (rq iq, .inl (G 0, 70, .inl (g14 iq))))) : va_W) ++ [])))) hP hD [0, 1, 2, 3, 4, 5, 6, 7, 8, 9, 10, 11, 12, 13, 14, 15, 16, 17, 18, 19, 20, 21, 22, 23, 24, 25, 26, 27, 28, 29] (by decide +kernel) rfl
              refine W.widen (k := 0) (n := 0) (Nat.le_of_ble_eq_true rfl) (Nat.le_of_ble_eq_true rfl) ?_
              exact W.vret hx hb hr (fun t ht hW => ⟨⟨(y12, g13, g14), rfl, trivial, ⟨by rw [ht]; exact hP9, hD9⟩⟩, hS.F ht⟩) hS.2.2 dX0_chooseFrom_89
            · skip
              have tn90_ : nIT j11 := fun _ => nI_toInt (by first | omega | (have t := nleI c18; omega))
              have n20 : j11 < B := by have t := nleI c18; rw [show (nI (j11)).toInt = ((j11 : Nat) : Int) from tn90_ ()] at t; rw [show (nI (B)).toInt = ((B : Nat) : Int) from tn85_ ()] at t; omega
              refine lv_iload hx hb dX0_chooseFrom_60 (lv_at hl 0 rfl) ?_
              refine lv_iload hx hb dX0_chooseFrom_62 (lv_at hl 5 rfl) ?_
              have cut83_24 : ∀ (y21 : Int64) (g22 : Nat → Nat → Int64) (g23 : Nat → Nat → Int32) (H : Heap) (locs : List Loc), va_P (dC, dI) vwCl (([(h0, .inr (0, [.long y21, .ref wk, .ref cs])), (wk, .inl (G 5, 11, .inr (.inr (.inr (.inr (fun ir => if ir < 11 then some (rw ir) else none)))))), (cs, .inl (G 4, 10, .inr (.inr (.inr (.inr (fun ir => if ir < 10 then some (rq ir) else none)))))), (wy, .inr (9, [.int (nI N), .int (nI B), .int (nI D), .ref a1, .ref a2, .ref a3, .ref a4, .ref a5, .ref a6])), (a1, .inl (G 0, 10, .inl f1)), (a2, .inl (G 0, 10, .inl f2)), (a4, .inl (G 0, 6, .inl f4)), (a5, .inl (G 0, 6, .inl f5)), (a6, .inl (G 0, 6, .inl f6))] : va_W) ++ ((((List.range 11).map (fun iq => (rw iq, .inl (G 1, 70, .inr (.inl (g22 iq)))))) : va_W) ++ ((((List.range 10).map (fun iq => (rq iq, .inl (G 0, 70, .inl (g23 iq))))) : va_W) ++ []))) H → va_D A (([(h0, .inr (0, [.long y21, .ref wk, .ref cs])), (wk, .inl (G 5, 11, .inr (.inr (.inr (.inr (fun ir => if ir < 11 then some (rw ir) else none)))))), (cs, .inl (G 4, 10, .inr (.inr (.inr (.inr (fun ir => if ir < 10 then some (rq ir) else none)))))), (wy, .inr (9, [.int (nI N), .int (nI B), .int (nI D), .ref a1, .ref a2, .ref a3, .ref a4, .ref a5, .ref a6])), (a1, .inl (G 0, 10, .inl f1)), (a2, .inl (G 0, 10, .inl f2)), (a4, .inl (G 0, 6, .inl f4)), (a5, .inl (G 0, 6, .inl f5)), (a6, .inl (G 0, 6, .inl f6))] : va_W) ++ ((((List.range 11).map (fun iq => (rw iq, .inl (G 1, 70, .inr (.inl (g22 iq)))))) : va_W) ++ ((((List.range 10).map (fun iq => (rq iq, .inl (G 0, 70, .inl (g23 iq))))) : va_W) ++ []))) → va_S A s.heap H locs → ∀ (ls : Array Slot), lv_has ls 6 [(5, .int (nI j11)), (0, .ref h0), (1, .ref wy), (2, .int (nI i)), (3, .int g), (4, .int x1)] → W p l e (headSpec (Cond.code yX0_chooseFrom cX0_chooseFrom 6 none :: GT) ({ frames := 3, cells := 0, slots := 0, locals := 67 } : Room)).room s m ([.ref h0, .ref wy, .int (nI i), .int g, .int x1] : List Value).toArray below meth c H locs 0 0 (MQ below (va_Qv (fun (u : Int64 × (Nat → Nat → Int64) × (Nat → Nat → Int32)) => match u with | (u0, u1, u2) => True) (fun (u : Int64 × (Nat → Nat → Int64) × (Nat → Nat → Int32)) (t : State) => match u with | (u0, u1, u2) => va_P (dC, dI) vwCl (([(h0, .inr (0, [.long u0, .ref wk, .ref cs])), (wk, .inl (G 5, 11, .inr (.inr (.inr (.inr (fun ir => if ir < 11 then some (rw ir) else none)))))), (cs, .inl (G 4, 10, .inr (.inr (.inr (.inr (fun ir => if ir < 10 then some (rq ir) else none)))))), (wy, .inr (9, [.int (nI N), .int (nI B), .int (nI D), .ref a1, .ref a2, .ref a3, .ref a4, .ref a5, .ref a6])), (a1, .inl (G 0, 10, .inl f1)), (a2, .inl (G 0, 10, .inl f2)), (a4, .inl (G 0, 6, .inl f4)), (a5, .inl (G 0, 6, .inl f5)), (a6, .inl (G 0, 6, .inl f6))] : va_W) ++ ((((List.range 11).map (fun iq => (rw iq, .inl (G 1, 70, .inr (.inl (u1 iq)))))) : va_W) ++ ((((List.range 10).map (fun iq => (rq iq, .inl (G 0, 70, .inl (u2 iq))))) : va_W) ++ []))) t.heap ∧ va_D A (([(h0, .inr (0, [.long u0, .ref wk, .ref cs])), (wk, .inl (G 5, 11, .inr (.inr (.inr (.inr (fun ir => if ir < 11 then some (rw ir) else none)))))), (cs, .inl (G 4, 10, .inr (.inr (.inr (.inr (fun ir => if ir < 10 then some (rq ir) else none)))))), (wy, .inr (9, [.int (nI N), .int (nI B), .int (nI D), .ref a1, .ref a2, .ref a3, .ref a4, .ref a5, .ref a6])), (a1, .inl (G 0, 10, .inl f1)), (a2, .inl (G 0, 10, .inl f2)), (a4, .inl (G 0, 6, .inl f4)), (a5, .inl (G 0, 6, .inl f5)), (a6, .inl (G 0, 6, .inl f6))] : va_W) ++ ((((List.range 11).map (fun iq => (rw iq, .inl (G 1, 70, .inr (.inl (u1 iq)))))) : va_W) ++ ((((List.range 10).map (fun iq => (rq iq, .inl (G 0, 70, .inl (u2 iq))))) : va_W) ++ [])))) A) ([.ref h0, .ref wy, .int (nI i), .int g, .int x1] : List Value).toArray s 0 0 A) (F0 m 83 ls []) := by
                intro y21 g22 g23 H locs hP hD hS ls hl
                refine lv_iinc (v := nI (j11 + 1)) (lv' := [(5, .int (nI (j11 + 1))), (0, .ref h0), (1, .ref wy), (2, .int (nI i)), (3, .int g), (4, .int x1)]) hx hb dX0_chooseFrom_83 hl (k := 0) rfl (by rw [show Int32.ofInt 1 = nI 1 from by decide]; exact nI_add _ _) (by decide) rfl (fun ls hl => ?_)
                refine lv_goto (tgt := 51) hx hb dX0_chooseFrom_86 rfl ?_
                exact ih51_15 (j11 + 1) (by omega) (by omega) y21 g22 g23 _ _ hP hD hS ls (lv_sub hl [0, 1, 2, 3, 4, 5] rfl)
              refine lv_icmp_eq (tgt := 83) hx hb dX0_chooseFrom_64 rfl (fun c25 => ?_) (fun c25 => ?_)
              · skip
                exact cut83_24 y12 g13 g14 _ _ hP hD hS ls (lv_sub hl [0, 1, 2, 3, 4, 5] rfl)
              · skip
                refine lv_aload_n hx hb dX0_chooseFrom_67 rfl (lv_at hl 1 rfl) ?_
                refine lv_iload_n hx hb dX0_chooseFrom_68 rfl (lv_at hl 3 rfl) ?_
                refine lv_iload_n hx hb dX0_chooseFrom_69 rfl (lv_at hl 4 rfl) ?_
                refine lv_iload hx hb dX0_chooseFrom_70 (lv_at hl 0 rfl) ?_
                refine lv_aload_n hx hb dX0_chooseFrom_72 rfl (lv_at hl 2 rfl) ?_
                refine lv_iload_n hx hb dX0_chooseFrom_73 rfl (lv_at hl 3 rfl) ?_
                refine lv_iload_n hx hb dX0_chooseFrom_74 rfl (lv_at hl 4 rfl) ?_
                refine lv_iload hx hb dX0_chooseFrom_75 (lv_at hl 0 rfl) ?_
                have hPc := hP.sub (ws' := [(wy, .inr (9, [.int (nI N), .int (nI B), .int (nI D), .ref a1, .ref a2, .ref a3, .ref a4, .ref a5, .ref a6])), (a1, .inl (G 0, 10, .inl f1)), (a2, .inl (G 0, 10, .inl f2)), (a4, .inl (G 0, 6, .inl f4)), (a5, .inl (G 0, 6, .inl f5)), (a6, .inl (G 0, 6, .inl f6))]) [3, 4, 5, 6, 7, 8] rfl
                refine va_calli (va_runVN (As := [.int (nI i), .int g, .int (nI j11)]) (rest := [.int (nI j11), .int g, .int (nI i), .ref h0]) ⟨hx, hb, hml, hown, hg⟩ (c_X9_harmBy l dC dI G _ wy a1 a2 a3 a4 a5 a6 N B D (nI i) g (nI j11) f1 f2 f4 f5 f6 hN_N hB_B hD_D) (kwVN hg hK mfX9_harmBy wn_670 ⟨Nat.le_of_ble_eq_true rfl, Nat.le_of_ble_eq_true rfl⟩) (preVR hK hPc (ci := 9) (r := (RX9, TX9, 9)) rfl rfl) rfl rfl hl.1 rfl (lv_room (Nat.le_of_ble_eq_true rfl)) dX0_chooseFrom_77 ⟨Nat.le_of_ble_eq_true rfl, Nat.le_of_ble_eq_true rfl⟩) hS (fun q h1 h2 => absurd h2 (Nat.not_le.mpr h1)) (fun q h => hA q (Nat.le_trans hS.1 h)) (fun r26 ur26 t H1 locs ht hvm w27 hB hz1 hk1 hS => ?_)
                have hP := keepR hP hk1
                obtain ⟨w27, w27x⟩ := w27
                subst w27
                obtain ⟨hPc, hDc, hFc⟩ := va_sub3 (ws' := (([(h0, .inr (0, [.long y12, .ref wk, .ref cs])), (wk, .inl (G 5, 11, .inr (.inr (.inr (.inr (fun ir => if ir < 11 then some (rw ir) else none)))))), (cs, .inl (G 4, 10, .inr (.inr (.inr (.inr (fun ir => if ir < 10 then some (rq ir) else none))))))] : va_W) ++ ((((List.range 11).map (fun iq => (rw iq, .inl (G 1, 70, .inr (.inl (g13 iq)))))) : va_W) ++ ((((List.range 10).map (fun iq => (rq iq, .inl (G 0, 70, .inl (g14 iq))))) : va_W) ++ [])))) hP hD hS hA [0, 1, 2, 9, 10, 11, 12, 13, 14, 15, 16, 17, 18, 19, 20, 21, 22, 23, 24, 25, 26, 27, 28, 29] (by decide +kernel) rfl
                refine va_callv (va_runV (As := [.int (nI i), .int g, .int (nI j11), .int (hmF N B f1 f2 f4 f5 f6 (nI i) g (nI j11))]) (rest := []) ⟨hx, hb, hml, hown, hg⟩ (c_X0_weigh l dC dI G _ h0 wk cs i j11 g (hmF N B f1 f2 f4 f5 f6 (nI i) g (nI j11)) y12 rw rq g13 g14 hg0 (by first | omega | (have t_hs3 := hs3; have t_hj8 := hj8; have t_hlo_j4 := hlo_j4; have t_n10 := n10; have t_hj17 := hj17; have t_n20 := n20; have t_c25 := neI c25; have tnb_ := nib6 tn87_ tn84_ tn85_ tn86_ tn88_ tn90_; omega)) (by first | omega | (have t_hs3 := hs3; have t_hj8 := hj8; have t_hlo_j4 := hlo_j4; have t_n10 := n10; have t_hj17 := hj17; have t_n20 := n20; have t_c25 := neI c25; have tnb_ := nib6 tn87_ tn84_ tn85_ tn86_ tn88_ tn90_; omega))) (kwV hg mfX0_weigh wt_671 ⟨Nat.le_of_ble_eq_true rfl, Nat.le_of_ble_eq_true rfl⟩) (preVW hK hPc hDc (ci := 0) (r := (RX0, TX0, 3)) rfl rfl) rfl rfl hl.1 rfl (lv_room (Nat.le_of_ble_eq_true rfl)) dX0_chooseFrom_80 ⟨Nat.le_of_ble_eq_true rfl, Nat.le_of_ble_eq_true rfl⟩) hS (fun q _ h => hFc q h) hFc (fun ur28 t H1 locs ht hvm w29 hB hz1 hk1 hS => ?_)
                obtain ⟨u30, u31, u32⟩ := ur28
                obtain ⟨hP1, hD1⟩ := hB
                rw [ht] at hP1
                obtain ⟨hP, hD⟩ := va_join (wr := [(wy, .inr (9, [.int (nI N), .int (nI B), .int (nI D), .ref a1, .ref a2, .ref a3, .ref a4, .ref a5, .ref a6])), (a1, .inl (G 0, 10, .inl f1)), (a2, .inl (G 0, 10, .inl f2)), (a4, .inl (G 0, 6, .inl f4)), (a5, .inl (G 0, 6, .inl f5)), (a6, .inl (G 0, 6, .inl f6))]) (w1 := (([(h0, .inr (0, [.long u30, .ref wk, .ref cs])), (wk, .inl (G 5, 11, .inr (.inr (.inr (.inr (fun ir => if ir < 11 then some (rw ir) else none)))))), (cs, .inl (G 4, 10, .inr (.inr (.inr (.inr (fun ir => if ir < 10 then some (rq ir) else none))))))] : va_W) ++ ((((List.range 11).map (fun iq => (rw iq, .inl (G 1, 70, .inr (.inl (u31 iq)))))) : va_W) ++ ((((List.range 10).map (fun iq => (rq iq, .inl (G 0, 70, .inl (u32 iq))))) : va_W) ++ [])))) hP hD [0, 1, 2, 9, 10, 11, 12, 13, 14, 15, 16, 17, 18, 19, 20, 21, 22, 23, 24, 25, 26, 27, 28, 29] [3, 4, 5, 6, 7, 8] rfl rfl (by decide +kernel) (by decide +kernel) hk1 hFc hP1 hD1
                generalize H1 = H at hP hS ⊢
                obtain ⟨hP, hD⟩ := va_rls (ws' := (([(wy, .inr (9, [.int (nI N), .int (nI B), .int (nI D), .ref a1, .ref a2, .ref a3, .ref a4, .ref a5, .ref a6])), (a1, .inl (G 0, 10, .inl f1)), (a2, .inl (G 0, 10, .inl f2)), (a4, .inl (G 0, 6, .inl f4)), (a5, .inl (G 0, 6, .inl f5)), (a6, .inl (G 0, 6, .inl f6)), (h0, .inr (0, [.long u30, .ref wk, .ref cs])), (wk, .inl (G 5, 11, .inr (.inr (.inr (.inr (fun ir => if ir < 11 then some (rw ir) else none)))))), (cs, .inl (G 4, 10, .inr (.inr (.inr (.inr (fun ir => if ir < 10 then some (rq ir) else none))))))] : va_W) ++ ((((List.range 11).map (fun iq => (rw iq, .inl (G 1, 70, .inr (.inl (u31 iq)))))) : va_W) ++ ((((List.range 10).map (fun iq => (rq iq, .inl (G 0, 70, .inl (u32 iq))))) : va_W) ++ [])))) hP hD rfl
                exact cut83_24 u30 u31 u32 _ _ (hP.sub [6, 7, 8, 0, 1, 2, 3, 4, 5, 9, 10, 11, 12, 13, 14, 15, 16, 17, 18, 19, 20, 21, 22, 23, 24, 25, 26, 27, 28, 29] rfl) (hD.sub [6, 7, 8, 0, 1, 2, 3, 4, 5, 9, 10, 11, 12, 13, 14, 15, 16, 17, 18, 19, 20, 21, 22, 23, 24, 25, 26, 27, 28, 29] (by decide) rfl) hS ls (lv_sub hl [0, 1, 2, 3, 4, 5] rfl)
        exact loop51_15 (B + 1) 0 (by omega) (by omega) w0 g5 E _ _ hP hD hS ls (lv_sub hl [0, 1, 2, 3, 4, 5] rfl)
      · skip
        have tn91_ : nIT j4 := fun _ => nI_toInt (by first | omega | (have t := nleI c9; omega))
        have n33 : j4 < 10 := by have t := nleI c9; rw [show (nI (j4)).toInt = ((j4 : Nat) : Int) from tn91_ ()] at t; have : (10 : Int32).toInt = 10 := qI_10; omega
        refine lv_aload_n hx hb dX0_chooseFrom_26 rfl (lv_at hl 1 rfl) ?_
        refine va_get (D := (dC, dI)) (ci := 0) (v := .ref wk) (C := RX0) (T := TX0) (N := 3) hx hb hg inG0 hown hK.1 hP 0 rfl rfl 1 (Nat.le_of_ble_eq_true rfl) (hg _ wt_182) (fun _ h9 => h9) rfl dX0_chooseFrom_27 ?_
        refine lv_iload_n hx hb dX0_chooseFrom_30 rfl (lv_at hl 3 rfl) ?_
        refine va_aldA hx hb hK.1 hP 1 5 rfl rfl (vp_in_nI (by first | omega | (have t_hs3 := hs3; have t_hj8 := hj8; have t_hlo_j4 := hlo_j4; have t_n33 := n33; have tnb_ := nib5 tn87_ tn84_ tn85_ tn86_ tn91_; omega)) (by decide)) dX0_chooseFrom_31 ?_
        refine lv_cgv (y := .ref (rw i)) (rowref (by first | omega | (have t_hs3 := hs3; have t_hj8 := hj8; have t_hlo_j4 := hlo_j4; have t_n33 := n33; have tnb_ := nib5 tn87_ tn84_ tn85_ tn86_ tn91_; omega)) (by decide)) ?_
        refine lv_iload_n hx hb dX0_chooseFrom_32 rfl (lv_at hl 4 rfl) ?_
        refine lv_iload hx hb dX0_chooseFrom_33 (lv_at hl 0 rfl) ?_
        have hPc := hP.sub (ws' := []) [] rfl
        refine va_calli (va_runS (As := [.int g, .int (nI j4)]) (rest := [.ref (rw i)]) ⟨hx, hb, hml, hown, hg⟩ (c_X0_slot l dC dI G _ j4 g hg0 (by first | omega | (have t_hs3 := hs3; have t_hj8 := hj8; have t_hlo_j4 := hlo_j4; have t_n33 := n33; have tnb_ := nib5 tn87_ tn84_ tn85_ tn86_ tn91_; omega))) (kwS hg mfX0_slot wt_666 ⟨Nat.le_of_ble_eq_true rfl, Nat.le_of_ble_eq_true rfl⟩) (preSR hK hPc) rfl rfl hl.1 rfl (lv_room (Nat.le_of_ble_eq_true rfl)) dX0_chooseFrom_35 ⟨Nat.le_of_ble_eq_true rfl, Nat.le_of_ble_eq_true rfl⟩) hS (fun q h1 h2 => absurd h2 (Nat.not_le.mpr h1)) (fun q h => hA q (Nat.le_trans hS.1 h)) (fun r34 ur34 t H1 locs ht hvm w35 hB hz1 hk1 hS => ?_)
        have hP := keepR hP hk1
        obtain ⟨w35, w35x⟩ := w35
        have hs36 : slotF g j4 < 70 := slotF_lt (by have t_hs3 := hs3; have t_hj8 := hj8; have t_hlo_j4 := hlo_j4; have t_n33 := n33; have tnb_ := nib5 tn87_ tn84_ tn85_ tn86_ tn91_; omega) (by have t_hs3 := hs3; have t_hj8 := hj8; have t_hlo_j4 := hlo_j4; have t_n33 := n33; have tnb_ := nib5 tn87_ tn84_ tn85_ tn86_ tn91_; omega)
        subst w35
        refine lv_ldc2 (v := 1152921504606846976) hx hb hown (hg _ wt_669) dX0_chooseFrom_38 ?_
        refine va_lastB (j := i) hx hb hK.1 hP hD hS 1 (by first | omega | (have t_hs3 := hs3; have t_hj8 := hj8; have t_hlo_j4 := hlo_j4; have t_n33 := n33; have t_hs36 := hs36; have tnb_ := nib5 tn87_ tn84_ tn85_ tn86_ tn91_; omega)) rfl (vp_in_nI (by first | omega | (have t_hs3 := hs3; have t_hj8 := hj8; have t_hlo_j4 := hlo_j4; have t_n33 := n33; have t_hs36 := hs36; have tnb_ := nib5 tn87_ tn84_ tn85_ tn86_ tn91_; omega)) (by decide)) dX0_chooseFrom_41 (fun H locs hP hD hS => ?_)
        rw [nI_clamp (by first | omega | (have t_hs3 := hs3; have t_hj8 := hj8; have t_hlo_j4 := hlo_j4; have t_n33 := n33; have t_hs36 := hs36; have tnb_ := nib5 tn87_ tn84_ tn85_ tn86_ tn91_; omega))] at hP hD
        obtain ⟨hP, hD⟩ := va_rls (ws' := (([(h0, .inr (0, [.long w0, .ref wk, .ref cs])), (wk, .inl (G 5, 11, .inr (.inr (.inr (.inr (fun ir => if ir < 11 then some (rw ir) else none)))))), (cs, .inl (G 4, 10, .inr (.inr (.inr (.inr (fun ir => if ir < 10 then some (rq ir) else none)))))), (wy, .inr (9, [.int (nI N), .int (nI B), .int (nI D), .ref a1, .ref a2, .ref a3, .ref a4, .ref a5, .ref a6])), (a1, .inl (G 0, 10, .inl f1)), (a2, .inl (G 0, 10, .inl f2)), (a4, .inl (G 0, 6, .inl f4)), (a5, .inl (G 0, 6, .inl f5)), (a6, .inl (G 0, 6, .inl f6))] : va_W) ++ ((((List.range 11).map (fun iq => (rw iq, .inl (G 1, 70, .inr (.inl ((va_up g5 i (vp_updL (g5 i) (slotF g j4) 1152921504606846976)) iq)))))) : va_W) ++ ((((List.range 10).map (fun iq => (rq iq, .inl (G 0, 70, .inl (E iq))))) : va_W) ++ [])))) hP hD rfl
        refine lv_iinc (v := nI (j4 + 1)) (lv' := [(5, .int (nI (j4 + 1))), (0, .ref h0), (1, .ref wy), (2, .int (nI i)), (3, .int g), (4, .int x1)]) hx hb dX0_chooseFrom_42 hl (k := 0) rfl (by rw [show Int32.ofInt 1 = nI 1 from by decide]; exact nI_add _ _) (by decide) rfl (fun ls hl => ?_)
        refine lv_goto (tgt := 19) hx hb dX0_chooseFrom_45 rfl ?_
        exact ih19_6 (j4 + 1) (by omega) (by omega) (by omega) (va_up g5 i (vp_updL (g5 i) (slotF g j4) 1152921504606846976)) _ _ hP hD hS ls (lv_sub hl [0, 1, 2, 3, 4, 5] rfl)
  exact loop19_6 (10 + 1) 1 (by omega) (by omega) (by omega) (va_up F i (vp_updL (F i) (slotF g 0) w0)) _ _ hP hD hS ls (lv_sub hl [0, 1, 2, 3, 4, 5] rfl)

set_option maxHeartbeats 1000000 in
set_option maxRecDepth 100000 in
theorem c_X0_plan (l : Launch) (dC : Nat → ClassId) (dI : Nat → Nat → Nat) (G : Nat → ClassId) (sz : Nat) (h0 wk cs wy a1 a2 a3 a4 a5 a6 N B D : Nat) (x1 : Int32) (w0 : Int64) (f1 f2 f4 f5 f6 : Nat → Int32) (rw rq : Nat → Nat) (F : Nat → Nat → Int64) (E : Nat → Nat → Int32) (hN_N : N ≤ 10) (hB_B : B ≤ 6) (hD_D : 1 ≤ D ∧ D ≤ 9) : Met l yX0_plan (Cond.code yX0_plan cX0_plan 5 none :: GT) ({ frames := 4, cells := 0, slots := 0, locals := 92 } : Room) (PcW [.ref h0, .ref wy, .int x1] dC dI G (([(h0, .inr (0, [.long w0, .ref wk, .ref cs])), (wk, .inl (G 5, 11, .inr (.inr (.inr (.inr (fun ir => if ir < 11 then some (rw ir) else none)))))), (cs, .inl (G 4, 10, .inr (.inr (.inr (.inr (fun ir => if ir < 10 then some (rq ir) else none)))))), (wy, .inr (9, [.int (nI N), .int (nI B), .int (nI D), .ref a1, .ref a2, .ref a3, .ref a4, .ref a5, .ref a6])), (a1, .inl (G 0, 10, .inl f1)), (a2, .inl (G 0, 10, .inl f2)), (a4, .inl (G 0, 6, .inl f4)), (a5, .inl (G 0, 6, .inl f5)), (a6, .inl (G 0, 6, .inl f6))] : va_W) ++ ((((List.range 11).map (fun iq => (rw iq, .inl (G 1, 70, .inr (.inl (F iq)))))) : va_W) ++ ((((List.range 10).map (fun iq => (rq iq, .inl (G 0, 70, .inl (E iq))))) : va_W) ++ []))) sz) (va_Qv (fun (u : Int64 × (Nat → Nat → Int64) × (Nat → Nat → Int32)) => match u with | (u0, u1, u2) => True) (fun (u : Int64 × (Nat → Nat → Int64) × (Nat → Nat → Int32)) (t : State) => match u with | (u0, u1, u2) => va_P (dC, dI) vwCl (([(h0, .inr (0, [.long u0, .ref wk, .ref cs])), (wk, .inl (G 5, 11, .inr (.inr (.inr (.inr (fun ir => if ir < 11 then some (rw ir) else none)))))), (cs, .inl (G 4, 10, .inr (.inr (.inr (.inr (fun ir => if ir < 10 then some (rq ir) else none)))))), (wy, .inr (9, [.int (nI N), .int (nI B), .int (nI D), .ref a1, .ref a2, .ref a3, .ref a4, .ref a5, .ref a6])), (a1, .inl (G 0, 10, .inl f1)), (a2, .inl (G 0, 10, .inl f2)), (a4, .inl (G 0, 6, .inl f4)), (a5, .inl (G 0, 6, .inl f5)), (a6, .inl (G 0, 6, .inl f6))] : va_W) ++ ((((List.range 11).map (fun iq => (rw iq, .inl (G 1, 70, .inr (.inl (u1 iq)))))) : va_W) ++ ((((List.range 10).map (fun iq => (rq iq, .inl (G 0, 70, .inl (u2 iq))))) : va_W) ++ []))) t.heap ∧ va_D (va_A (([(h0, .inr (0, [.long w0, .ref wk, .ref cs])), (wk, .inl (G 5, 11, .inr (.inr (.inr (.inr (fun ir => if ir < 11 then some (rw ir) else none)))))), (cs, .inl (G 4, 10, .inr (.inr (.inr (.inr (fun ir => if ir < 10 then some (rq ir) else none)))))), (wy, .inr (9, [.int (nI N), .int (nI B), .int (nI D), .ref a1, .ref a2, .ref a3, .ref a4, .ref a5, .ref a6])), (a1, .inl (G 0, 10, .inl f1)), (a2, .inl (G 0, 10, .inl f2)), (a4, .inl (G 0, 6, .inl f4)), (a5, .inl (G 0, 6, .inl f5)), (a6, .inl (G 0, 6, .inl f6))] : va_W) ++ ((((List.range 11).map (fun iq => (rw iq, .inl (G 1, 70, .inr (.inl (F iq)))))) : va_W) ++ ((((List.range 10).map (fun iq => (rq iq, .inl (G 0, 70, .inl (E iq))))) : va_W) ++ []))) sz) (([(h0, .inr (0, [.long u0, .ref wk, .ref cs])), (wk, .inl (G 5, 11, .inr (.inr (.inr (.inr (fun ir => if ir < 11 then some (rw ir) else none)))))), (cs, .inl (G 4, 10, .inr (.inr (.inr (.inr (fun ir => if ir < 10 then some (rq ir) else none)))))), (wy, .inr (9, [.int (nI N), .int (nI B), .int (nI D), .ref a1, .ref a2, .ref a3, .ref a4, .ref a5, .ref a6])), (a1, .inl (G 0, 10, .inl f1)), (a2, .inl (G 0, 10, .inl f2)), (a4, .inl (G 0, 6, .inl f4)), (a5, .inl (G 0, 6, .inl f5)), (a6, .inl (G 0, 6, .inl f6))] : va_W) ++ ((((List.range 11).map (fun iq => (rw iq, .inl (G 1, 70, .inr (.inl (u1 iq)))))) : va_W) ++ ((((List.range 10).map (fun iq => (rq iq, .inl (G 0, 70, .inl (u2 iq))))) : va_W) ++ [])))) (va_A (([(h0, .inr (0, [.long w0, .ref wk, .ref cs])), (wk, .inl (G 5, 11, .inr (.inr (.inr (.inr (fun ir => if ir < 11 then some (rw ir) else none)))))), (cs, .inl (G 4, 10, .inr (.inr (.inr (.inr (fun ir => if ir < 10 then some (rq ir) else none)))))), (wy, .inr (9, [.int (nI N), .int (nI B), .int (nI D), .ref a1, .ref a2, .ref a3, .ref a4, .ref a5, .ref a6])), (a1, .inl (G 0, 10, .inl f1)), (a2, .inl (G 0, 10, .inl f2)), (a4, .inl (G 0, 6, .inl f4)), (a5, .inl (G 0, 6, .inl f5)), (a6, .inl (G 0, 6, .inl f6))] : va_W) ++ ((((List.range 11).map (fun iq => (rw iq, .inl (G 1, 70, .inr (.inl (F iq)))))) : va_W) ++ ((((List.range 10).map (fun iq => (rq iq, .inl (G 0, 70, .inl (E iq))))) : va_W) ++ []))) sz)) 0 0 (va_A (([(h0, .inr (0, [.long w0, .ref wk, .ref cs])), (wk, .inl (G 5, 11, .inr (.inr (.inr (.inr (fun ir => if ir < 11 then some (rw ir) else none)))))), (cs, .inl (G 4, 10, .inr (.inr (.inr (.inr (fun ir => if ir < 10 then some (rq ir) else none)))))), (wy, .inr (9, [.int (nI N), .int (nI B), .int (nI D), .ref a1, .ref a2, .ref a3, .ref a4, .ref a5, .ref a6])), (a1, .inl (G 0, 10, .inl f1)), (a2, .inl (G 0, 10, .inl f2)), (a4, .inl (G 0, 6, .inl f4)), (a5, .inl (G 0, 6, .inl f5)), (a6, .inl (G 0, 6, .inl f6))] : va_W) ++ ((((List.range 11).map (fun iq => (rw iq, .inl (G 1, 70, .inr (.inl (F iq)))))) : va_W) ++ ((((List.range 10).map (fun iq => (rq iq, .inl (G 0, 70, .inl (E iq))))) : va_W) ++ []))) sz) := by
  have tn92_ : nIT N := fun _ => nI_toInt (by omega)
  have tn93_ : nIT B := fun _ => nI_toInt (by omega)
  have tn94_ : nIT D := fun _ => nI_toInt (by omega)
  refine Met.ofW (cc := cX0_plan) (maxL := 5) (ret := none) (by decide) rfl ?_
  intro p e s m args below meth c s₁ Bd hml hv
  obtain ⟨rfl, hsz, hP, hK, hD0⟩ := hv
  have hx := Bd.exec
  have hb := Bd.bytes
  have hr := Bd.returns
  have hg : ∀ w ∈ GT, w.before ([.ref h0, .ref wy, .int x1] : List Value).toArray s = true := fun w h => atoms_spec (ws := Cond.code yX0_plan cX0_plan 5 none :: GT) Bd.pre w (List.mem_cons_of_mem _ h)
  have hown : s.vm.findClass RX0 = some m.cls := findClass_of_methodNamed Bd.named
  have hlocks := Bd.notSynchronized
  subst hsz
  have hD := hD0.self (sz := s.heap.size)
  generalize hAe : va_A (([(h0, .inr (0, [.long w0, .ref wk, .ref cs])), (wk, .inl (G 5, 11, .inr (.inr (.inr (.inr (fun ir => if ir < 11 then some (rw ir) else none)))))), (cs, .inl (G 4, 10, .inr (.inr (.inr (.inr (fun ir => if ir < 10 then some (rq ir) else none)))))), (wy, .inr (9, [.int (nI N), .int (nI B), .int (nI D), .ref a1, .ref a2, .ref a3, .ref a4, .ref a5, .ref a6])), (a1, .inl (G 0, 10, .inl f1)), (a2, .inl (G 0, 10, .inl f2)), (a4, .inl (G 0, 6, .inl f4)), (a5, .inl (G 0, 6, .inl f5)), (a6, .inl (G 0, 6, .inl f6))] : va_W) ++ ((((List.range 11).map (fun iq => (rw iq, .inl (G 1, 70, .inr (.inl (F iq)))))) : va_W) ++ ((((List.range 10).map (fun iq => (rq iq, .inl (G 0, 70, .inl (E iq))))) : va_W) ++ []))) s.heap.size = A at hD ⊢
  have hA : ∀ q : Nat, s.heap.size ≤ q → A q := fun q h => by rw [← hAe]; exact Or.inr h
  have hS : va_S A s.heap s.heap [] := va_S.rf
  have hl := lv_entry ([.ref h0, .ref wy, .int x1]) (n := 5) (Nat.le_of_ble_eq_true rfl)
  rw [lg_entry_eq]
  generalize (lg_sl ([.ref h0, .ref wy, .int x1]) ++ List.replicate (5 - (lg_sl ([.ref h0, .ref wy, .int x1])).length) Slot.unset).toArray = ls at hl ⊢
  have hl : lv_has ls 5 [(0, .ref h0), (1, .ref wy), (2, .int x1)] := hl
  refine lv_aload_n hx hb dX0_plan_0 rfl (lv_at hl 0 rfl) ?_
  refine lv_lconst (v := 1) hx hb dX0_plan_1 (by decide) ?_
  refine va_put (D := (dC, dI)) (ci := 0) (v := .long 1) (ty := .long) (C := RX0) (T := TX0) (N := 3) hx hb hg inG0 tyX0 tyX0_ok nmX0 hown hK.1 hP hD hS 0 rfl rfl 0 (Nat.le_of_ble_eq_true rfl) (hg _ wt_180) (fun _ h9 => h9) rfl (by decide +kernel) rfl rfl (Nat.le_of_ble_eq_true rfl) dX0_plan_2 (fun H locs hP hD hS => ?_)
  obtain ⟨hP, hD⟩ := va_rls (ws' := (([(h0, .inr (0, [.long 1, .ref wk, .ref cs])), (wk, .inl (G 5, 11, .inr (.inr (.inr (.inr (fun ir => if ir < 11 then some (rw ir) else none)))))), (cs, .inl (G 4, 10, .inr (.inr (.inr (.inr (fun ir => if ir < 10 then some (rq ir) else none)))))), (wy, .inr (9, [.int (nI N), .int (nI B), .int (nI D), .ref a1, .ref a2, .ref a3, .ref a4, .ref a5, .ref a6])), (a1, .inl (G 0, 10, .inl f1)), (a2, .inl (G 0, 10, .inl f2)), (a4, .inl (G 0, 6, .inl f4)), (a5, .inl (G 0, 6, .inl f5)), (a6, .inl (G 0, 6, .inl f6))] : va_W) ++ ((((List.range 11).map (fun iq => (rw iq, .inl (G 1, 70, .inr (.inl (F iq)))))) : va_W) ++ ((((List.range 10).map (fun iq => (rq iq, .inl (G 0, 70, .inl (E iq))))) : va_W) ++ [])))) hP hD rfl
  refine lv_iconst (v := 0) hx hb dX0_plan_5 rfl ?_
  refine lv_istore_n (lv' := [(3, .int 0), (0, .ref h0), (1, .ref wy), (2, .int x1)]) hx hb dX0_plan_6 rfl hl (by decide) rfl (fun ls hl => ?_)
  have loop7_3 : ∀ (nf j1 : Nat), 70 + 1 ≤ j1 + nf → j1 ≤ 70 → ∀ (g2 : Nat → Nat → Int64) (H : Heap) (locs : List Loc), va_P (dC, dI) vwCl (([(h0, .inr (0, [.long 1, .ref wk, .ref cs])), (wk, .inl (G 5, 11, .inr (.inr (.inr (.inr (fun ir => if ir < 11 then some (rw ir) else none)))))), (cs, .inl (G 4, 10, .inr (.inr (.inr (.inr (fun ir => if ir < 10 then some (rq ir) else none)))))), (wy, .inr (9, [.int (nI N), .int (nI B), .int (nI D), .ref a1, .ref a2, .ref a3, .ref a4, .ref a5, .ref a6])), (a1, .inl (G 0, 10, .inl f1)), (a2, .inl (G 0, 10, .inl f2)), (a4, .inl (G 0, 6, .inl f4)), (a5, .inl (G 0, 6, .inl f5)), (a6, .inl (G 0, 6, .inl f6))] : va_W) ++ ((((List.range 11).map (fun iq => (rw iq, .inl (G 1, 70, .inr (.inl (g2 iq)))))) : va_W) ++ ((((List.range 10).map (fun iq => (rq iq, .inl (G 0, 70, .inl (E iq))))) : va_W) ++ []))) H → va_D A (([(h0, .inr (0, [.long 1, .ref wk, .ref cs])), (wk, .inl (G 5, 11, .inr (.inr (.inr (.inr (fun ir => if ir < 11 then some (rw ir) else none)))))), (cs, .inl (G 4, 10, .inr (.inr (.inr (.inr (fun ir => if ir < 10 then some (rq ir) else none)))))), (wy, .inr (9, [.int (nI N), .int (nI B), .int (nI D), .ref a1, .ref a2, .ref a3, .ref a4, .ref a5, .ref a6])), (a1, .inl (G 0, 10, .inl f1)), (a2, .inl (G 0, 10, .inl f2)), (a4, .inl (G 0, 6, .inl f4)), (a5, .inl (G 0, 6, .inl f5)), (a6, .inl (G 0, 6, .inl f6))] : va_W) ++ ((((List.range 11).map (fun iq => (rw iq, .inl (G 1, 70, .inr (.inl (g2 iq)))))) : va_W) ++ ((((List.range 10).map (fun iq => (rq iq, .inl (G 0, 70, .inl (E iq))))) : va_W) ++ []))) → va_S A s.heap H locs → ∀ (ls : Array Slot), lv_has ls 5 [(3, .int (nI j1)), (0, .ref h0), (1, .ref wy), (2, .int x1)] → W p l e (headSpec (Cond.code yX0_plan cX0_plan 5 none :: GT) ({ frames := 4, cells := 0, slots := 0, locals := 92 } : Room)).room s m ([.ref h0, .ref wy, .int x1] : List Value).toArray below meth c H locs 0 0 (MQ below (va_Qv (fun (u : Int64 × (Nat → Nat → Int64) × (Nat → Nat → Int32)) => match u with | (u0, u1, u2) => True) (fun (u : Int64 × (Nat → Nat → Int64) × (Nat → Nat → Int32)) (t : State) => match u with | (u0, u1, u2) => va_P (dC, dI) vwCl (([(h0, .inr (0, [.long u0, .ref wk, .ref cs])), (wk, .inl (G 5, 11, .inr (.inr (.inr (.inr (fun ir => if ir < 11 then some (rw ir) else none)))))), (cs, .inl (G 4, 10, .inr (.inr (.inr (.inr (fun ir => if ir < 10 then some (rq ir) else none)))))), (wy, .inr (9, [.int (nI N), .int (nI B), .int (nI D), .ref a1, .ref a2, .ref a3, .ref a4, .ref a5, .ref a6])), (a1, .inl (G 0, 10, .inl f1)), (a2, .inl (G 0, 10, .inl f2)), (a4, .inl (G 0, 6, .inl f4)), (a5, .inl (G 0, 6, .inl f5)), (a6, .inl (G 0, 6, .inl f6))] : va_W) ++ ((((List.range 11).map (fun iq => (rw iq, .inl (G 1, 70, .inr (.inl (u1 iq)))))) : va_W) ++ ((((List.range 10).map (fun iq => (rq iq, .inl (G 0, 70, .inl (u2 iq))))) : va_W) ++ []))) t.heap ∧ va_D A (([(h0, .inr (0, [.long u0, .ref wk, .ref cs])), (wk, .inl (G 5, 11, .inr (.inr (.inr (.inr (fun ir => if ir < 11 then some (rw ir) else none)))))), (cs, .inl (G 4, 10, .inr (.inr (.inr (.inr (fun ir => if ir < 10 then some (rq ir) else none)))))), (wy, .inr (9, [.int (nI N), .int (nI B), .int (nI D), .ref a1, .ref a2, .ref a3, .ref a4, .ref a5, .ref a6])), (a1, .inl (G 0, 10, .inl f1)), (a2, .inl (G 0, 10, .inl f2)), (a4, .inl (G 0, 6, .inl f4)), (a5, .inl (G 0, 6, .inl f5)), (a6, .inl (G 0, 6, .inl f6))] : va_W) ++ ((((List.range 11).map (fun iq => (rw iq, .inl (G 1, 70, .inr (.inl (u1 iq)))))) : va_W) ++ ((((List.range 10).map (fun iq => (rq iq, .inl (G 0, 70, .inl (u2 iq))))) : va_W) ++ [])))) A) ([.ref h0, .ref wy, .int x1] : List Value).toArray s 0 0 A) (F0 m 7 ls []) := by
    intro nf
    induction nf with
    | zero => intro j1 h1 h2; exact absurd h1 (by omega)
    | succ nf ih7_3 =>
      intro j1 hn4 hj5 g2 H locs hP hD hS ls hl
      refine lv_iload_n hx hb dX0_plan_7 rfl (lv_at hl 0 rfl) ?_
      refine lv_bipush (v := 70) hx hb dX0_plan_8 rfl ?_
      refine lv_icmp_ge (tgt := 42) hx hb dX0_plan_10 rfl (fun c6 => ?_) (fun c6 => ?_)
      · skip
        have tn95_ : nIT j1 := fun _ => nI_toInt (by first | omega | (have t := leI c6; omega))
        have n7 : 70 ≤ j1 := by have t := leI c6; rw [show (nI (j1)).toInt = ((j1 : Nat) : Int) from tn95_ ()] at t; have : (70 : Int32).toInt = 70 := qI_70; omega
        refine lv_aload_n hx hb dX0_plan_42 rfl (lv_at hl 2 rfl) ?_
        refine va_getN (D := (dC, dI)) (ci := 9) (v := .int (nI N)) (C := RX9) (T := TX9) (N := 9) hx hb hg inG9 hown hK.1 hP 3 rfl rfl 0 (Nat.le_of_ble_eq_true rfl) (hK.nest wn_59) (fun _ h9 => h9) rfl dX0_plan_43 ?_
        refine lv_iconst (v := 1) hx hb dX0_plan_46 rfl ?_
        refine lv_isub hx hb dX0_plan_47 ?_
        refine lv_istore_n (lv' := [(3, .int ((nI N) - 1)), (0, .ref h0), (1, .ref wy), (2, .int x1)]) hx hb dX0_plan_48 rfl hl (by decide) rfl (fun ls hl => ?_)
        rw [dn_sub] at hl
        have loop49_12 : ∀ (j8 : Nat), j8 ≤ N → ∀ (y9 : Int64) (g10 : Nat → Nat → Int64) (g11 : Nat → Nat → Int32) (H : Heap) (locs : List Loc), va_P (dC, dI) vwCl (([(h0, .inr (0, [.long y9, .ref wk, .ref cs])), (wk, .inl (G 5, 11, .inr (.inr (.inr (.inr (fun ir => if ir < 11 then some (rw ir) else none)))))), (cs, .inl (G 4, 10, .inr (.inr (.inr (.inr (fun ir => if ir < 10 then some (rq ir) else none)))))), (wy, .inr (9, [.int (nI N), .int (nI B), .int (nI D), .ref a1, .ref a2, .ref a3, .ref a4, .ref a5, .ref a6])), (a1, .inl (G 0, 10, .inl f1)), (a2, .inl (G 0, 10, .inl f2)), (a4, .inl (G 0, 6, .inl f4)), (a5, .inl (G 0, 6, .inl f5)), (a6, .inl (G 0, 6, .inl f6))] : va_W) ++ ((((List.range 11).map (fun iq => (rw iq, .inl (G 1, 70, .inr (.inl (g10 iq)))))) : va_W) ++ ((((List.range 10).map (fun iq => (rq iq, .inl (G 0, 70, .inl (g11 iq))))) : va_W) ++ []))) H → va_D A (([(h0, .inr (0, [.long y9, .ref wk, .ref cs])), (wk, .inl (G 5, 11, .inr (.inr (.inr (.inr (fun ir => if ir < 11 then some (rw ir) else none)))))), (cs, .inl (G 4, 10, .inr (.inr (.inr (.inr (fun ir => if ir < 10 then some (rq ir) else none)))))), (wy, .inr (9, [.int (nI N), .int (nI B), .int (nI D), .ref a1, .ref a2, .ref a3, .ref a4, .ref a5, .ref a6])), (a1, .inl (G 0, 10, .inl f1)), (a2, .inl (G 0, 10, .inl f2)), (a4, .inl (G 0, 6, .inl f4)), (a5, .inl (G 0, 6, .inl f5)), (a6, .inl (G 0, 6, .inl f6))] : va_W) ++ ((((List.range 11).map (fun iq => (rw iq, .inl (G 1, 70, .inr (.inl (g10 iq)))))) : va_W) ++ ((((List.range 10).map (fun iq => (rq iq, .inl (G 0, 70, .inl (g11 iq))))) : va_W) ++ []))) → va_S A s.heap H locs → ∀ (ls : Array Slot), lv_has ls 5 [(3, .int (dn j8)), (0, .ref h0), (1, .ref wy), (2, .int x1)] → W p l e (headSpec (Cond.code yX0_plan cX0_plan 5 none :: GT) ({ frames := 4, cells := 0, slots := 0, locals := 92 } : Room)).room s m ([.ref h0, .ref wy, .int x1] : List Value).toArray below meth c H locs 0 0 (MQ below (va_Qv (fun (u : Int64 × (Nat → Nat → Int64) × (Nat → Nat → Int32)) => match u with | (u0, u1, u2) => True) (fun (u : Int64 × (Nat → Nat → Int64) × (Nat → Nat → Int32)) (t : State) => match u with | (u0, u1, u2) => va_P (dC, dI) vwCl (([(h0, .inr (0, [.long u0, .ref wk, .ref cs])), (wk, .inl (G 5, 11, .inr (.inr (.inr (.inr (fun ir => if ir < 11 then some (rw ir) else none)))))), (cs, .inl (G 4, 10, .inr (.inr (.inr (.inr (fun ir => if ir < 10 then some (rq ir) else none)))))), (wy, .inr (9, [.int (nI N), .int (nI B), .int (nI D), .ref a1, .ref a2, .ref a3, .ref a4, .ref a5, .ref a6])), (a1, .inl (G 0, 10, .inl f1)), (a2, .inl (G 0, 10, .inl f2)), (a4, .inl (G 0, 6, .inl f4)), (a5, .inl (G 0, 6, .inl f5)), (a6, .inl (G 0, 6, .inl f6))] : va_W) ++ ((((List.range 11).map (fun iq => (rw iq, .inl (G 1, 70, .inr (.inl (u1 iq)))))) : va_W) ++ ((((List.range 10).map (fun iq => (rq iq, .inl (G 0, 70, .inl (u2 iq))))) : va_W) ++ []))) t.heap ∧ va_D A (([(h0, .inr (0, [.long u0, .ref wk, .ref cs])), (wk, .inl (G 5, 11, .inr (.inr (.inr (.inr (fun ir => if ir < 11 then some (rw ir) else none)))))), (cs, .inl (G 4, 10, .inr (.inr (.inr (.inr (fun ir => if ir < 10 then some (rq ir) else none)))))), (wy, .inr (9, [.int (nI N), .int (nI B), .int (nI D), .ref a1, .ref a2, .ref a3, .ref a4, .ref a5, .ref a6])), (a1, .inl (G 0, 10, .inl f1)), (a2, .inl (G 0, 10, .inl f2)), (a4, .inl (G 0, 6, .inl f4)), (a5, .inl (G 0, 6, .inl f5)), (a6, .inl (G 0, 6, .inl f6))] : va_W) ++ ((((List.range 11).map (fun iq => (rw iq, .inl (G 1, 70, .inr (.inl (u1 iq)))))) : va_W) ++ ((((List.range 10).map (fun iq => (rq iq, .inl (G 0, 70, .inl (u2 iq))))) : va_W) ++ [])))) A) ([.ref h0, .ref wy, .int x1] : List Value).toArray s 0 0 A) (F0 m 49 ls []) := by
          intro j8
          induction j8 with
          | zero =>
            intro hj13 y9 g10 g11 H locs hP hD hS ls hl
            have hl : lv_has ls 5 [(3, .int (-1)), (0, .ref h0), (1, .ref wy), (2, .int x1)] := hl
            refine lv_iload_n hx hb dX0_plan_49 rfl (lv_at hl 0 rfl) ?_
            refine lv_if_lt (tgt := 107) hx hb dX0_plan_50 rfl (fun c14 => ?_) (fun c14 => ?_)
            · skip
              obtain ⟨hP9, hD9⟩ := va_sub2 (ws' := (([(h0, .inr (0, [.long y9, .ref wk, .ref cs])), (wk, .inl (G 5, 11, .inr (.inr (.inr (.inr (fun ir => if ir < 11 then some (rw ir) else none)))))), (cs, .inl (G 4, 10, .inr (.inr (.inr (.inr (fun ir => if ir < 10 then some (rq ir) else none)))))), (wy, .inr (9, [.int (nI N), .int (nI B), .int (nI D), .ref a1, .ref a2, .ref a3, .ref a4, .ref a5, .ref a6])), (a1, .inl (G 0, 10, .inl f1)), (a2, .inl (G 0, 10, .inl f2)), (a4, .inl (G 0, 6, .inl f4)), (a5, .inl (G 0, 6, .inl f5)), (a6, .inl (G 0, 6, .inl f6))] : va_W) ++ ((((List.range 11).map (fun iq => (rw iq, .inl (G 1, 70, .inr (.inl (g10 iq)))))) : va_W) ++ ((((List.range 10).map (fun iq => (rq iq, .inl (G 0, 70, .inl (g11 iq))))) : va_W) ++ [])))) hP hD [0, 1, 2, 3, 4, 5, 6, 7, 8, 9, 10, 11, 12, 13, 14, 15, 16, 17, 18, 19, 20, 21, 22, 23, 24, 25, 26, 27, 28, 29] (by decide +kernel) rfl
              refine W.widen (k := 0) (n := 0) (Nat.le_of_ble_eq_true rfl) (Nat.le_of_ble_eq_true rfl) ?_
              exact W.vret hx hb hr (fun t ht hW => ⟨⟨(y9, g10, g11), rfl, trivial, ⟨by rw [ht]; exact hP9, hD9⟩⟩, hS.F ht⟩) hS.2.2 dX0_plan_107
            · skip
              exact absurd c14 (by decide)
          | succ j8 ih49_12 =>
            intro hj13 y9 g10 g11 H locs hP hD hS ls hl
            have hl : lv_has ls 5 [(3, .int (nI j8)), (0, .ref h0), (1, .ref wy), (2, .int x1)] := hl
            refine lv_iload_n hx hb dX0_plan_49 rfl (lv_at hl 0 rfl) ?_
            refine lv_if_lt (tgt := 107) hx hb dX0_plan_50 rfl (fun c15 => ?_) (fun c15 => ?_)
            · skip
              have t_hj5 := hj5
              have t_n7 := n7
              have t_hj13 := hj13
              have t_c15 := ltI c15
              have : (0 : Int32).toInt = 0 := qI_0
              have t_n0 : (nI N).toInt = (N : Int) := tn92_ ()
              have t_n1 : (nI B).toInt = (B : Int) := tn93_ ()
              have t_n2 : (nI D).toInt = (D : Int) := tn94_ ()
              have t_n3 : (nI j1).toInt = (j1 : Int) := tn95_ ()
              have tn96_ : nIT j8 := fun _ => nI_toInt (by omega)
              have t_n4 : (nI j8).toInt = (j8 : Int) := tn96_ ()
              have t_n0 : (nI N).toInt = (N : Int) := tn92_ ()
              have t_n1 : (nI B).toInt = (B : Int) := tn93_ ()
              have t_n2 : (nI D).toInt = (D : Int) := tn94_ ()
              have t_n3 : (nI j1).toInt = (j1 : Int) := tn95_ ()
              exfalso; omega
            · skip
              have tn97_ : nIT j8 := fun _ => nI_toInt (by first | omega | (have t := nltI c15; omega))
              have n16 : 0 ≤ j8 := by have t := nltI c15; rw [show (nI (j8)).toInt = ((j8 : Nat) : Int) from tn97_ ()] at t; have : (0 : Int32).toInt = 0 := qI_0; omega
              refine lv_aload_n hx hb dX0_plan_53 rfl (lv_at hl 1 rfl) ?_
              refine lv_dup hx hb dX0_plan_54 rfl ?_
              refine va_get (D := (dC, dI)) (ci := 0) (v := .long y9) (C := RX0) (T := TX0) (N := 3) hx hb hg inG0 hown hK.1 hP 0 rfl rfl 0 (Nat.le_of_ble_eq_true rfl) (hg _ wt_180) (fun _ h9 => h9) rfl dX0_plan_55 ?_
              refine lv_ldc2 (v := 20) hx hb hown (hg _ wt_661) dX0_plan_58 ?_
              refine lv_lmul hx hb dX0_plan_61 ?_
              refine va_put (D := (dC, dI)) (ci := 0) (v := .long (y9 * 20)) (ty := .long) (C := RX0) (T := TX0) (N := 3) hx hb hg inG0 tyX0 tyX0_ok nmX0 hown hK.1 hP hD hS 0 rfl rfl 0 (Nat.le_of_ble_eq_true rfl) (hg _ wt_180) (fun _ h9 => h9) rfl (by decide +kernel) rfl rfl (Nat.le_of_ble_eq_true rfl) dX0_plan_62 (fun H locs hP hD hS => ?_)
              obtain ⟨hP, hD⟩ := va_rls (ws' := (([(h0, .inr (0, [.long (y9 * 20), .ref wk, .ref cs])), (wk, .inl (G 5, 11, .inr (.inr (.inr (.inr (fun ir => if ir < 11 then some (rw ir) else none)))))), (cs, .inl (G 4, 10, .inr (.inr (.inr (.inr (fun ir => if ir < 10 then some (rq ir) else none)))))), (wy, .inr (9, [.int (nI N), .int (nI B), .int (nI D), .ref a1, .ref a2, .ref a3, .ref a4, .ref a5, .ref a6])), (a1, .inl (G 0, 10, .inl f1)), (a2, .inl (G 0, 10, .inl f2)), (a4, .inl (G 0, 6, .inl f4)), (a5, .inl (G 0, 6, .inl f5)), (a6, .inl (G 0, 6, .inl f6))] : va_W) ++ ((((List.range 11).map (fun iq => (rw iq, .inl (G 1, 70, .inr (.inl (g10 iq)))))) : va_W) ++ ((((List.range 10).map (fun iq => (rq iq, .inl (G 0, 70, .inl (g11 iq))))) : va_W) ++ [])))) hP hD rfl
              refine lv_aload_n hx hb dX0_plan_65 rfl (lv_at hl 1 rfl) ?_
              refine lv_aload_n hx hb dX0_plan_66 rfl (lv_at hl 2 rfl) ?_
              refine lv_iload_n hx hb dX0_plan_67 rfl (lv_at hl 0 rfl) ?_
              refine lv_bipush (v := (-4)) hx hb dX0_plan_68 rfl ?_
              refine lv_iload_n hx hb dX0_plan_70 rfl (lv_at hl 3 rfl) ?_
              obtain ⟨hPc, hDc, hFc⟩ := va_sub3 (ws' := (([(h0, .inr (0, [.long (y9 * 20), .ref wk, .ref cs])), (wk, .inl (G 5, 11, .inr (.inr (.inr (.inr (fun ir => if ir < 11 then some (rw ir) else none)))))), (cs, .inl (G 4, 10, .inr (.inr (.inr (.inr (fun ir => if ir < 10 then some (rq ir) else none)))))), (wy, .inr (9, [.int (nI N), .int (nI B), .int (nI D), .ref a1, .ref a2, .ref a3, .ref a4, .ref a5, .ref a6])), (a1, .inl (G 0, 10, .inl f1)), (a2, .inl (G 0, 10, .inl f2)), (a4, .inl (G 0, 6, .inl f4)), (a5, .inl (G 0, 6, .inl f5)), (a6, .inl (G 0, 6, .inl f6))] : va_W) ++ ((((List.range 11).map (fun iq => (rw iq, .inl (G 1, 70, .inr (.inl (g10 iq)))))) : va_W) ++ ((((List.range 10).map (fun iq => (rq iq, .inl (G 0, 70, .inl (g11 iq))))) : va_W) ++ [])))) hP hD hS hA [0, 1, 2, 3, 4, 5, 6, 7, 8, 9, 10, 11, 12, 13, 14, 15, 16, 17, 18, 19, 20, 21, 22, 23, 24, 25, 26, 27, 28, 29] (by decide +kernel) rfl
              refine va_callv (va_runV (As := [.ref wy, .int (nI j8), .int (-4), .int x1]) (rest := []) ⟨hx, hb, hml, hown, hg⟩ (c_X0_chooseFrom l dC dI G _ h0 wk cs wy a1 a2 a3 a4 a5 a6 N B D j8 (-4) x1 (y9 * 20) f1 f2 f4 f5 f6 rw rq g10 g11 (by have t_hj5 := hj5; have t_n7 := n7; have t_hj13 := hj13; have t_n16 := n16; have tnb_ := nib5 tn92_ tn93_ tn94_ tn95_ tn97_; have : ((-4) : Int32).toInt = -4 := qI_m4; omega) hN_N hB_B hD_D (by first | omega | (have t_hj5 := hj5; have t_n7 := n7; have t_hj13 := hj13; have t_n16 := n16; have tnb_ := nib5 tn92_ tn93_ tn94_ tn95_ tn97_; have : ((-4) : Int32).toInt = -4 := qI_m4; omega))) (kwV hg mfX0_chooseFrom wt_662 ⟨Nat.le_of_ble_eq_true rfl, Nat.le_of_ble_eq_true rfl⟩) (preVW hK hPc hDc (ci := 0) (r := (RX0, TX0, 3)) rfl rfl) rfl rfl hl.1 rfl (lv_room (Nat.le_of_ble_eq_true rfl)) dX0_plan_71 ⟨Nat.le_of_ble_eq_true rfl, Nat.le_of_ble_eq_true rfl⟩) hS (fun q _ h => hFc q h) hFc (fun ur17 t H1 locs ht hvm w18 hB hz1 hk1 hS => ?_)
              obtain ⟨u19, u20, u21⟩ := ur17
              obtain ⟨hP1, hD1⟩ := hB
              rw [ht] at hP1
              obtain ⟨hP, hD⟩ := va_join (wr := []) (w1 := (([(h0, .inr (0, [.long u19, .ref wk, .ref cs])), (wk, .inl (G 5, 11, .inr (.inr (.inr (.inr (fun ir => if ir < 11 then some (rw ir) else none)))))), (cs, .inl (G 4, 10, .inr (.inr (.inr (.inr (fun ir => if ir < 10 then some (rq ir) else none)))))), (wy, .inr (9, [.int (nI N), .int (nI B), .int (nI D), .ref a1, .ref a2, .ref a3, .ref a4, .ref a5, .ref a6])), (a1, .inl (G 0, 10, .inl f1)), (a2, .inl (G 0, 10, .inl f2)), (a4, .inl (G 0, 6, .inl f4)), (a5, .inl (G 0, 6, .inl f5)), (a6, .inl (G 0, 6, .inl f6))] : va_W) ++ ((((List.range 11).map (fun iq => (rw iq, .inl (G 1, 70, .inr (.inl (u20 iq)))))) : va_W) ++ ((((List.range 10).map (fun iq => (rq iq, .inl (G 0, 70, .inl (u21 iq))))) : va_W) ++ [])))) hP hD [0, 1, 2, 3, 4, 5, 6, 7, 8, 9, 10, 11, 12, 13, 14, 15, 16, 17, 18, 19, 20, 21, 22, 23, 24, 25, 26, 27, 28, 29] [] rfl rfl (by decide +kernel) (by decide +kernel) hk1 hFc hP1 hD1
              generalize H1 = H at hP hS ⊢
              obtain ⟨hP, hD⟩ := va_rls (ws' := (([(h0, .inr (0, [.long u19, .ref wk, .ref cs])), (wk, .inl (G 5, 11, .inr (.inr (.inr (.inr (fun ir => if ir < 11 then some (rw ir) else none)))))), (cs, .inl (G 4, 10, .inr (.inr (.inr (.inr (fun ir => if ir < 10 then some (rq ir) else none)))))), (wy, .inr (9, [.int (nI N), .int (nI B), .int (nI D), .ref a1, .ref a2, .ref a3, .ref a4, .ref a5, .ref a6])), (a1, .inl (G 0, 10, .inl f1)), (a2, .inl (G 0, 10, .inl f2)), (a4, .inl (G 0, 6, .inl f4)), (a5, .inl (G 0, 6, .inl f5)), (a6, .inl (G 0, 6, .inl f6))] : va_W) ++ ((((List.range 11).map (fun iq => (rw iq, .inl (G 1, 70, .inr (.inl (u20 iq)))))) : va_W) ++ ((((List.range 10).map (fun iq => (rq iq, .inl (G 0, 70, .inl (u21 iq))))) : va_W) ++ [])))) hP hD rfl
              refine lv_iconst (v := 0) hx hb dX0_plan_74 rfl ?_
              refine lv_istore (lv' := [(4, .int 0), (3, .int (nI j8)), (0, .ref h0), (1, .ref wy), (2, .int x1)]) hx hb dX0_plan_75 hl (by decide) rfl (fun ls hl => ?_)
              have loop77_26 : ∀ (nf j22 : Nat), B + 1 ≤ j22 + nf → j22 ≤ B → ∀ (y23 : Int64) (g24 : Nat → Nat → Int64) (g25 : Nat → Nat → Int32) (H : Heap) (locs : List Loc), va_P (dC, dI) vwCl (([(h0, .inr (0, [.long y23, .ref wk, .ref cs])), (wk, .inl (G 5, 11, .inr (.inr (.inr (.inr (fun ir => if ir < 11 then some (rw ir) else none)))))), (cs, .inl (G 4, 10, .inr (.inr (.inr (.inr (fun ir => if ir < 10 then some (rq ir) else none)))))), (wy, .inr (9, [.int (nI N), .int (nI B), .int (nI D), .ref a1, .ref a2, .ref a3, .ref a4, .ref a5, .ref a6])), (a1, .inl (G 0, 10, .inl f1)), (a2, .inl (G 0, 10, .inl f2)), (a4, .inl (G 0, 6, .inl f4)), (a5, .inl (G 0, 6, .inl f5)), (a6, .inl (G 0, 6, .inl f6))] : va_W) ++ ((((List.range 11).map (fun iq => (rw iq, .inl (G 1, 70, .inr (.inl (g24 iq)))))) : va_W) ++ ((((List.range 10).map (fun iq => (rq iq, .inl (G 0, 70, .inl (g25 iq))))) : va_W) ++ []))) H → va_D A (([(h0, .inr (0, [.long y23, .ref wk, .ref cs])), (wk, .inl (G 5, 11, .inr (.inr (.inr (.inr (fun ir => if ir < 11 then some (rw ir) else none)))))), (cs, .inl (G 4, 10, .inr (.inr (.inr (.inr (fun ir => if ir < 10 then some (rq ir) else none)))))), (wy, .inr (9, [.int (nI N), .int (nI B), .int (nI D), .ref a1, .ref a2, .ref a3, .ref a4, .ref a5, .ref a6])), (a1, .inl (G 0, 10, .inl f1)), (a2, .inl (G 0, 10, .inl f2)), (a4, .inl (G 0, 6, .inl f4)), (a5, .inl (G 0, 6, .inl f5)), (a6, .inl (G 0, 6, .inl f6))] : va_W) ++ ((((List.range 11).map (fun iq => (rw iq, .inl (G 1, 70, .inr (.inl (g24 iq)))))) : va_W) ++ ((((List.range 10).map (fun iq => (rq iq, .inl (G 0, 70, .inl (g25 iq))))) : va_W) ++ []))) → va_S A s.heap H locs → ∀ (ls : Array Slot), lv_has ls 5 [(4, .int (nI j22)), (3, .int (nI j8)), (0, .ref h0), (1, .ref wy), (2, .int x1)] → W p l e (headSpec (Cond.code yX0_plan cX0_plan 5 none :: GT) ({ frames := 4, cells := 0, slots := 0, locals := 92 } : Room)).room s m ([.ref h0, .ref wy, .int x1] : List Value).toArray below meth c H locs 0 0 (MQ below (va_Qv (fun (u : Int64 × (Nat → Nat → Int64) × (Nat → Nat → Int32)) => match u with | (u0, u1, u2) => True) (fun (u : Int64 × (Nat → Nat → Int64) × (Nat → Nat → Int32)) (t : State) => match u with | (u0, u1, u2) => va_P (dC, dI) vwCl (([(h0, .inr (0, [.long u0, .ref wk, .ref cs])), (wk, .inl (G 5, 11, .inr (.inr (.inr (.inr (fun ir => if ir < 11 then some (rw ir) else none)))))), (cs, .inl (G 4, 10, .inr (.inr (.inr (.inr (fun ir => if ir < 10 then some (rq ir) else none)))))), (wy, .inr (9, [.int (nI N), .int (nI B), .int (nI D), .ref a1, .ref a2, .ref a3, .ref a4, .ref a5, .ref a6])), (a1, .inl (G 0, 10, .inl f1)), (a2, .inl (G 0, 10, .inl f2)), (a4, .inl (G 0, 6, .inl f4)), (a5, .inl (G 0, 6, .inl f5)), (a6, .inl (G 0, 6, .inl f6))] : va_W) ++ ((((List.range 11).map (fun iq => (rw iq, .inl (G 1, 70, .inr (.inl (u1 iq)))))) : va_W) ++ ((((List.range 10).map (fun iq => (rq iq, .inl (G 0, 70, .inl (u2 iq))))) : va_W) ++ []))) t.heap ∧ va_D A (([(h0, .inr (0, [.long u0, .ref wk, .ref cs])), (wk, .inl (G 5, 11, .inr (.inr (.inr (.inr (fun ir => if ir < 11 then some (rw ir) else none)))))), (cs, .inl (G 4, 10, .inr (.inr (.inr (.inr (fun ir => if ir < 10 then some (rq ir) else none)))))), (wy, .inr (9, [.int (nI N), .int (nI B), .int (nI D), .ref a1, .ref a2, .ref a3, .ref a4, .ref a5, .ref a6])), (a1, .inl (G 0, 10, .inl f1)), (a2, .inl (G 0, 10, .inl f2)), (a4, .inl (G 0, 6, .inl f4)), (a5, .inl (G 0, 6, .inl f5)), (a6, .inl (G 0, 6, .inl f6))] : va_W) ++ ((((List.range 11).map (fun iq => (rw iq, .inl (G 1, 70, .inr (.inl (u1 iq)))))) : va_W) ++ ((((List.range 10).map (fun iq => (rq iq, .inl (G 0, 70, .inl (u2 iq))))) : va_W) ++ [])))) A) ([.ref h0, .ref wy, .int x1] : List Value).toArray s 0 0 A) (F0 m 77 ls []) := by
                intro nf
                induction nf with
                | zero => intro j22 h1 h2; exact absurd h1 (by omega)
                | succ nf ih77_26 =>
                  intro j22 hn27 hj28 y23 g24 g25 H locs hP hD hS ls hl
                  refine lv_iload hx hb dX0_plan_77 (lv_at hl 0 rfl) ?_
                  refine lv_aload_n hx hb dX0_plan_79 rfl (lv_at hl 3 rfl) ?_
                  refine va_getN (D := (dC, dI)) (ci := 9) (v := .int (nI B)) (C := RX9) (T := TX9) (N := 9) hx hb hg inG9 hown hK.1 hP 3 rfl rfl 1 (Nat.le_of_ble_eq_true rfl) (hK.nest wn_63) (fun _ h9 => h9) rfl dX0_plan_80 ?_
                  refine lv_icmp_ge (tgt := 101) hx hb dX0_plan_83 rfl (fun c29 => ?_) (fun c29 => ?_)
                  · skip
                    have tn98_ : nIT j22 := fun _ => nI_toInt (by first | omega | (have t := leI c29; omega))
                    have n30 : B ≤ j22 := by have t := leI c29; rw [show (nI (j22)).toInt = ((j22 : Nat) : Int) from tn98_ ()] at t; rw [show (nI (B)).toInt = ((B : Nat) : Int) from tn93_ ()] at t; omega
                    refine lv_iinc (v := dn j8) (lv' := [(3, .int (dn j8)), (4, .int (nI j22)), (0, .ref h0), (1, .ref wy), (2, .int x1)]) hx hb dX0_plan_101 hl (k := 1) rfl (by exact dn_pred _) (by decide) rfl (fun ls hl => ?_)
                    refine lv_goto (tgt := 49) hx hb dX0_plan_104 rfl ?_
                    exact ih49_12 (by omega) y23 g24 g25 _ _ hP hD hS ls (lv_sub hl [0, 2, 3, 4] rfl)
                  · skip
                    have tn99_ : nIT j22 := fun _ => nI_toInt (by first | omega | (have t := nleI c29; omega))
                    have n31 : j22 < B := by have t := nleI c29; rw [show (nI (j22)).toInt = ((j22 : Nat) : Int) from tn99_ ()] at t; rw [show (nI (B)).toInt = ((B : Nat) : Int) from tn93_ ()] at t; omega
                    refine lv_aload_n hx hb dX0_plan_86 rfl (lv_at hl 2 rfl) ?_
                    refine lv_aload_n hx hb dX0_plan_87 rfl (lv_at hl 3 rfl) ?_
                    refine lv_iload_n hx hb dX0_plan_88 rfl (lv_at hl 1 rfl) ?_
                    refine lv_iload hx hb dX0_plan_89 (lv_at hl 0 rfl) ?_
                    refine lv_iload_n hx hb dX0_plan_91 rfl (lv_at hl 4 rfl) ?_
                    obtain ⟨hPc, hDc, hFc⟩ := va_sub3 (ws' := (([(h0, .inr (0, [.long y23, .ref wk, .ref cs])), (wk, .inl (G 5, 11, .inr (.inr (.inr (.inr (fun ir => if ir < 11 then some (rw ir) else none)))))), (cs, .inl (G 4, 10, .inr (.inr (.inr (.inr (fun ir => if ir < 10 then some (rq ir) else none)))))), (wy, .inr (9, [.int (nI N), .int (nI B), .int (nI D), .ref a1, .ref a2, .ref a3, .ref a4, .ref a5, .ref a6])), (a1, .inl (G 0, 10, .inl f1)), (a2, .inl (G 0, 10, .inl f2)), (a4, .inl (G 0, 6, .inl f4)), (a5, .inl (G 0, 6, .inl f5)), (a6, .inl (G 0, 6, .inl f6))] : va_W) ++ ((((List.range 11).map (fun iq => (rw iq, .inl (G 1, 70, .inr (.inl (g24 iq)))))) : va_W) ++ ((((List.range 10).map (fun iq => (rq iq, .inl (G 0, 70, .inl (g25 iq))))) : va_W) ++ [])))) hP hD hS hA [0, 1, 2, 3, 4, 5, 6, 7, 8, 9, 10, 11, 12, 13, 14, 15, 16, 17, 18, 19, 20, 21, 22, 23, 24, 25, 26, 27, 28, 29] (by decide +kernel) rfl
                    refine va_callv (va_runV (As := [.ref wy, .int (nI j8), .int (nI j22), .int x1]) (rest := []) ⟨hx, hb, hml, hown, hg⟩ (c_X0_chooseFrom l dC dI G _ h0 wk cs wy a1 a2 a3 a4 a5 a6 N B D j8 (nI j22) x1 y23 f1 f2 f4 f5 f6 rw rq g24 g25 (by have t_hj5 := hj5; have t_n7 := n7; have t_hj13 := hj13; have t_n16 := n16; have t_hj28 := hj28; have t_n31 := n31; have tnb_ := nib6 tn92_ tn93_ tn94_ tn95_ tn97_ tn99_; omega) hN_N hB_B hD_D (by first | omega | (have t_hj5 := hj5; have t_n7 := n7; have t_hj13 := hj13; have t_n16 := n16; have t_hj28 := hj28; have t_n31 := n31; have tnb_ := nib6 tn92_ tn93_ tn94_ tn95_ tn97_ tn99_; omega))) (kwV hg mfX0_chooseFrom wt_662 ⟨Nat.le_of_ble_eq_true rfl, Nat.le_of_ble_eq_true rfl⟩) (preVW hK hPc hDc (ci := 0) (r := (RX0, TX0, 3)) rfl rfl) rfl rfl hl.1 rfl (lv_room (Nat.le_of_ble_eq_true rfl)) dX0_plan_92 ⟨Nat.le_of_ble_eq_true rfl, Nat.le_of_ble_eq_true rfl⟩) hS (fun q _ h => hFc q h) hFc (fun ur32 t H1 locs ht hvm w33 hB hz1 hk1 hS => ?_)
                    obtain ⟨u34, u35, u36⟩ := ur32
                    obtain ⟨hP1, hD1⟩ := hB
                    rw [ht] at hP1
                    obtain ⟨hP, hD⟩ := va_join (wr := []) (w1 := (([(h0, .inr (0, [.long u34, .ref wk, .ref cs])), (wk, .inl (G 5, 11, .inr (.inr (.inr (.inr (fun ir => if ir < 11 then some (rw ir) else none)))))), (cs, .inl (G 4, 10, .inr (.inr (.inr (.inr (fun ir => if ir < 10 then some (rq ir) else none)))))), (wy, .inr (9, [.int (nI N), .int (nI B), .int (nI D), .ref a1, .ref a2, .ref a3, .ref a4, .ref a5, .ref a6])), (a1, .inl (G 0, 10, .inl f1)), (a2, .inl (G 0, 10, .inl f2)), (a4, .inl (G 0, 6, .inl f4)), (a5, .inl (G 0, 6, .inl f5)), (a6, .inl (G 0, 6, .inl f6))] : va_W) ++ ((((List.range 11).map (fun iq => (rw iq, .inl (G 1, 70, .inr (.inl (u35 iq)))))) : va_W) ++ ((((List.range 10).map (fun iq => (rq iq, .inl (G 0, 70, .inl (u36 iq))))) : va_W) ++ [])))) hP hD [0, 1, 2, 3, 4, 5, 6, 7, 8, 9, 10, 11, 12, 13, 14, 15, 16, 17, 18, 19, 20, 21, 22, 23, 24, 25, 26, 27, 28, 29] [] rfl rfl (by decide +kernel) (by decide +kernel) hk1 hFc hP1 hD1
                    generalize H1 = H at hP hS ⊢
                    obtain ⟨hP, hD⟩ := va_rls (ws' := (([(h0, .inr (0, [.long u34, .ref wk, .ref cs])), (wk, .inl (G 5, 11, .inr (.inr (.inr (.inr (fun ir => if ir < 11 then some (rw ir) else none)))))), (cs, .inl (G 4, 10, .inr (.inr (.inr (.inr (fun ir => if ir < 10 then some (rq ir) else none)))))), (wy, .inr (9, [.int (nI N), .int (nI B), .int (nI D), .ref a1, .ref a2, .ref a3, .ref a4, .ref a5, .ref a6])), (a1, .inl (G 0, 10, .inl f1)), (a2, .inl (G 0, 10, .inl f2)), (a4, .inl (G 0, 6, .inl f4)), (a5, .inl (G 0, 6, .inl f5)), (a6, .inl (G 0, 6, .inl f6))] : va_W) ++ ((((List.range 11).map (fun iq => (rw iq, .inl (G 1, 70, .inr (.inl (u35 iq)))))) : va_W) ++ ((((List.range 10).map (fun iq => (rq iq, .inl (G 0, 70, .inl (u36 iq))))) : va_W) ++ [])))) hP hD rfl
                    refine lv_iinc (v := nI (j22 + 1)) (lv' := [(4, .int (nI (j22 + 1))), (3, .int (nI j8)), (0, .ref h0), (1, .ref wy), (2, .int x1)]) hx hb dX0_plan_95 hl (k := 0) rfl (by rw [show Int32.ofInt 1 = nI 1 from by decide]; exact nI_add _ _) (by decide) rfl (fun ls hl => ?_)
                    refine lv_goto (tgt := 77) hx hb dX0_plan_98 rfl ?_
                    exact ih77_26 (j22 + 1) (by omega) (by omega) u34 u35 u36 _ _ hP hD hS ls (lv_sub hl [0, 1, 2, 3, 4] rfl)
              exact loop77_26 (B + 1) 0 (by omega) (by omega) u19 u20 u21 _ _ hP hD hS ls (lv_sub hl [0, 1, 2, 3, 4] rfl)
        exact loop49_12 N (Nat.le_refl _) 1 g2 E _ _ hP hD hS ls (lv_sub hl [0, 1, 2, 3] rfl)
      · skip
        have tn100_ : nIT j1 := fun _ => nI_toInt (by first | omega | (have t := nleI c6; omega))
        have n37 : j1 < 70 := by have t := nleI c6; rw [show (nI (j1)).toInt = ((j1 : Nat) : Int) from tn100_ ()] at t; have : (70 : Int32).toInt = 70 := qI_70; omega
        refine lv_aload_n hx hb dX0_plan_13 rfl (lv_at hl 1 rfl) ?_
        refine va_get (D := (dC, dI)) (ci := 0) (v := .ref wk) (C := RX0) (T := TX0) (N := 3) hx hb hg inG0 hown hK.1 hP 0 rfl rfl 1 (Nat.le_of_ble_eq_true rfl) (hg _ wt_182) (fun _ h9 => h9) rfl dX0_plan_14 ?_
        refine lv_aload_n hx hb dX0_plan_17 rfl (lv_at hl 2 rfl) ?_
        refine va_getN (D := (dC, dI)) (ci := 9) (v := .int (nI N)) (C := RX9) (T := TX9) (N := 9) hx hb hg inG9 hown hK.1 hP 3 rfl rfl 0 (Nat.le_of_ble_eq_true rfl) (hK.nest wn_59) (fun _ h9 => h9) rfl dX0_plan_18 ?_
        refine va_aldA hx hb hK.1 hP 1 5 rfl rfl (vp_in_nI (by first | omega | (have t_hj5 := hj5; have t_n37 := n37; have tnb_ := nib4 tn92_ tn93_ tn94_ tn100_; omega)) (by decide)) dX0_plan_21 ?_
        refine lv_cgv (y := .ref (rw N)) (rowref (by first | omega | (have t_hj5 := hj5; have t_n37 := n37; have tnb_ := nib4 tn92_ tn93_ tn94_ tn100_; omega)) (by decide)) ?_
        refine lv_iload_n hx hb dX0_plan_22 rfl (lv_at hl 0 rfl) ?_
        refine lv_iload_n hx hb dX0_plan_23 rfl (lv_at hl 0 rfl) ?_
        refine lv_bipush (v := 10) hx hb dX0_plan_24 rfl ?_
        refine lv_irem hx hb dX0_plan_26 (by decide) ?_
        refine lv_cg (y := nI (j1 % 10)) (by rw [show (10 : Int32) = nI 10 from rfl]; exact pk_rem (by omega) (by omega) (by omega)) ?_
        have cut35_39 : ∀ (y38 : Int64) (H : Heap) (locs : List Loc), va_P (dC, dI) vwCl (([(h0, .inr (0, [.long 1, .ref wk, .ref cs])), (wk, .inl (G 5, 11, .inr (.inr (.inr (.inr (fun ir => if ir < 11 then some (rw ir) else none)))))), (cs, .inl (G 4, 10, .inr (.inr (.inr (.inr (fun ir => if ir < 10 then some (rq ir) else none)))))), (wy, .inr (9, [.int (nI N), .int (nI B), .int (nI D), .ref a1, .ref a2, .ref a3, .ref a4, .ref a5, .ref a6])), (a1, .inl (G 0, 10, .inl f1)), (a2, .inl (G 0, 10, .inl f2)), (a4, .inl (G 0, 6, .inl f4)), (a5, .inl (G 0, 6, .inl f5)), (a6, .inl (G 0, 6, .inl f6))] : va_W) ++ ((((List.range 11).map (fun iq => (rw iq, .inl (G 1, 70, .inr (.inl (g2 iq)))))) : va_W) ++ ((((List.range 10).map (fun iq => (rq iq, .inl (G 0, 70, .inl (E iq))))) : va_W) ++ []))) H → va_D A (([(h0, .inr (0, [.long 1, .ref wk, .ref cs])), (wk, .inl (G 5, 11, .inr (.inr (.inr (.inr (fun ir => if ir < 11 then some (rw ir) else none)))))), (cs, .inl (G 4, 10, .inr (.inr (.inr (.inr (fun ir => if ir < 10 then some (rq ir) else none)))))), (wy, .inr (9, [.int (nI N), .int (nI B), .int (nI D), .ref a1, .ref a2, .ref a3, .ref a4, .ref a5, .ref a6])), (a1, .inl (G 0, 10, .inl f1)), (a2, .inl (G 0, 10, .inl f2)), (a4, .inl (G 0, 6, .inl f4)), (a5, .inl (G 0, 6, .inl f5)), (a6, .inl (G 0, 6, .inl f6))] : va_W) ++ ((((List.range 11).map (fun iq => (rw iq, .inl (G 1, 70, .inr (.inl (g2 iq)))))) : va_W) ++ ((((List.range 10).map (fun iq => (rq iq, .inl (G 0, 70, .inl (E iq))))) : va_W) ++ []))) → va_S A s.heap H locs → ∀ (ls : Array Slot), lv_has ls 5 [(3, .int (nI j1)), (0, .ref h0), (1, .ref wy), (2, .int x1)] → W p l e (headSpec (Cond.code yX0_plan cX0_plan 5 none :: GT) ({ frames := 4, cells := 0, slots := 0, locals := 92 } : Room)).room s m ([.ref h0, .ref wy, .int x1] : List Value).toArray below meth c H locs 0 0 (MQ below (va_Qv (fun (u : Int64 × (Nat → Nat → Int64) × (Nat → Nat → Int32)) => match u with | (u0, u1, u2) => True) (fun (u : Int64 × (Nat → Nat → Int64) × (Nat → Nat → Int32)) (t : State) => match u with | (u0, u1, u2) => va_P (dC, dI) vwCl (([(h0, .inr (0, [.long u0, .ref wk, .ref cs])), (wk, .inl (G 5, 11, .inr (.inr (.inr (.inr (fun ir => if ir < 11 then some (rw ir) else none)))))), (cs, .inl (G 4, 10, .inr (.inr (.inr (.inr (fun ir => if ir < 10 then some (rq ir) else none)))))), (wy, .inr (9, [.int (nI N), .int (nI B), .int (nI D), .ref a1, .ref a2, .ref a3, .ref a4, .ref a5, .ref a6])), (a1, .inl (G 0, 10, .inl f1)), (a2, .inl (G 0, 10, .inl f2)), (a4, .inl (G 0, 6, .inl f4)), (a5, .inl (G 0, 6, .inl f5)), (a6, .inl (G 0, 6, .inl f6))] : va_W) ++ ((((List.range 11).map (fun iq => (rw iq, .inl (G 1, 70, .inr (.inl (u1 iq)))))) : va_W) ++ ((((List.range 10).map (fun iq => (rq iq, .inl (G 0, 70, .inl (u2 iq))))) : va_W) ++ []))) t.heap ∧ va_D A (([(h0, .inr (0, [.long u0, .ref wk, .ref cs])), (wk, .inl (G 5, 11, .inr (.inr (.inr (.inr (fun ir => if ir < 11 then some (rw ir) else none)))))), (cs, .inl (G 4, 10, .inr (.inr (.inr (.inr (fun ir => if ir < 10 then some (rq ir) else none)))))), (wy, .inr (9, [.int (nI N), .int (nI B), .int (nI D), .ref a1, .ref a2, .ref a3, .ref a4, .ref a5, .ref a6])), (a1, .inl (G 0, 10, .inl f1)), (a2, .inl (G 0, 10, .inl f2)), (a4, .inl (G 0, 6, .inl f4)), (a5, .inl (G 0, 6, .inl f5)), (a6, .inl (G 0, 6, .inl f6))] : va_W) ++ ((((List.range 11).map (fun iq => (rw iq, .inl (G 1, 70, .inr (.inl (u1 iq)))))) : va_W) ++ ((((List.range 10).map (fun iq => (rq iq, .inl (G 0, 70, .inl (u2 iq))))) : va_W) ++ [])))) A) ([.ref h0, .ref wy, .int x1] : List Value).toArray s 0 0 A) (F0 m 35 ls [.long y38, .int (nI j1), .ref (rw N)]) := by
          intro y38 H locs hP hD hS ls hl
          refine va_lastB (j := N) hx hb hK.1 hP hD hS 1 (by first | omega | (have t_hj5 := hj5; have t_n37 := n37; have tnb_ := nib4 tn92_ tn93_ tn94_ tn100_; omega)) rfl (vp_in_nI (by first | omega | (have t_hj5 := hj5; have t_n37 := n37; have tnb_ := nib4 tn92_ tn93_ tn94_ tn100_; omega)) (by decide)) dX0_plan_35 (fun H locs hP hD hS => ?_)
          rw [nI_clamp (by first | omega | (have t_hj5 := hj5; have t_n37 := n37; have tnb_ := nib4 tn92_ tn93_ tn94_ tn100_; omega))] at hP hD
          obtain ⟨hP, hD⟩ := va_rls (ws' := (([(h0, .inr (0, [.long 1, .ref wk, .ref cs])), (wk, .inl (G 5, 11, .inr (.inr (.inr (.inr (fun ir => if ir < 11 then some (rw ir) else none)))))), (cs, .inl (G 4, 10, .inr (.inr (.inr (.inr (fun ir => if ir < 10 then some (rq ir) else none)))))), (wy, .inr (9, [.int (nI N), .int (nI B), .int (nI D), .ref a1, .ref a2, .ref a3, .ref a4, .ref a5, .ref a6])), (a1, .inl (G 0, 10, .inl f1)), (a2, .inl (G 0, 10, .inl f2)), (a4, .inl (G 0, 6, .inl f4)), (a5, .inl (G 0, 6, .inl f5)), (a6, .inl (G 0, 6, .inl f6))] : va_W) ++ ((((List.range 11).map (fun iq => (rw iq, .inl (G 1, 70, .inr (.inl ((va_up g2 N (vp_updL (g2 N) j1 y38)) iq)))))) : va_W) ++ ((((List.range 10).map (fun iq => (rq iq, .inl (G 0, 70, .inl (E iq))))) : va_W) ++ [])))) hP hD rfl
          refine lv_iinc (v := nI (j1 + 1)) (lv' := [(3, .int (nI (j1 + 1))), (0, .ref h0), (1, .ref wy), (2, .int x1)]) hx hb dX0_plan_36 hl (k := 0) rfl (by rw [show Int32.ofInt 1 = nI 1 from by decide]; exact nI_add _ _) (by decide) rfl (fun ls hl => ?_)
          refine lv_goto (tgt := 7) hx hb dX0_plan_39 rfl ?_
          exact ih7_3 (j1 + 1) (by omega) (by omega) (va_up g2 N (vp_updL (g2 N) j1 y38)) _ _ hP hD hS ls (lv_sub hl [0, 1, 2, 3] rfl)
        refine lv_if_ne (tgt := 34) hx hb dX0_plan_27 rfl (fun c40 => ?_) (fun c40 => ?_)
        · skip
          have tn101_ : nIT (j1 % 10) := fun _ => nI_toInt (by first | omega | (have t := neI c40; omega))
          have n41 : (j1 % 10) ≠ 0 := by have t := neI c40; rw [show (nI (j1 % 10)).toInt = ((j1 % 10 : Nat) : Int) from tn101_ ()] at t; have : (0 : Int32).toInt = 0 := qI_0; omega
          refine lv_lconst (v := 0) hx hb dX0_plan_34 (by decide) ?_
          exact cut35_39 0 _ _ hP hD hS ls (lv_sub hl [0, 1, 2, 3] rfl)
        · skip
          have tn102_ : nIT (j1 % 10) := fun _ => nI_toInt (by first | omega | (have t := eqI c40; omega))
          have n42 : (j1 % 10) = 0 := by have t := eqI c40; rw [show (nI (j1 % 10)).toInt = ((j1 % 10 : Nat) : Int) from tn102_ ()] at t; have : (0 : Int32).toInt = 0 := qI_0; omega
          refine lv_lconst (v := 1) hx hb dX0_plan_30 (by decide) ?_
          refine lv_goto (tgt := 35) hx hb dX0_plan_31 rfl ?_
          exact cut35_39 1 _ _ hP hD hS ls (lv_sub hl [0, 1, 2, 3] rfl)
  exact loop7_3 (70 + 1) 0 (by omega) (by omega) F _ _ hP hD hS ls (lv_sub hl [0, 1, 2, 3] rfl)

set_option maxHeartbeats 1000000 in
set_option maxRecDepth 100000 in
theorem c_X0_wakingAtFirst (l : Launch) (dC : Nat → ClassId) (dI : Nat → Nat → Nat) (G : Nat → ClassId) (sz : Nat) (h0 wk cs wy a1 a2 a3 a4 a5 a6 N B D : Nat) (w0 : Int64) (rw rq : Nat → Nat) (F : Nat → Nat → Int64) (E : Nat → Nat → Int32) (hN_N : N ≤ 10) (hB_B : B ≤ 6) (hD_D : 1 ≤ D ∧ D ≤ 9) : Met l yX0_wakingAtFirst (Cond.code yX0_wakingAtFirst cX0_wakingAtFirst 2 (some .long) :: GT) ({ frames := 1, cells := 0, slots := 0, locals := 21 } : Room) (PcR [.ref h0, .ref wy] dC dI G (([(h0, .inr (0, [.long w0, .ref wk, .ref cs])), (wk, .inl (G 5, 11, .inr (.inr (.inr (.inr (fun ir => if ir < 11 then some (rw ir) else none)))))), (cs, .inl (G 4, 10, .inr (.inr (.inr (.inr (fun ir => if ir < 10 then some (rq ir) else none)))))), (wy, .inr (9, [.int (nI N), .int (nI B), .int (nI D), .ref a1, .ref a2, .ref a3, .ref a4, .ref a5, .ref a6]))] : va_W) ++ ((((List.range 11).map (fun iq => (rw iq, .inl (G 1, 70, .inr (.inl (F iq)))))) : va_W) ++ ((((List.range 10).map (fun iq => (rq iq, .inl (G 0, 70, .inl (E iq))))) : va_W) ++ []))) sz) (va_Ql (fun (r : Int64) (u : Unit) => match u with | _ => (r = F 0 (slotF (-4) D)) ∧ True) (fun _ _ => True) (fun q : Nat => sz ≤ q)) 0 0 (fun q : Nat => sz ≤ q) := by
  have tn103_ : nIT N := fun _ => nI_toInt (by omega)
  have tn104_ : nIT B := fun _ => nI_toInt (by omega)
  have tn105_ : nIT D := fun _ => nI_toInt (by omega)
  refine Met.ofW (cc := cX0_wakingAtFirst) (maxL := 2) (ret := (some .long)) (by decide) rfl ?_
  intro p e s m args below meth c s₁ Bd hml hv
  obtain ⟨rfl, hsz, hP, hK⟩ := hv
  have hx := Bd.exec
  have hb := Bd.bytes
  have hr := Bd.returns
  have hg : ∀ w ∈ GT, w.before ([.ref h0, .ref wy] : List Value).toArray s = true := fun w h => atoms_spec (ws := Cond.code yX0_wakingAtFirst cX0_wakingAtFirst 2 (some .long) :: GT) Bd.pre w (List.mem_cons_of_mem _ h)
  have hown : s.vm.findClass RX0 = some m.cls := findClass_of_methodNamed Bd.named
  have hlocks := Bd.notSynchronized
  subst hsz
  have hA : ∀ q : Nat, s.heap.size ≤ q → (fun q : Nat => s.heap.size ≤ q) q := fun _ h => h
  have hS : va_S (fun q : Nat => s.heap.size ≤ q) s.heap s.heap [] := va_S.rf
  have hl := lv_entry ([.ref h0, .ref wy]) (n := 2) (Nat.le_of_ble_eq_true rfl)
  rw [lg_entry_eq]
  generalize (lg_sl ([.ref h0, .ref wy]) ++ List.replicate (2 - (lg_sl ([.ref h0, .ref wy])).length) Slot.unset).toArray = ls at hl ⊢
  have hl : lv_has ls 2 [(0, .ref h0), (1, .ref wy)] := hl
  refine lv_aload_n hx hb dX0_wakingAtFirst_0 rfl (lv_at hl 0 rfl) ?_
  refine va_get (D := (dC, dI)) (ci := 0) (v := .ref wk) (C := RX0) (T := TX0) (N := 3) hx hb hg inG0 hown hK.1 hP 0 rfl rfl 1 (Nat.le_of_ble_eq_true rfl) (hg _ wt_182) (fun _ h9 => h9) rfl dX0_wakingAtFirst_1 ?_
  refine lv_iconst (v := 0) hx hb dX0_wakingAtFirst_4 rfl ?_
  refine va_aldA hx hb hK.1 hP 1 5 rfl rfl (vp_in_iff.mpr ⟨by decide, by decide⟩) dX0_wakingAtFirst_5 ?_
  refine lv_cgv (y := .ref (rw 0)) (by rfl) ?_
  refine lv_bipush (v := (-4)) hx hb dX0_wakingAtFirst_6 rfl ?_
  refine lv_aload_n hx hb dX0_wakingAtFirst_8 rfl (lv_at hl 1 rfl) ?_
  refine va_getN (D := (dC, dI)) (ci := 9) (v := .int (nI D)) (C := RX9) (T := TX9) (N := 9) hx hb hg inG9 hown hK.1 hP 3 rfl rfl 2 (Nat.le_of_ble_eq_true rfl) (hK.nest wn_70) (fun _ h9 => h9) rfl dX0_wakingAtFirst_9 ?_
  have hPc := hP.sub (ws' := []) [] rfl
  refine va_calli (va_runS (As := [.int (-4), .int (nI D)]) (rest := [.ref (rw 0)]) ⟨hx, hb, hml, hown, hg⟩ (c_X0_slot l dC dI G _ D (-4) (by have tnb_ := nib3 tn103_ tn104_ tn105_; have : ((-4) : Int32).toInt = -4 := qI_m4; omega) (by first | omega | (have tnb_ := nib3 tn103_ tn104_ tn105_; have : ((-4) : Int32).toInt = -4 := qI_m4; omega))) (kwS hg mfX0_slot wt_666 ⟨Nat.le_of_ble_eq_true rfl, Nat.le_of_ble_eq_true rfl⟩) (preSR hK hPc) rfl rfl hl.1 rfl (lv_room (Nat.le_of_ble_eq_true rfl)) dX0_wakingAtFirst_12 ⟨Nat.le_of_ble_eq_true rfl, Nat.le_of_ble_eq_true rfl⟩) hS (fun q h1 h2 => absurd h2 (Nat.not_le.mpr h1)) (fun q h => hA q (Nat.le_trans hS.1 h)) (fun r1 ur1 t H1 locs ht hvm w2 hB hz1 hk1 hS => ?_)
  have hP := keepR hP hk1
  obtain ⟨w2, w2x⟩ := w2
  have hs3 : slotF (-4) D < 70 := slotF_lt (by have tnb_ := nib3 tn103_ tn104_ tn105_; have : ((-4) : Int32).toInt = -4 := qI_m4; omega) (by have tnb_ := nib3 tn103_ tn104_ tn105_; omega)
  subst w2
  refine va_lald hx hb hK.1 (blk_P (j := 0) hP (by first | omega | (have t_hs3 := hs3; have tnb_ := nib3 tn103_ tn104_ tn105_; omega))) 0 1 rfl rfl (vp_in_nI (by first | omega | (have t_hs3 := hs3; have tnb_ := nib3 tn103_ tn104_ tn105_; omega)) (by decide)) dX0_wakingAtFirst_15 ?_
  refine lv_cgl (y := F 0 (slotF (-4) D)) (by rw [nI_clamp (by first | omega | (have t_hs3 := hs3; have tnb_ := nib3 tn103_ tn104_ tn105_; omega))]) ?_
  have hpost : (F 0 (slotF (-4) D) : Int64) = F 0 (slotF (-4) D) := by
    have t_hs3 := hs3
    have t_n0 : (nI N).toInt = (N : Int) := tn103_ ()
    have t_n1 : (nI B).toInt = (B : Int) := tn104_ ()
    have t_n2 : (nI D).toInt = (D : Int) := tn105_ ()
    first | rfl | ((repeat' split) <;> first | rfl | omega)
  refine W.widen (k := 0) (n := 0) (Nat.le_of_ble_eq_true rfl) (Nat.le_of_ble_eq_true rfl) ?_
  exact W.lret (v := F 0 (slotF (-4) D)) hx hb hr (fun t ht hW => ⟨⟨F 0 (slotF (-4) D), (), rfl, ⟨hpost, trivial⟩, trivial⟩, hS.F ht⟩) hS.2.2 dX0_wakingAtFirst_16

set_option maxHeartbeats 1000000 in
set_option maxRecDepth 100000 in
theorem c_X8_leadInto (l : Launch) (dC : Nat → ClassId) (dI : Nat → Nat → Nat) (G : Nat → ClassId) (sz : Nat) (h0 ti to i : Nat) (x1 tt : Int32) (ri ro : Nat → Nat) (F E : Nat → Nat → Int32) (hi : i < 10) : Met l yX8_leadInto (Cond.code yX8_leadInto cX8_leadInto 4 none :: GT) ({ frames := 1, cells := 0, slots := 0, locals := 21 } : Room) (PcW [.ref h0, .int x1, .int (nI i)] dC dI G (([(h0, .inr (8, [.int tt, .ref ti, .ref to])), (ti, .inl (G 4, 11, .inr (.inr (.inr (.inr (fun ir => if ir < 11 then some (ri ir) else none)))))), (to, .inl (G 4, 11, .inr (.inr (.inr (.inr (fun ir => if ir < 11 then some (ro ir) else none))))))] : va_W) ++ ((((List.range 11).map (fun iq => (ri iq, .inl (G 0, 10, .inl (F iq))))) : va_W) ++ ((((List.range 11).map (fun iq => (ro iq, .inl (G 0, 10, .inl (E iq))))) : va_W) ++ []))) sz) (va_Qv (fun (u : Int32 × (Nat → Nat → Int32) × (Nat → Nat → Int32)) => match u with | (u0, u1, u2) => True) (fun (u : Int32 × (Nat → Nat → Int32) × (Nat → Nat → Int32)) (t : State) => match u with | (u0, u1, u2) => va_P (dC, dI) vwCl (([(h0, .inr (8, [.int u0, .ref ti, .ref to])), (ti, .inl (G 4, 11, .inr (.inr (.inr (.inr (fun ir => if ir < 11 then some (ri ir) else none)))))), (to, .inl (G 4, 11, .inr (.inr (.inr (.inr (fun ir => if ir < 11 then some (ro ir) else none))))))] : va_W) ++ ((((List.range 11).map (fun iq => (ri iq, .inl (G 0, 10, .inl (u1 iq))))) : va_W) ++ ((((List.range 11).map (fun iq => (ro iq, .inl (G 0, 10, .inl (u2 iq))))) : va_W) ++ []))) t.heap ∧ va_D (va_A (([(h0, .inr (8, [.int tt, .ref ti, .ref to])), (ti, .inl (G 4, 11, .inr (.inr (.inr (.inr (fun ir => if ir < 11 then some (ri ir) else none)))))), (to, .inl (G 4, 11, .inr (.inr (.inr (.inr (fun ir => if ir < 11 then some (ro ir) else none))))))] : va_W) ++ ((((List.range 11).map (fun iq => (ri iq, .inl (G 0, 10, .inl (F iq))))) : va_W) ++ ((((List.range 11).map (fun iq => (ro iq, .inl (G 0, 10, .inl (E iq))))) : va_W) ++ []))) sz) (([(h0, .inr (8, [.int u0, .ref ti, .ref to])), (ti, .inl (G 4, 11, .inr (.inr (.inr (.inr (fun ir => if ir < 11 then some (ri ir) else none)))))), (to, .inl (G 4, 11, .inr (.inr (.inr (.inr (fun ir => if ir < 11 then some (ro ir) else none))))))] : va_W) ++ ((((List.range 11).map (fun iq => (ri iq, .inl (G 0, 10, .inl (u1 iq))))) : va_W) ++ ((((List.range 11).map (fun iq => (ro iq, .inl (G 0, 10, .inl (u2 iq))))) : va_W) ++ [])))) (va_A (([(h0, .inr (8, [.int tt, .ref ti, .ref to])), (ti, .inl (G 4, 11, .inr (.inr (.inr (.inr (fun ir => if ir < 11 then some (ri ir) else none)))))), (to, .inl (G 4, 11, .inr (.inr (.inr (.inr (fun ir => if ir < 11 then some (ro ir) else none))))))] : va_W) ++ ((((List.range 11).map (fun iq => (ri iq, .inl (G 0, 10, .inl (F iq))))) : va_W) ++ ((((List.range 11).map (fun iq => (ro iq, .inl (G 0, 10, .inl (E iq))))) : va_W) ++ []))) sz)) 0 0 (va_A (([(h0, .inr (8, [.int tt, .ref ti, .ref to])), (ti, .inl (G 4, 11, .inr (.inr (.inr (.inr (fun ir => if ir < 11 then some (ri ir) else none)))))), (to, .inl (G 4, 11, .inr (.inr (.inr (.inr (fun ir => if ir < 11 then some (ro ir) else none))))))] : va_W) ++ ((((List.range 11).map (fun iq => (ri iq, .inl (G 0, 10, .inl (F iq))))) : va_W) ++ ((((List.range 11).map (fun iq => (ro iq, .inl (G 0, 10, .inl (E iq))))) : va_W) ++ []))) sz) := by
  refine Met.ofW (cc := cX8_leadInto) (maxL := 4) (ret := none) (by decide) rfl ?_
  intro p e s m args below meth c s₁ Bd hml hv
  obtain ⟨rfl, hsz, hP, hK, hD0⟩ := hv
  have hx := Bd.exec
  have hb := Bd.bytes
  have hr := Bd.returns
  have hg : ∀ w ∈ GT, w.before ([.ref h0, .int x1, .int (nI i)] : List Value).toArray s = true := fun w h => atoms_spec (ws := Cond.code yX8_leadInto cX8_leadInto 4 none :: GT) Bd.pre w (List.mem_cons_of_mem _ h)
  have hown : s.vm.findClass RX8 = some m.cls := findClass_of_methodNamed Bd.named
  have hlocks := Bd.notSynchronized
  subst hsz
  have hD := hD0.self (sz := s.heap.size)
  generalize hAe : va_A (([(h0, .inr (8, [.int tt, .ref ti, .ref to])), (ti, .inl (G 4, 11, .inr (.inr (.inr (.inr (fun ir => if ir < 11 then some (ri ir) else none)))))), (to, .inl (G 4, 11, .inr (.inr (.inr (.inr (fun ir => if ir < 11 then some (ro ir) else none))))))] : va_W) ++ ((((List.range 11).map (fun iq => (ri iq, .inl (G 0, 10, .inl (F iq))))) : va_W) ++ ((((List.range 11).map (fun iq => (ro iq, .inl (G 0, 10, .inl (E iq))))) : va_W) ++ []))) s.heap.size = A at hD ⊢
  have hA : ∀ q : Nat, s.heap.size ≤ q → A q := fun q h => by rw [← hAe]; exact Or.inr h
  have hS : va_S A s.heap s.heap [] := va_S.rf
  have hl := lv_entry ([.ref h0, .int x1, .int (nI i)]) (n := 4) (Nat.le_of_ble_eq_true rfl)
  rw [lg_entry_eq]
  generalize (lg_sl ([.ref h0, .int x1, .int (nI i)]) ++ List.replicate (4 - (lg_sl ([.ref h0, .int x1, .int (nI i)])).length) Slot.unset).toArray = ls at hl ⊢
  have hl : lv_has ls 4 [(0, .ref h0), (1, .int x1), (2, .int (nI i))] := hl
  refine lv_iconst (v := 0) hx hb dX8_leadInto_0 rfl ?_
  refine lv_istore_n (lv' := [(3, .int 0), (0, .ref h0), (1, .int x1), (2, .int (nI i))]) hx hb dX8_leadInto_1 rfl hl (by decide) rfl (fun ls hl => ?_)
  have loop2_3 : ∀ (nf j1 : Nat), 10 + 1 ≤ j1 + nf → j1 ≤ 10 → ∀ (g2 : Nat → Nat → Int32) (H : Heap) (locs : List Loc), va_P (dC, dI) vwCl (([(h0, .inr (8, [.int tt, .ref ti, .ref to])), (ti, .inl (G 4, 11, .inr (.inr (.inr (.inr (fun ir => if ir < 11 then some (ri ir) else none)))))), (to, .inl (G 4, 11, .inr (.inr (.inr (.inr (fun ir => if ir < 11 then some (ro ir) else none))))))] : va_W) ++ ((((List.range 11).map (fun iq => (ri iq, .inl (G 0, 10, .inl (g2 iq))))) : va_W) ++ ((((List.range 11).map (fun iq => (ro iq, .inl (G 0, 10, .inl (E iq))))) : va_W) ++ []))) H → va_D A (([(h0, .inr (8, [.int tt, .ref ti, .ref to])), (ti, .inl (G 4, 11, .inr (.inr (.inr (.inr (fun ir => if ir < 11 then some (ri ir) else none)))))), (to, .inl (G 4, 11, .inr (.inr (.inr (.inr (fun ir => if ir < 11 then some (ro ir) else none))))))] : va_W) ++ ((((List.range 11).map (fun iq => (ri iq, .inl (G 0, 10, .inl (g2 iq))))) : va_W) ++ ((((List.range 11).map (fun iq => (ro iq, .inl (G 0, 10, .inl (E iq))))) : va_W) ++ []))) → va_S A s.heap H locs → ∀ (ls : Array Slot), lv_has ls 4 [(3, .int (nI j1)), (0, .ref h0), (1, .int x1), (2, .int (nI i))] → W p l e (headSpec (Cond.code yX8_leadInto cX8_leadInto 4 none :: GT) ({ frames := 1, cells := 0, slots := 0, locals := 21 } : Room)).room s m ([.ref h0, .int x1, .int (nI i)] : List Value).toArray below meth c H locs 0 0 (MQ below (va_Qv (fun (u : Int32 × (Nat → Nat → Int32) × (Nat → Nat → Int32)) => match u with | (u0, u1, u2) => True) (fun (u : Int32 × (Nat → Nat → Int32) × (Nat → Nat → Int32)) (t : State) => match u with | (u0, u1, u2) => va_P (dC, dI) vwCl (([(h0, .inr (8, [.int u0, .ref ti, .ref to])), (ti, .inl (G 4, 11, .inr (.inr (.inr (.inr (fun ir => if ir < 11 then some (ri ir) else none)))))), (to, .inl (G 4, 11, .inr (.inr (.inr (.inr (fun ir => if ir < 11 then some (ro ir) else none))))))] : va_W) ++ ((((List.range 11).map (fun iq => (ri iq, .inl (G 0, 10, .inl (u1 iq))))) : va_W) ++ ((((List.range 11).map (fun iq => (ro iq, .inl (G 0, 10, .inl (u2 iq))))) : va_W) ++ []))) t.heap ∧ va_D A (([(h0, .inr (8, [.int u0, .ref ti, .ref to])), (ti, .inl (G 4, 11, .inr (.inr (.inr (.inr (fun ir => if ir < 11 then some (ri ir) else none)))))), (to, .inl (G 4, 11, .inr (.inr (.inr (.inr (fun ir => if ir < 11 then some (ro ir) else none))))))] : va_W) ++ ((((List.range 11).map (fun iq => (ri iq, .inl (G 0, 10, .inl (u1 iq))))) : va_W) ++ ((((List.range 11).map (fun iq => (ro iq, .inl (G 0, 10, .inl (u2 iq))))) : va_W) ++ [])))) A) ([.ref h0, .int x1, .int (nI i)] : List Value).toArray s 0 0 A) (F0 m 2 ls []) := by
    intro nf
    induction nf with
    | zero => intro j1 h1 h2; exact absurd h1 (by omega)
    | succ nf ih2_3 =>
      intro j1 hn4 hj5 g2 H locs hP hD hS ls hl
      refine lv_iload_n hx hb dX8_leadInto_2 rfl (lv_at hl 0 rfl) ?_
      refine lv_bipush (v := 10) hx hb dX8_leadInto_3 rfl ?_
      refine lv_icmp_ge (tgt := 25) hx hb dX8_leadInto_5 rfl (fun c6 => ?_) (fun c6 => ?_)
      · skip
        have tn106_ : nIT j1 := fun _ => nI_toInt (by first | omega | (have t := leI c6; omega))
        have n7 : 10 ≤ j1 := by have t := leI c6; rw [show (nI (j1)).toInt = ((j1 : Nat) : Int) from tn106_ ()] at t; have : (10 : Int32).toInt = 10 := qI_10; omega
        refine lv_aload_n hx hb dX8_leadInto_25 rfl (lv_at hl 1 rfl) ?_
        refine va_get (D := (dC, dI)) (ci := 8) (v := .ref ti) (C := RX8) (T := TX8) (N := 3) hx hb hg inG8 hown hK.1 hP 0 rfl rfl 1 (Nat.le_of_ble_eq_true rfl) (hg _ wt_260) (fun _ h9 => h9) rfl dX8_leadInto_26 ?_
        refine lv_iload_n hx hb dX8_leadInto_29 rfl (lv_at hl 3 rfl) ?_
        refine lv_iconst (v := 1) hx hb dX8_leadInto_30 rfl ?_
        refine lv_iadd hx hb dX8_leadInto_31 ?_
        refine lv_cg (y := nI (i + 1)) (by rw [show (1 : Int32) = nI 1 from rfl]; exact nI_add _ _) ?_
        have tn107_ : nIT i := fun _ => nI_toInt (by first | omega | (have t_hj5 := hj5; have t_n7 := n7; omega))
        refine va_aldA hx hb hK.1 hP 1 4 rfl rfl (vp_in_nI (by first | omega | (have t_hj5 := hj5; have t_n7 := n7; have tnb_ := nib2 tn107_ tn106_; omega)) (by decide)) dX8_leadInto_32 ?_
        refine lv_cgv (y := .ref (ri (i + 1))) (rowref (by first | omega | (have t_hj5 := hj5; have t_n7 := n7; have tnb_ := nib2 tn107_ tn106_; omega)) (by decide)) ?_
        refine lv_iconst (v := 0) hx hb dX8_leadInto_33 rfl ?_
        refine lv_aload_n hx hb dX8_leadInto_34 rfl (lv_at hl 1 rfl) ?_
        refine va_get (D := (dC, dI)) (ci := 8) (v := .ref ti) (C := RX8) (T := TX8) (N := 3) hx hb hg inG8 hown hK.1 hP 0 rfl rfl 1 (Nat.le_of_ble_eq_true rfl) (hg _ wt_260) (fun _ h9 => h9) rfl dX8_leadInto_35 ?_
        refine lv_iload_n hx hb dX8_leadInto_38 rfl (lv_at hl 3 rfl) ?_
        refine va_aldA hx hb hK.1 hP 1 4 rfl rfl (vp_in_nI (by first | omega | (have t_hj5 := hj5; have t_n7 := n7; have tnb_ := nib2 tn107_ tn106_; omega)) (by decide)) dX8_leadInto_39 ?_
        refine lv_cgv (y := .ref (ri i)) (rowref (by first | omega | (have t_hj5 := hj5; have t_n7 := n7; have tnb_ := nib2 tn107_ tn106_; omega)) (by decide)) ?_
        refine lv_iconst (v := 0) hx hb dX8_leadInto_40 rfl ?_
        refine va_iald hx hb hK.1 (blk_P (j := i) hP (by first | omega | (have t_hj5 := hj5; have t_n7 := n7; have tnb_ := nib2 tn107_ tn106_; omega))) 0 0 rfl rfl (vp_in_iff.mpr ⟨by decide, by decide⟩) dX8_leadInto_41 ?_
        refine lv_cg (y := g2 i 0) (by rfl) ?_
        refine va_iastB (j := (i + 1)) hx hb hK.1 hP hD hS 0 (by first | omega | (have t_hj5 := hj5; have t_n7 := n7; have tnb_ := nib2 tn107_ tn106_; omega)) rfl (vp_in_iff.mpr ⟨by decide, by decide⟩) dX8_leadInto_42 (fun H locs hP hD hS => ?_)
        obtain ⟨hP, hD⟩ := va_rls (ws' := (([(h0, .inr (8, [.int tt, .ref ti, .ref to])), (ti, .inl (G 4, 11, .inr (.inr (.inr (.inr (fun ir => if ir < 11 then some (ri ir) else none)))))), (to, .inl (G 4, 11, .inr (.inr (.inr (.inr (fun ir => if ir < 11 then some (ro ir) else none))))))] : va_W) ++ ((((List.range 11).map (fun iq => (ri iq, .inl (G 0, 10, .inl ((va_up g2 (i + 1) (upd (g2 (i + 1)) 0 (g2 i 0))) iq))))) : va_W) ++ ((((List.range 11).map (fun iq => (ro iq, .inl (G 0, 10, .inl (E iq))))) : va_W) ++ [])))) hP hD rfl
        refine lv_iconst (v := 1) hx hb dX8_leadInto_43 rfl ?_
        refine lv_istore_n (lv' := [(3, .int 1), (0, .ref h0), (1, .int x1), (2, .int (nI i))]) hx hb dX8_leadInto_44 rfl hl (by decide) rfl (fun ls hl => ?_)
        have loop45_10 : ∀ (nf j8 : Nat), 10 + 1 ≤ j8 + nf → j8 ≤ 10 → 1 ≤ j8 → ∀ (g9 : Nat → Nat → Int32) (H : Heap) (locs : List Loc), va_P (dC, dI) vwCl (([(h0, .inr (8, [.int tt, .ref ti, .ref to])), (ti, .inl (G 4, 11, .inr (.inr (.inr (.inr (fun ir => if ir < 11 then some (ri ir) else none)))))), (to, .inl (G 4, 11, .inr (.inr (.inr (.inr (fun ir => if ir < 11 then some (ro ir) else none))))))] : va_W) ++ ((((List.range 11).map (fun iq => (ri iq, .inl (G 0, 10, .inl (g9 iq))))) : va_W) ++ ((((List.range 11).map (fun iq => (ro iq, .inl (G 0, 10, .inl (E iq))))) : va_W) ++ []))) H → va_D A (([(h0, .inr (8, [.int tt, .ref ti, .ref to])), (ti, .inl (G 4, 11, .inr (.inr (.inr (.inr (fun ir => if ir < 11 then some (ri ir) else none)))))), (to, .inl (G 4, 11, .inr (.inr (.inr (.inr (fun ir => if ir < 11 then some (ro ir) else none))))))] : va_W) ++ ((((List.range 11).map (fun iq => (ri iq, .inl (G 0, 10, .inl (g9 iq))))) : va_W) ++ ((((List.range 11).map (fun iq => (ro iq, .inl (G 0, 10, .inl (E iq))))) : va_W) ++ []))) → va_S A s.heap H locs → ∀ (ls : Array Slot), lv_has ls 4 [(3, .int (nI j8)), (0, .ref h0), (1, .int x1), (2, .int (nI i))] → W p l e (headSpec (Cond.code yX8_leadInto cX8_leadInto 4 none :: GT) ({ frames := 1, cells := 0, slots := 0, locals := 21 } : Room)).room s m ([.ref h0, .int x1, .int (nI i)] : List Value).toArray below meth c H locs 0 0 (MQ below (va_Qv (fun (u : Int32 × (Nat → Nat → Int32) × (Nat → Nat → Int32)) => match u with | (u0, u1, u2) => True) (fun (u : Int32 × (Nat → Nat → Int32) × (Nat → Nat → Int32)) (t : State) => match u with | (u0, u1, u2) => va_P (dC, dI) vwCl (([(h0, .inr (8, [.int u0, .ref ti, .ref to])), (ti, .inl (G 4, 11, .inr (.inr (.inr (.inr (fun ir => if ir < 11 then some (ri ir) else none)))))), (to, .inl (G 4, 11, .inr (.inr (.inr (.inr (fun ir => if ir < 11 then some (ro ir) else none))))))] : va_W) ++ ((((List.range 11).map (fun iq => (ri iq, .inl (G 0, 10, .inl (u1 iq))))) : va_W) ++ ((((List.range 11).map (fun iq => (ro iq, .inl (G 0, 10, .inl (u2 iq))))) : va_W) ++ []))) t.heap ∧ va_D A (([(h0, .inr (8, [.int u0, .ref ti, .ref to])), (ti, .inl (G 4, 11, .inr (.inr (.inr (.inr (fun ir => if ir < 11 then some (ri ir) else none)))))), (to, .inl (G 4, 11, .inr (.inr (.inr (.inr (fun ir => if ir < 11 then some (ro ir) else none))))))] : va_W) ++ ((((List.range 11).map (fun iq => (ri iq, .inl (G 0, 10, .inl (u1 iq))))) : va_W) ++ ((((List.range 11).map (fun iq => (ro iq, .inl (G 0, 10, .inl (u2 iq))))) : va_W) ++ [])))) A) ([.ref h0, .int x1, .int (nI i)] : List Value).toArray s 0 0 A) (F0 m 45 ls []) := by
          intro nf
          induction nf with
          | zero => intro j8 h1 h2; exact absurd h1 (by omega)
          | succ nf ih45_10 =>
            intro j8 hn11 hj12 hlo_j8 g9 H locs hP hD hS ls hl
            refine lv_iload_n hx hb dX8_leadInto_45 rfl (lv_at hl 0 rfl) ?_
            refine lv_bipush (v := 10) hx hb dX8_leadInto_46 rfl ?_
            refine lv_icmp_ge (tgt := 118) hx hb dX8_leadInto_48 rfl (fun c13 => ?_) (fun c13 => ?_)
            · skip
              have tn108_ : nIT j8 := fun _ => nI_toInt (by first | omega | (have t := leI c13; omega))
              have n14 : 10 ≤ j8 := by have t := leI c13; rw [show (nI (j8)).toInt = ((j8 : Nat) : Int) from tn108_ ()] at t; have : (10 : Int32).toInt = 10 := qI_10; omega
              obtain ⟨hP9, hD9⟩ := va_sub2 (ws' := (([(h0, .inr (8, [.int tt, .ref ti, .ref to])), (ti, .inl (G 4, 11, .inr (.inr (.inr (.inr (fun ir => if ir < 11 then some (ri ir) else none)))))), (to, .inl (G 4, 11, .inr (.inr (.inr (.inr (fun ir => if ir < 11 then some (ro ir) else none))))))] : va_W) ++ ((((List.range 11).map (fun iq => (ri iq, .inl (G 0, 10, .inl (g9 iq))))) : va_W) ++ ((((List.range 11).map (fun iq => (ro iq, .inl (G 0, 10, .inl (E iq))))) : va_W) ++ [])))) hP hD [0, 1, 2, 3, 4, 5, 6, 7, 8, 9, 10, 11, 12, 13, 14, 15, 16, 17, 18, 19, 20, 21, 22, 23, 24] (by decide +kernel) rfl
              refine W.widen (k := 0) (n := 0) (Nat.le_of_ble_eq_true rfl) (Nat.le_of_ble_eq_true rfl) ?_
              exact W.vret hx hb hr (fun t ht hW => ⟨⟨(tt, g9, E), rfl, trivial, ⟨by rw [ht]; exact hP9, hD9⟩⟩, hS.F ht⟩) hS.2.2 dX8_leadInto_118
            · skip
              have tn109_ : nIT j8 := fun _ => nI_toInt (by first | omega | (have t := nleI c13; omega))
              have n15 : j8 < 10 := by have t := nleI c13; rw [show (nI (j8)).toInt = ((j8 : Nat) : Int) from tn109_ ()] at t; have : (10 : Int32).toInt = 10 := qI_10; omega
              refine lv_iload_n hx hb dX8_leadInto_51 rfl (lv_at hl 2 rfl) ?_
              have cut78_17 : ∀ (g16 : Nat → Nat → Int32) (H : Heap) (locs : List Loc), va_P (dC, dI) vwCl (([(h0, .inr (8, [.int tt, .ref ti, .ref to])), (ti, .inl (G 4, 11, .inr (.inr (.inr (.inr (fun ir => if ir < 11 then some (ri ir) else none)))))), (to, .inl (G 4, 11, .inr (.inr (.inr (.inr (fun ir => if ir < 11 then some (ro ir) else none))))))] : va_W) ++ ((((List.range 11).map (fun iq => (ri iq, .inl (G 0, 10, .inl (g16 iq))))) : va_W) ++ ((((List.range 11).map (fun iq => (ro iq, .inl (G 0, 10, .inl (E iq))))) : va_W) ++ []))) H → va_D A (([(h0, .inr (8, [.int tt, .ref ti, .ref to])), (ti, .inl (G 4, 11, .inr (.inr (.inr (.inr (fun ir => if ir < 11 then some (ri ir) else none)))))), (to, .inl (G 4, 11, .inr (.inr (.inr (.inr (fun ir => if ir < 11 then some (ro ir) else none))))))] : va_W) ++ ((((List.range 11).map (fun iq => (ri iq, .inl (G 0, 10, .inl (g16 iq))))) : va_W) ++ ((((List.range 11).map (fun iq => (ro iq, .inl (G 0, 10, .inl (E iq))))) : va_W) ++ []))) → va_S A s.heap H locs → ∀ (ls : Array Slot), lv_has ls 4 [(3, .int (nI j8)), (0, .ref h0), (1, .int x1), (2, .int (nI i))] → W p l e (headSpec (Cond.code yX8_leadInto cX8_leadInto 4 none :: GT) ({ frames := 1, cells := 0, slots := 0, locals := 21 } : Room)).room s m ([.ref h0, .int x1, .int (nI i)] : List Value).toArray below meth c H locs 0 0 (MQ below (va_Qv (fun (u : Int32 × (Nat → Nat → Int32) × (Nat → Nat → Int32)) => match u with | (u0, u1, u2) => True) (fun (u : Int32 × (Nat → Nat → Int32) × (Nat → Nat → Int32)) (t : State) => match u with | (u0, u1, u2) => va_P (dC, dI) vwCl (([(h0, .inr (8, [.int u0, .ref ti, .ref to])), (ti, .inl (G 4, 11, .inr (.inr (.inr (.inr (fun ir => if ir < 11 then some (ri ir) else none)))))), (to, .inl (G 4, 11, .inr (.inr (.inr (.inr (fun ir => if ir < 11 then some (ro ir) else none))))))] : va_W) ++ ((((List.range 11).map (fun iq => (ri iq, .inl (G 0, 10, .inl (u1 iq))))) : va_W) ++ ((((List.range 11).map (fun iq => (ro iq, .inl (G 0, 10, .inl (u2 iq))))) : va_W) ++ []))) t.heap ∧ va_D A (([(h0, .inr (8, [.int u0, .ref ti, .ref to])), (ti, .inl (G 4, 11, .inr (.inr (.inr (.inr (fun ir => if ir < 11 then some (ri ir) else none)))))), (to, .inl (G 4, 11, .inr (.inr (.inr (.inr (fun ir => if ir < 11 then some (ro ir) else none))))))] : va_W) ++ ((((List.range 11).map (fun iq => (ri iq, .inl (G 0, 10, .inl (u1 iq))))) : va_W) ++ ((((List.range 11).map (fun iq => (ro iq, .inl (G 0, 10, .inl (u2 iq))))) : va_W) ++ [])))) A) ([.ref h0, .int x1, .int (nI i)] : List Value).toArray s 0 0 A) (F0 m 78 ls []) := by
                intro g16 H locs hP hD hS ls hl
                refine lv_iload_n hx hb dX8_leadInto_78 rfl (lv_at hl 2 rfl) ?_
                refine lv_bipush (v := 20) hx hb dX8_leadInto_79 rfl ?_
                have cut112_19 : ∀ (g18 : Nat → Nat → Int32) (H : Heap) (locs : List Loc), va_P (dC, dI) vwCl (([(h0, .inr (8, [.int tt, .ref ti, .ref to])), (ti, .inl (G 4, 11, .inr (.inr (.inr (.inr (fun ir => if ir < 11 then some (ri ir) else none)))))), (to, .inl (G 4, 11, .inr (.inr (.inr (.inr (fun ir => if ir < 11 then some (ro ir) else none))))))] : va_W) ++ ((((List.range 11).map (fun iq => (ri iq, .inl (G 0, 10, .inl (g18 iq))))) : va_W) ++ ((((List.range 11).map (fun iq => (ro iq, .inl (G 0, 10, .inl (E iq))))) : va_W) ++ []))) H → va_D A (([(h0, .inr (8, [.int tt, .ref ti, .ref to])), (ti, .inl (G 4, 11, .inr (.inr (.inr (.inr (fun ir => if ir < 11 then some (ri ir) else none)))))), (to, .inl (G 4, 11, .inr (.inr (.inr (.inr (fun ir => if ir < 11 then some (ro ir) else none))))))] : va_W) ++ ((((List.range 11).map (fun iq => (ri iq, .inl (G 0, 10, .inl (g18 iq))))) : va_W) ++ ((((List.range 11).map (fun iq => (ro iq, .inl (G 0, 10, .inl (E iq))))) : va_W) ++ []))) → va_S A s.heap H locs → ∀ (ls : Array Slot), lv_has ls 4 [(3, .int (nI j8)), (0, .ref h0), (1, .int x1), (2, .int (nI i))] → W p l e (headSpec (Cond.code yX8_leadInto cX8_leadInto 4 none :: GT) ({ frames := 1, cells := 0, slots := 0, locals := 21 } : Room)).room s m ([.ref h0, .int x1, .int (nI i)] : List Value).toArray below meth c H locs 0 0 (MQ below (va_Qv (fun (u : Int32 × (Nat → Nat → Int32) × (Nat → Nat → Int32)) => match u with | (u0, u1, u2) => True) (fun (u : Int32 × (Nat → Nat → Int32) × (Nat → Nat → Int32)) (t : State) => match u with | (u0, u1, u2) => va_P (dC, dI) vwCl (([(h0, .inr (8, [.int u0, .ref ti, .ref to])), (ti, .inl (G 4, 11, .inr (.inr (.inr (.inr (fun ir => if ir < 11 then some (ri ir) else none)))))), (to, .inl (G 4, 11, .inr (.inr (.inr (.inr (fun ir => if ir < 11 then some (ro ir) else none))))))] : va_W) ++ ((((List.range 11).map (fun iq => (ri iq, .inl (G 0, 10, .inl (u1 iq))))) : va_W) ++ ((((List.range 11).map (fun iq => (ro iq, .inl (G 0, 10, .inl (u2 iq))))) : va_W) ++ []))) t.heap ∧ va_D A (([(h0, .inr (8, [.int u0, .ref ti, .ref to])), (ti, .inl (G 4, 11, .inr (.inr (.inr (.inr (fun ir => if ir < 11 then some (ri ir) else none)))))), (to, .inl (G 4, 11, .inr (.inr (.inr (.inr (fun ir => if ir < 11 then some (ro ir) else none))))))] : va_W) ++ ((((List.range 11).map (fun iq => (ri iq, .inl (G 0, 10, .inl (u1 iq))))) : va_W) ++ ((((List.range 11).map (fun iq => (ro iq, .inl (G 0, 10, .inl (u2 iq))))) : va_W) ++ [])))) A) ([.ref h0, .int x1, .int (nI i)] : List Value).toArray s 0 0 A) (F0 m 112 ls []) := by
                  intro g18 H locs hP hD hS ls hl
                  refine lv_iinc (v := nI (j8 + 1)) (lv' := [(3, .int (nI (j8 + 1))), (0, .ref h0), (1, .int x1), (2, .int (nI i))]) hx hb dX8_leadInto_112 hl (k := 0) rfl (by rw [show Int32.ofInt 1 = nI 1 from by decide]; exact nI_add _ _) (by decide) rfl (fun ls hl => ?_)
                  refine lv_goto (tgt := 45) hx hb dX8_leadInto_115 rfl ?_
                  exact ih45_10 (j8 + 1) (by omega) (by omega) (by omega) g18 _ _ hP hD hS ls (lv_sub hl [0, 1, 2, 3] rfl)
                refine lv_icmp_ge (tgt := 112) hx hb dX8_leadInto_81 rfl (fun c20 => ?_) (fun c20 => ?_)
                · skip
                  exact cut112_19 g16 _ _ hP hD hS ls (lv_sub hl [0, 1, 2, 3] rfl)
                · skip
                  refine lv_aload_n hx hb dX8_leadInto_84 rfl (lv_at hl 1 rfl) ?_
                  refine va_get (D := (dC, dI)) (ci := 8) (v := .ref ti) (C := RX8) (T := TX8) (N := 3) hx hb hg inG8 hown hK.1 hP 0 rfl rfl 1 (Nat.le_of_ble_eq_true rfl) (hg _ wt_260) (fun _ h9 => h9) rfl dX8_leadInto_85 ?_
                  refine lv_iload_n hx hb dX8_leadInto_88 rfl (lv_at hl 3 rfl) ?_
                  refine lv_iconst (v := 1) hx hb dX8_leadInto_89 rfl ?_
                  refine lv_iadd hx hb dX8_leadInto_90 ?_
                  refine lv_cg (y := nI (i + 1)) (by rw [show (1 : Int32) = nI 1 from rfl]; exact nI_add _ _) ?_
                  refine va_aldA hx hb hK.1 hP 1 4 rfl rfl (vp_in_nI (by first | omega | (have t_hj5 := hj5; have t_n7 := n7; have t_hj12 := hj12; have t_hlo_j8 := hlo_j8; have t_n15 := n15; have t_c20 := nleI c20; have : (20 : Int32).toInt = 20 := qI_20; have tnb_ := nib3 tn107_ tn106_ tn109_; omega)) (by decide)) dX8_leadInto_91 ?_
                  refine lv_cgv (y := .ref (ri (i + 1))) (rowref (by first | omega | (have t_hj5 := hj5; have t_n7 := n7; have t_hj12 := hj12; have t_hlo_j8 := hlo_j8; have t_n15 := n15; have t_c20 := nleI c20; have : (20 : Int32).toInt = 20 := qI_20; have tnb_ := nib3 tn107_ tn106_ tn109_; omega)) (by decide)) ?_
                  refine lv_bipush (v := 9) hx hb dX8_leadInto_92 rfl ?_
                  refine lv_iload_n hx hb dX8_leadInto_94 rfl (lv_at hl 0 rfl) ?_
                  refine lv_iconst (v := 1) hx hb dX8_leadInto_95 rfl ?_
                  refine lv_iadd hx hb dX8_leadInto_96 ?_
                  refine lv_cg (y := nI (j8 + 1)) (by rw [show (1 : Int32) = nI 1 from rfl]; exact nI_add _ _) ?_
                  have hPc := hP.sub (ws' := []) [] rfl
                  refine va_calli (va_runS (As := [.int 9, .int (nI (j8 + 1))]) (rest := [.ref (ri (i + 1))]) ⟨hx, hb, hml, hown, hg⟩ (c_J9_min l dC dI G _ 9 (nI (j8 + 1))) (kwS hg mfJ9_min_7cf53 wt_776 ⟨Nat.le_of_ble_eq_true rfl, Nat.le_of_ble_eq_true rfl⟩) (preSR hK hPc) rfl rfl hl.1 rfl (lv_room (Nat.le_of_ble_eq_true rfl)) dX8_leadInto_97 ⟨Nat.le_of_ble_eq_true rfl, Nat.le_of_ble_eq_true rfl⟩) hS (fun q h1 h2 => absurd h2 (Nat.not_le.mpr h1)) (fun q h => hA q (Nat.le_trans hS.1 h)) (fun r21 ur21 t H1 locs ht hvm w22 hB hz1 hk1 hS => ?_)
                  have hP := keepR hP hk1
                  obtain ⟨w22, w22x⟩ := w22
                  have w22 : r21 = nI (min 9 (j8 + 1)) := w22.trans (mn_nI (a := 9) (b := (j8 + 1)) (by omega) (by omega))
                  subst w22
                  refine lv_dup2_11 hx hb dX8_leadInto_100 rfl rfl ?_
                  refine va_iald hx hb hK.1 (blk_P (j := (i + 1)) hP (by first | omega | (have t_hj5 := hj5; have t_n7 := n7; have t_hj12 := hj12; have t_hlo_j8 := hlo_j8; have t_n15 := n15; have t_c20 := nleI c20; have : (20 : Int32).toInt = 20 := qI_20; have tnb_ := nib3 tn107_ tn106_ tn109_; omega))) 0 0 rfl rfl (vp_in_nI (by first | omega | (have t_hj5 := hj5; have t_n7 := n7; have t_hj12 := hj12; have t_hlo_j8 := hlo_j8; have t_n15 := n15; have t_c20 := nleI c20; have : (20 : Int32).toInt = 20 := qI_20; have tnb_ := nib3 tn107_ tn106_ tn109_; omega)) (by decide)) dX8_leadInto_101 ?_
                  refine lv_cg (y := g16 (i + 1) (min 9 (j8 + 1))) (by rw [nI_clamp (by first | omega | (have t_hj5 := hj5; have t_n7 := n7; have t_hj12 := hj12; have t_hlo_j8 := hlo_j8; have t_n15 := n15; have t_c20 := nleI c20; have : (20 : Int32).toInt = 20 := qI_20; have tnb_ := nib3 tn107_ tn106_ tn109_; omega))]) ?_
                  refine lv_aload_n hx hb dX8_leadInto_102 rfl (lv_at hl 1 rfl) ?_
                  refine va_get (D := (dC, dI)) (ci := 8) (v := .ref ti) (C := RX8) (T := TX8) (N := 3) hx hb hg inG8 hown hK.1 hP 0 rfl rfl 1 (Nat.le_of_ble_eq_true rfl) (hg _ wt_260) (fun _ h9 => h9) rfl dX8_leadInto_103 ?_
                  refine lv_iload_n hx hb dX8_leadInto_106 rfl (lv_at hl 3 rfl) ?_
                  refine va_aldA hx hb hK.1 hP 1 4 rfl rfl (vp_in_nI (by first | omega | (have t_hj5 := hj5; have t_n7 := n7; have t_hj12 := hj12; have t_hlo_j8 := hlo_j8; have t_n15 := n15; have t_c20 := nleI c20; have : (20 : Int32).toInt = 20 := qI_20; have tnb_ := nib3 tn107_ tn106_ tn109_; omega)) (by decide)) dX8_leadInto_107 ?_
                  refine lv_cgv (y := .ref (ri i)) (rowref (by first | omega | (have t_hj5 := hj5; have t_n7 := n7; have t_hj12 := hj12; have t_hlo_j8 := hlo_j8; have t_n15 := n15; have t_c20 := nleI c20; have : (20 : Int32).toInt = 20 := qI_20; have tnb_ := nib3 tn107_ tn106_ tn109_; omega)) (by decide)) ?_
                  refine lv_iload_n hx hb dX8_leadInto_108 rfl (lv_at hl 0 rfl) ?_
                  refine va_iald hx hb hK.1 (blk_P (j := i) hP (by first | omega | (have t_hj5 := hj5; have t_n7 := n7; have t_hj12 := hj12; have t_hlo_j8 := hlo_j8; have t_n15 := n15; have t_c20 := nleI c20; have : (20 : Int32).toInt = 20 := qI_20; have tnb_ := nib3 tn107_ tn106_ tn109_; omega))) 0 0 rfl rfl (vp_in_nI (by first | omega | (have t_hj5 := hj5; have t_n7 := n7; have t_hj12 := hj12; have t_hlo_j8 := hlo_j8; have t_n15 := n15; have t_c20 := nleI c20; have : (20 : Int32).toInt = 20 := qI_20; have tnb_ := nib3 tn107_ tn106_ tn109_; omega)) (by decide)) dX8_leadInto_109 ?_
                  refine lv_cg (y := g16 i j8) (by rw [nI_clamp (by first | omega | (have t_hj5 := hj5; have t_n7 := n7; have t_hj12 := hj12; have t_hlo_j8 := hlo_j8; have t_n15 := n15; have t_c20 := nleI c20; have : (20 : Int32).toInt = 20 := qI_20; have tnb_ := nib3 tn107_ tn106_ tn109_; omega))]) ?_
                  refine lv_iadd hx hb dX8_leadInto_110 ?_
                  refine lv_topi (fun v23 ev23 => ?_)
                  refine va_iastB (j := (i + 1)) hx hb hK.1 hP hD hS 0 (by first | omega | (have t_hj5 := hj5; have t_n7 := n7; have t_hj12 := hj12; have t_hlo_j8 := hlo_j8; have t_n15 := n15; have t_c20 := nleI c20; have : (20 : Int32).toInt = 20 := qI_20; have tnb_ := nib3 tn107_ tn106_ tn109_; omega)) rfl (vp_in_nI (by first | omega | (have t_hj5 := hj5; have t_n7 := n7; have t_hj12 := hj12; have t_hlo_j8 := hlo_j8; have t_n15 := n15; have t_c20 := nleI c20; have : (20 : Int32).toInt = 20 := qI_20; have tnb_ := nib3 tn107_ tn106_ tn109_; omega)) (by decide)) dX8_leadInto_111 (fun H locs hP hD hS => ?_)
                  rw [nI_clamp (by first | omega | (have t_hj5 := hj5; have t_n7 := n7; have t_hj12 := hj12; have t_hlo_j8 := hlo_j8; have t_n15 := n15; have t_c20 := nleI c20; have : (20 : Int32).toInt = 20 := qI_20; have tnb_ := nib3 tn107_ tn106_ tn109_; omega))] at hP hD
                  obtain ⟨hP, hD⟩ := va_rls (ws' := (([(h0, .inr (8, [.int tt, .ref ti, .ref to])), (ti, .inl (G 4, 11, .inr (.inr (.inr (.inr (fun ir => if ir < 11 then some (ri ir) else none)))))), (to, .inl (G 4, 11, .inr (.inr (.inr (.inr (fun ir => if ir < 11 then some (ro ir) else none))))))] : va_W) ++ ((((List.range 11).map (fun iq => (ri iq, .inl (G 0, 10, .inl ((va_up g16 (i + 1) (upd (g16 (i + 1)) (min 9 (j8 + 1)) v23)) iq))))) : va_W) ++ ((((List.range 11).map (fun iq => (ro iq, .inl (G 0, 10, .inl (E iq))))) : va_W) ++ [])))) hP hD rfl
                  exact cut112_19 (va_up g16 (i + 1) (upd (g16 (i + 1)) (min 9 (j8 + 1)) v23)) _ _ hP hD hS ls (lv_sub hl [0, 1, 2, 3] rfl)
              refine lv_if_le (tgt := 78) hx hb dX8_leadInto_52 rfl (fun c24 => ?_) (fun c24 => ?_)
              · skip
                exact cut78_17 g9 _ _ hP hD hS ls (lv_sub hl [0, 1, 2, 3] rfl)
              · skip
                refine lv_aload_n hx hb dX8_leadInto_55 rfl (lv_at hl 1 rfl) ?_
                refine va_get (D := (dC, dI)) (ci := 8) (v := .ref ti) (C := RX8) (T := TX8) (N := 3) hx hb hg inG8 hown hK.1 hP 0 rfl rfl 1 (Nat.le_of_ble_eq_true rfl) (hg _ wt_260) (fun _ h9 => h9) rfl dX8_leadInto_56 ?_
                refine lv_iload_n hx hb dX8_leadInto_59 rfl (lv_at hl 3 rfl) ?_
                refine lv_iconst (v := 1) hx hb dX8_leadInto_60 rfl ?_
                refine lv_iadd hx hb dX8_leadInto_61 ?_
                refine lv_cg (y := nI (i + 1)) (by rw [show (1 : Int32) = nI 1 from rfl]; exact nI_add _ _) ?_
                refine va_aldA hx hb hK.1 hP 1 4 rfl rfl (vp_in_nI (by first | omega | (have t_hj5 := hj5; have t_n7 := n7; have t_hj12 := hj12; have t_hlo_j8 := hlo_j8; have t_n15 := n15; have t_c24 := nleI c24; have : (0 : Int32).toInt = 0 := qI_0; have tnb_ := nib3 tn107_ tn106_ tn109_; omega)) (by decide)) dX8_leadInto_62 ?_
                refine lv_cgv (y := .ref (ri (i + 1))) (rowref (by first | omega | (have t_hj5 := hj5; have t_n7 := n7; have t_hj12 := hj12; have t_hlo_j8 := hlo_j8; have t_n15 := n15; have t_c24 := nleI c24; have : (0 : Int32).toInt = 0 := qI_0; have tnb_ := nib3 tn107_ tn106_ tn109_; omega)) (by decide)) ?_
                refine lv_iload_n hx hb dX8_leadInto_63 rfl (lv_at hl 0 rfl) ?_
                refine lv_iconst (v := 1) hx hb dX8_leadInto_64 rfl ?_
                refine lv_isub hx hb dX8_leadInto_65 ?_
                refine lv_cg (y := nI (j8 - 1)) (by rw [show (1 : Int32) = nI 1 from rfl]; exact pk_sub (by have t_hj5 := hj5; have t_n7 := n7; have t_hj12 := hj12; have t_hlo_j8 := hlo_j8; have t_n15 := n15; have t_c24 := nleI c24; have : (0 : Int32).toInt = 0 := qI_0; have tnb_ := nib3 tn107_ tn106_ tn109_; omega)) ?_
                refine lv_dup2_11 hx hb dX8_leadInto_66 rfl rfl ?_
                refine va_iald hx hb hK.1 (blk_P (j := (i + 1)) hP (by first | omega | (have t_hj5 := hj5; have t_n7 := n7; have t_hj12 := hj12; have t_hlo_j8 := hlo_j8; have t_n15 := n15; have t_c24 := nleI c24; have : (0 : Int32).toInt = 0 := qI_0; have tnb_ := nib3 tn107_ tn106_ tn109_; omega))) 0 0 rfl rfl (vp_in_nI (by first | omega | (have t_hj5 := hj5; have t_n7 := n7; have t_hj12 := hj12; have t_hlo_j8 := hlo_j8; have t_n15 := n15; have t_c24 := nleI c24; have : (0 : Int32).toInt = 0 := qI_0; have tnb_ := nib3 tn107_ tn106_ tn109_; omega)) (by decide)) dX8_leadInto_67 ?_
                refine lv_cg (y := g9 (i + 1) (j8 - 1)) (by rw [nI_clamp (by first | omega | (have t_hj5 := hj5; have t_n7 := n7; have t_hj12 := hj12; have t_hlo_j8 := hlo_j8; have t_n15 := n15; have t_c24 := nleI c24; have : (0 : Int32).toInt = 0 := qI_0; have tnb_ := nib3 tn107_ tn106_ tn109_; omega))]) ?_
                refine lv_aload_n hx hb dX8_leadInto_68 rfl (lv_at hl 1 rfl) ?_
                refine va_get (D := (dC, dI)) (ci := 8) (v := .ref ti) (C := RX8) (T := TX8) (N := 3) hx hb hg inG8 hown hK.1 hP 0 rfl rfl 1 (Nat.le_of_ble_eq_true rfl) (hg _ wt_260) (fun _ h9 => h9) rfl dX8_leadInto_69 ?_
                refine lv_iload_n hx hb dX8_leadInto_72 rfl (lv_at hl 3 rfl) ?_
                refine va_aldA hx hb hK.1 hP 1 4 rfl rfl (vp_in_nI (by first | omega | (have t_hj5 := hj5; have t_n7 := n7; have t_hj12 := hj12; have t_hlo_j8 := hlo_j8; have t_n15 := n15; have t_c24 := nleI c24; have : (0 : Int32).toInt = 0 := qI_0; have tnb_ := nib3 tn107_ tn106_ tn109_; omega)) (by decide)) dX8_leadInto_73 ?_
                refine lv_cgv (y := .ref (ri i)) (rowref (by first | omega | (have t_hj5 := hj5; have t_n7 := n7; have t_hj12 := hj12; have t_hlo_j8 := hlo_j8; have t_n15 := n15; have t_c24 := nleI c24; have : (0 : Int32).toInt = 0 := qI_0; have tnb_ := nib3 tn107_ tn106_ tn109_; omega)) (by decide)) ?_
                refine lv_iload_n hx hb dX8_leadInto_74 rfl (lv_at hl 0 rfl) ?_
                refine va_iald hx hb hK.1 (blk_P (j := i) hP (by first | omega | (have t_hj5 := hj5; have t_n7 := n7; have t_hj12 := hj12; have t_hlo_j8 := hlo_j8; have t_n15 := n15; have t_c24 := nleI c24; have : (0 : Int32).toInt = 0 := qI_0; have tnb_ := nib3 tn107_ tn106_ tn109_; omega))) 0 0 rfl rfl (vp_in_nI (by first | omega | (have t_hj5 := hj5; have t_n7 := n7; have t_hj12 := hj12; have t_hlo_j8 := hlo_j8; have t_n15 := n15; have t_c24 := nleI c24; have : (0 : Int32).toInt = 0 := qI_0; have tnb_ := nib3 tn107_ tn106_ tn109_; omega)) (by decide)) dX8_leadInto_75 ?_
                refine lv_cg (y := g9 i j8) (by rw [nI_clamp (by first | omega | (have t_hj5 := hj5; have t_n7 := n7; have t_hj12 := hj12; have t_hlo_j8 := hlo_j8; have t_n15 := n15; have t_c24 := nleI c24; have : (0 : Int32).toInt = 0 := qI_0; have tnb_ := nib3 tn107_ tn106_ tn109_; omega))]) ?_
                refine lv_iadd hx hb dX8_leadInto_76 ?_
                refine lv_topi (fun v25 ev25 => ?_)
                refine va_iastB (j := (i + 1)) hx hb hK.1 hP hD hS 0 (by first | omega | (have t_hj5 := hj5; have t_n7 := n7; have t_hj12 := hj12; have t_hlo_j8 := hlo_j8; have t_n15 := n15; have t_c24 := nleI c24; have : (0 : Int32).toInt = 0 := qI_0; have tnb_ := nib3 tn107_ tn106_ tn109_; omega)) rfl (vp_in_nI (by first | omega | (have t_hj5 := hj5; have t_n7 := n7; have t_hj12 := hj12; have t_hlo_j8 := hlo_j8; have t_n15 := n15; have t_c24 := nleI c24; have : (0 : Int32).toInt = 0 := qI_0; have tnb_ := nib3 tn107_ tn106_ tn109_; omega)) (by decide)) dX8_leadInto_77 (fun H locs hP hD hS => ?_)
                rw [nI_clamp (by first | omega | (have t_hj5 := hj5; have t_n7 := n7; have t_hj12 := hj12; have t_hlo_j8 := hlo_j8; have t_n15 := n15; have t_c24 := nleI c24; have : (0 : Int32).toInt = 0 := qI_0; have tnb_ := nib3 tn107_ tn106_ tn109_; omega))] at hP hD
                obtain ⟨hP, hD⟩ := va_rls (ws' := (([(h0, .inr (8, [.int tt, .ref ti, .ref to])), (ti, .inl (G 4, 11, .inr (.inr (.inr (.inr (fun ir => if ir < 11 then some (ri ir) else none)))))), (to, .inl (G 4, 11, .inr (.inr (.inr (.inr (fun ir => if ir < 11 then some (ro ir) else none))))))] : va_W) ++ ((((List.range 11).map (fun iq => (ri iq, .inl (G 0, 10, .inl ((va_up g9 (i + 1) (upd (g9 (i + 1)) (j8 - 1) v25)) iq))))) : va_W) ++ ((((List.range 11).map (fun iq => (ro iq, .inl (G 0, 10, .inl (E iq))))) : va_W) ++ [])))) hP hD rfl
                exact cut78_17 (va_up g9 (i + 1) (upd (g9 (i + 1)) (j8 - 1) v25)) _ _ hP hD hS ls (lv_sub hl [0, 1, 2, 3] rfl)
        exact loop45_10 (10 + 1) 1 (by omega) (by omega) (by omega) (va_up g2 (i + 1) (upd (g2 (i + 1)) 0 (g2 i 0))) _ _ hP hD hS ls (lv_sub hl [0, 1, 2, 3] rfl)
      · skip
        have tn110_ : nIT j1 := fun _ => nI_toInt (by first | omega | (have t := nleI c6; omega))
        have n26 : j1 < 10 := by have t := nleI c6; rw [show (nI (j1)).toInt = ((j1 : Nat) : Int) from tn110_ ()] at t; have : (10 : Int32).toInt = 10 := qI_10; omega
        refine lv_aload_n hx hb dX8_leadInto_8 rfl (lv_at hl 1 rfl) ?_
        refine va_get (D := (dC, dI)) (ci := 8) (v := .ref ti) (C := RX8) (T := TX8) (N := 3) hx hb hg inG8 hown hK.1 hP 0 rfl rfl 1 (Nat.le_of_ble_eq_true rfl) (hg _ wt_260) (fun _ h9 => h9) rfl dX8_leadInto_9 ?_
        refine lv_iload_n hx hb dX8_leadInto_12 rfl (lv_at hl 3 rfl) ?_
        refine lv_iconst (v := 1) hx hb dX8_leadInto_13 rfl ?_
        refine lv_iadd hx hb dX8_leadInto_14 ?_
        refine lv_cg (y := nI (i + 1)) (by rw [show (1 : Int32) = nI 1 from rfl]; exact nI_add _ _) ?_
        have tn111_ : nIT i := fun _ => nI_toInt (by first | omega | (have t_hj5 := hj5; have t_n26 := n26; omega))
        refine va_aldA hx hb hK.1 hP 1 4 rfl rfl (vp_in_nI (by first | omega | (have t_hj5 := hj5; have t_n26 := n26; have tnb_ := nib2 tn111_ tn110_; omega)) (by decide)) dX8_leadInto_15 ?_
        refine lv_cgv (y := .ref (ri (i + 1))) (rowref (by first | omega | (have t_hj5 := hj5; have t_n26 := n26; have tnb_ := nib2 tn111_ tn110_; omega)) (by decide)) ?_
        refine lv_iload_n hx hb dX8_leadInto_16 rfl (lv_at hl 0 rfl) ?_
        refine lv_iconst (v := 0) hx hb dX8_leadInto_17 rfl ?_
        refine va_iastB (j := (i + 1)) hx hb hK.1 hP hD hS 0 (by first | omega | (have t_hj5 := hj5; have t_n26 := n26; have tnb_ := nib2 tn111_ tn110_; omega)) rfl (vp_in_nI (by first | omega | (have t_hj5 := hj5; have t_n26 := n26; have tnb_ := nib2 tn111_ tn110_; omega)) (by decide)) dX8_leadInto_18 (fun H locs hP hD hS => ?_)
        rw [nI_clamp (by first | omega | (have t_hj5 := hj5; have t_n26 := n26; have tnb_ := nib2 tn111_ tn110_; omega))] at hP hD
        obtain ⟨hP, hD⟩ := va_rls (ws' := (([(h0, .inr (8, [.int tt, .ref ti, .ref to])), (ti, .inl (G 4, 11, .inr (.inr (.inr (.inr (fun ir => if ir < 11 then some (ri ir) else none)))))), (to, .inl (G 4, 11, .inr (.inr (.inr (.inr (fun ir => if ir < 11 then some (ro ir) else none))))))] : va_W) ++ ((((List.range 11).map (fun iq => (ri iq, .inl (G 0, 10, .inl ((va_up g2 (i + 1) (upd (g2 (i + 1)) j1 0)) iq))))) : va_W) ++ ((((List.range 11).map (fun iq => (ro iq, .inl (G 0, 10, .inl (E iq))))) : va_W) ++ [])))) hP hD rfl
        refine lv_iinc (v := nI (j1 + 1)) (lv' := [(3, .int (nI (j1 + 1))), (0, .ref h0), (1, .int x1), (2, .int (nI i))]) hx hb dX8_leadInto_19 hl (k := 0) rfl (by rw [show Int32.ofInt 1 = nI 1 from by decide]; exact nI_add _ _) (by decide) rfl (fun ls hl => ?_)
        refine lv_goto (tgt := 2) hx hb dX8_leadInto_22 rfl ?_
        exact ih2_3 (j1 + 1) (by omega) (by omega) (va_up g2 (i + 1) (upd (g2 (i + 1)) j1 0)) _ _ hP hD hS ls (lv_sub hl [0, 1, 2, 3] rfl)
  exact loop2_3 (10 + 1) 0 (by omega) (by omega) F _ _ hP hD hS ls (lv_sub hl [0, 1, 2, 3] rfl)

set_option maxHeartbeats 1000000 in
set_option maxRecDepth 100000 in
theorem c_X8_leadOnward (l : Launch) (dC : Nat → ClassId) (dI : Nat → Nat → Nat) (G : Nat → ClassId) (sz : Nat) (h0 ti to i : Nat) (x1 tt : Int32) (ri ro : Nat → Nat) (F E : Nat → Nat → Int32) (hi : i < 10) : Met l yX8_leadOnward (Cond.code yX8_leadOnward cX8_leadOnward 6 none :: GT) ({ frames := 1, cells := 0, slots := 0, locals := 21 } : Room) (PcW [.ref h0, .int x1, .int (nI i)] dC dI G (([(h0, .inr (8, [.int tt, .ref ti, .ref to])), (ti, .inl (G 4, 11, .inr (.inr (.inr (.inr (fun ir => if ir < 11 then some (ri ir) else none)))))), (to, .inl (G 4, 11, .inr (.inr (.inr (.inr (fun ir => if ir < 11 then some (ro ir) else none))))))] : va_W) ++ ((((List.range 11).map (fun iq => (ri iq, .inl (G 0, 10, .inl (F iq))))) : va_W) ++ ((((List.range 11).map (fun iq => (ro iq, .inl (G 0, 10, .inl (E iq))))) : va_W) ++ []))) sz) (va_Qv (fun (u : Int32 × (Nat → Nat → Int32) × (Nat → Nat → Int32)) => match u with | (u0, u1, u2) => True) (fun (u : Int32 × (Nat → Nat → Int32) × (Nat → Nat → Int32)) (t : State) => match u with | (u0, u1, u2) => va_P (dC, dI) vwCl (([(h0, .inr (8, [.int u0, .ref ti, .ref to])), (ti, .inl (G 4, 11, .inr (.inr (.inr (.inr (fun ir => if ir < 11 then some (ri ir) else none)))))), (to, .inl (G 4, 11, .inr (.inr (.inr (.inr (fun ir => if ir < 11 then some (ro ir) else none))))))] : va_W) ++ ((((List.range 11).map (fun iq => (ri iq, .inl (G 0, 10, .inl (u1 iq))))) : va_W) ++ ((((List.range 11).map (fun iq => (ro iq, .inl (G 0, 10, .inl (u2 iq))))) : va_W) ++ []))) t.heap ∧ va_D (va_A (([(h0, .inr (8, [.int tt, .ref ti, .ref to])), (ti, .inl (G 4, 11, .inr (.inr (.inr (.inr (fun ir => if ir < 11 then some (ri ir) else none)))))), (to, .inl (G 4, 11, .inr (.inr (.inr (.inr (fun ir => if ir < 11 then some (ro ir) else none))))))] : va_W) ++ ((((List.range 11).map (fun iq => (ri iq, .inl (G 0, 10, .inl (F iq))))) : va_W) ++ ((((List.range 11).map (fun iq => (ro iq, .inl (G 0, 10, .inl (E iq))))) : va_W) ++ []))) sz) (([(h0, .inr (8, [.int u0, .ref ti, .ref to])), (ti, .inl (G 4, 11, .inr (.inr (.inr (.inr (fun ir => if ir < 11 then some (ri ir) else none)))))), (to, .inl (G 4, 11, .inr (.inr (.inr (.inr (fun ir => if ir < 11 then some (ro ir) else none))))))] : va_W) ++ ((((List.range 11).map (fun iq => (ri iq, .inl (G 0, 10, .inl (u1 iq))))) : va_W) ++ ((((List.range 11).map (fun iq => (ro iq, .inl (G 0, 10, .inl (u2 iq))))) : va_W) ++ [])))) (va_A (([(h0, .inr (8, [.int tt, .ref ti, .ref to])), (ti, .inl (G 4, 11, .inr (.inr (.inr (.inr (fun ir => if ir < 11 then some (ri ir) else none)))))), (to, .inl (G 4, 11, .inr (.inr (.inr (.inr (fun ir => if ir < 11 then some (ro ir) else none))))))] : va_W) ++ ((((List.range 11).map (fun iq => (ri iq, .inl (G 0, 10, .inl (F iq))))) : va_W) ++ ((((List.range 11).map (fun iq => (ro iq, .inl (G 0, 10, .inl (E iq))))) : va_W) ++ []))) sz)) 0 0 (va_A (([(h0, .inr (8, [.int tt, .ref ti, .ref to])), (ti, .inl (G 4, 11, .inr (.inr (.inr (.inr (fun ir => if ir < 11 then some (ri ir) else none)))))), (to, .inl (G 4, 11, .inr (.inr (.inr (.inr (fun ir => if ir < 11 then some (ro ir) else none))))))] : va_W) ++ ((((List.range 11).map (fun iq => (ri iq, .inl (G 0, 10, .inl (F iq))))) : va_W) ++ ((((List.range 11).map (fun iq => (ro iq, .inl (G 0, 10, .inl (E iq))))) : va_W) ++ []))) sz) := by
  refine Met.ofW (cc := cX8_leadOnward) (maxL := 6) (ret := none) (by decide) rfl ?_
  intro p e s m args below meth c s₁ Bd hml hv
  obtain ⟨rfl, hsz, hP, hK, hD0⟩ := hv
  have hx := Bd.exec
  have hb := Bd.bytes
  have hr := Bd.returns
  have hg : ∀ w ∈ GT, w.before ([.ref h0, .int x1, .int (nI i)] : List Value).toArray s = true := fun w h => atoms_spec (ws := Cond.code yX8_leadOnward cX8_leadOnward 6 none :: GT) Bd.pre w (List.mem_cons_of_mem _ h)
  have hown : s.vm.findClass RX8 = some m.cls := findClass_of_methodNamed Bd.named
  have hlocks := Bd.notSynchronized
  subst hsz
  have hD := hD0.self (sz := s.heap.size)
  generalize hAe : va_A (([(h0, .inr (8, [.int tt, .ref ti, .ref to])), (ti, .inl (G 4, 11, .inr (.inr (.inr (.inr (fun ir => if ir < 11 then some (ri ir) else none)))))), (to, .inl (G 4, 11, .inr (.inr (.inr (.inr (fun ir => if ir < 11 then some (ro ir) else none))))))] : va_W) ++ ((((List.range 11).map (fun iq => (ri iq, .inl (G 0, 10, .inl (F iq))))) : va_W) ++ ((((List.range 11).map (fun iq => (ro iq, .inl (G 0, 10, .inl (E iq))))) : va_W) ++ []))) s.heap.size = A at hD ⊢
  have hA : ∀ q : Nat, s.heap.size ≤ q → A q := fun q h => by rw [← hAe]; exact Or.inr h
  have hS : va_S A s.heap s.heap [] := va_S.rf
  have hl := lv_entry ([.ref h0, .int x1, .int (nI i)]) (n := 6) (Nat.le_of_ble_eq_true rfl)
  rw [lg_entry_eq]
  generalize (lg_sl ([.ref h0, .int x1, .int (nI i)]) ++ List.replicate (6 - (lg_sl ([.ref h0, .int x1, .int (nI i)])).length) Slot.unset).toArray = ls at hl ⊢
  have hl : lv_has ls 6 [(0, .ref h0), (1, .int x1), (2, .int (nI i))] := hl
  refine lv_aload_n hx hb dX8_leadOnward_0 rfl (lv_at hl 0 rfl) ?_
  refine va_get (D := (dC, dI)) (ci := 8) (v := .ref to) (C := RX8) (T := TX8) (N := 3) hx hb hg inG8 hown hK.1 hP 0 rfl rfl 2 (Nat.le_of_ble_eq_true rfl) (hg _ wt_261) (fun _ h9 => h9) rfl dX8_leadOnward_1 ?_
  refine lv_iload_n hx hb dX8_leadOnward_4 rfl (lv_at hl 2 rfl) ?_
  have tn112_ : nIT i := fun _ => nI_toInt (by omega)
  refine va_aldA hx hb hK.1 hP 2 4 rfl rfl (vp_in_nI (by first | omega | (have t_n0 : (nI i).toInt = (i : Int) := tn112_ (); omega)) (by decide)) dX8_leadOnward_5 ?_
  refine lv_cgv (y := .ref (ro i)) (rowref (by first | omega | (have t_n0 : (nI i).toInt = (i : Int) := tn112_ (); omega)) (by decide)) ?_
  refine lv_iconst (v := 0) hx hb dX8_leadOnward_6 rfl ?_
  refine lv_aload_n hx hb dX8_leadOnward_7 rfl (lv_at hl 0 rfl) ?_
  refine va_get (D := (dC, dI)) (ci := 8) (v := .ref to) (C := RX8) (T := TX8) (N := 3) hx hb hg inG8 hown hK.1 hP 0 rfl rfl 2 (Nat.le_of_ble_eq_true rfl) (hg _ wt_261) (fun _ h9 => h9) rfl dX8_leadOnward_8 ?_
  refine lv_iload_n hx hb dX8_leadOnward_11 rfl (lv_at hl 2 rfl) ?_
  refine lv_iconst (v := 1) hx hb dX8_leadOnward_12 rfl ?_
  refine lv_iadd hx hb dX8_leadOnward_13 ?_
  refine lv_cg (y := nI (i + 1)) (by rw [show (1 : Int32) = nI 1 from rfl]; exact nI_add _ _) ?_
  refine va_aldA hx hb hK.1 hP 2 4 rfl rfl (vp_in_nI (by first | omega | (have t_n0 : (nI i).toInt = (i : Int) := tn112_ (); omega)) (by decide)) dX8_leadOnward_14 ?_
  refine lv_cgv (y := .ref (ro (i + 1))) (rowref (by first | omega | (have t_n0 : (nI i).toInt = (i : Int) := tn112_ (); omega)) (by decide)) ?_
  refine lv_iconst (v := 0) hx hb dX8_leadOnward_15 rfl ?_
  refine va_iald hx hb hK.1 (blk_P2 (j := (i + 1)) hP (by first | omega | (have t_n0 : (nI i).toInt = (i : Int) := tn112_ (); omega))) 0 0 rfl rfl (vp_in_iff.mpr ⟨by decide, by decide⟩) dX8_leadOnward_16 ?_
  refine lv_cg (y := E (i + 1) 0) (by rfl) ?_
  refine va_iastB2 (j := i) hx hb hK.1 hP hD hS 0 (by first | omega | (have t_n0 : (nI i).toInt = (i : Int) := tn112_ (); omega)) rfl (vp_in_iff.mpr ⟨by decide, by decide⟩) dX8_leadOnward_17 (fun H locs hP hD hS => ?_)
  obtain ⟨hP, hD⟩ := va_rls (ws' := (([(h0, .inr (8, [.int tt, .ref ti, .ref to])), (ti, .inl (G 4, 11, .inr (.inr (.inr (.inr (fun ir => if ir < 11 then some (ri ir) else none)))))), (to, .inl (G 4, 11, .inr (.inr (.inr (.inr (fun ir => if ir < 11 then some (ro ir) else none))))))] : va_W) ++ ((((List.range 11).map (fun iq => (ri iq, .inl (G 0, 10, .inl (F iq))))) : va_W) ++ ((((List.range 11).map (fun iq => (ro iq, .inl (G 0, 10, .inl ((va_up E i (upd (E i) 0 (E (i + 1) 0))) iq))))) : va_W) ++ [])))) hP hD rfl
  refine lv_iconst (v := 1) hx hb dX8_leadOnward_18 rfl ?_
  refine lv_istore_n (lv' := [(3, .int 1), (0, .ref h0), (1, .int x1), (2, .int (nI i))]) hx hb dX8_leadOnward_19 rfl hl (by decide) rfl (fun ls hl => ?_)
  have loop20_3 : ∀ (nf j1 : Nat), 10 + 1 ≤ j1 + nf → j1 ≤ 10 → 1 ≤ j1 → ∀ (g2 : Nat → Nat → Int32) (H : Heap) (locs : List Loc), va_P (dC, dI) vwCl (([(h0, .inr (8, [.int tt, .ref ti, .ref to])), (ti, .inl (G 4, 11, .inr (.inr (.inr (.inr (fun ir => if ir < 11 then some (ri ir) else none)))))), (to, .inl (G 4, 11, .inr (.inr (.inr (.inr (fun ir => if ir < 11 then some (ro ir) else none))))))] : va_W) ++ ((((List.range 11).map (fun iq => (ri iq, .inl (G 0, 10, .inl (F iq))))) : va_W) ++ ((((List.range 11).map (fun iq => (ro iq, .inl (G 0, 10, .inl (g2 iq))))) : va_W) ++ []))) H → va_D A (([(h0, .inr (8, [.int tt, .ref ti, .ref to])), (ti, .inl (G 4, 11, .inr (.inr (.inr (.inr (fun ir => if ir < 11 then some (ri ir) else none)))))), (to, .inl (G 4, 11, .inr (.inr (.inr (.inr (fun ir => if ir < 11 then some (ro ir) else none))))))] : va_W) ++ ((((List.range 11).map (fun iq => (ri iq, .inl (G 0, 10, .inl (F iq))))) : va_W) ++ ((((List.range 11).map (fun iq => (ro iq, .inl (G 0, 10, .inl (g2 iq))))) : va_W) ++ []))) → va_S A s.heap H locs → ∀ (ls : Array Slot), lv_has ls 6 [(3, .int (nI j1)), (0, .ref h0), (1, .int x1), (2, .int (nI i))] → W p l e (headSpec (Cond.code yX8_leadOnward cX8_leadOnward 6 none :: GT) ({ frames := 1, cells := 0, slots := 0, locals := 21 } : Room)).room s m ([.ref h0, .int x1, .int (nI i)] : List Value).toArray below meth c H locs 0 0 (MQ below (va_Qv (fun (u : Int32 × (Nat → Nat → Int32) × (Nat → Nat → Int32)) => match u with | (u0, u1, u2) => True) (fun (u : Int32 × (Nat → Nat → Int32) × (Nat → Nat → Int32)) (t : State) => match u with | (u0, u1, u2) => va_P (dC, dI) vwCl (([(h0, .inr (8, [.int u0, .ref ti, .ref to])), (ti, .inl (G 4, 11, .inr (.inr (.inr (.inr (fun ir => if ir < 11 then some (ri ir) else none)))))), (to, .inl (G 4, 11, .inr (.inr (.inr (.inr (fun ir => if ir < 11 then some (ro ir) else none))))))] : va_W) ++ ((((List.range 11).map (fun iq => (ri iq, .inl (G 0, 10, .inl (u1 iq))))) : va_W) ++ ((((List.range 11).map (fun iq => (ro iq, .inl (G 0, 10, .inl (u2 iq))))) : va_W) ++ []))) t.heap ∧ va_D A (([(h0, .inr (8, [.int u0, .ref ti, .ref to])), (ti, .inl (G 4, 11, .inr (.inr (.inr (.inr (fun ir => if ir < 11 then some (ri ir) else none)))))), (to, .inl (G 4, 11, .inr (.inr (.inr (.inr (fun ir => if ir < 11 then some (ro ir) else none))))))] : va_W) ++ ((((List.range 11).map (fun iq => (ri iq, .inl (G 0, 10, .inl (u1 iq))))) : va_W) ++ ((((List.range 11).map (fun iq => (ro iq, .inl (G 0, 10, .inl (u2 iq))))) : va_W) ++ [])))) A) ([.ref h0, .int x1, .int (nI i)] : List Value).toArray s 0 0 A) (F0 m 20 ls []) := by
    intro nf
    induction nf with
    | zero => intro j1 h1 h2; exact absurd h1 (by omega)
    | succ nf ih20_3 =>
      intro j1 hn4 hj5 hlo_j1 g2 H locs hP hD hS ls hl
      refine lv_iload_n hx hb dX8_leadOnward_20 rfl (lv_at hl 0 rfl) ?_
      refine lv_bipush (v := 10) hx hb dX8_leadOnward_21 rfl ?_
      refine lv_icmp_ge (tgt := 96) hx hb dX8_leadOnward_23 rfl (fun c6 => ?_) (fun c6 => ?_)
      · skip
        have tn113_ : nIT j1 := fun _ => nI_toInt (by first | omega | (have t := leI c6; omega))
        have n7 : 10 ≤ j1 := by have t := leI c6; rw [show (nI (j1)).toInt = ((j1 : Nat) : Int) from tn113_ ()] at t; have : (10 : Int32).toInt = 10 := qI_10; omega
        obtain ⟨hP9, hD9⟩ := va_sub2 (ws' := (([(h0, .inr (8, [.int tt, .ref ti, .ref to])), (ti, .inl (G 4, 11, .inr (.inr (.inr (.inr (fun ir => if ir < 11 then some (ri ir) else none)))))), (to, .inl (G 4, 11, .inr (.inr (.inr (.inr (fun ir => if ir < 11 then some (ro ir) else none))))))] : va_W) ++ ((((List.range 11).map (fun iq => (ri iq, .inl (G 0, 10, .inl (F iq))))) : va_W) ++ ((((List.range 11).map (fun iq => (ro iq, .inl (G 0, 10, .inl (g2 iq))))) : va_W) ++ [])))) hP hD [0, 1, 2, 3, 4, 5, 6, 7, 8, 9, 10, 11, 12, 13, 14, 15, 16, 17, 18, 19, 20, 21, 22, 23, 24] (by decide +kernel) rfl
        refine W.widen (k := 0) (n := 0) (Nat.le_of_ble_eq_true rfl) (Nat.le_of_ble_eq_true rfl) ?_
        exact W.vret hx hb hr (fun t ht hW => ⟨⟨(tt, F, g2), rfl, trivial, ⟨by rw [ht]; exact hP9, hD9⟩⟩, hS.F ht⟩) hS.2.2 dX8_leadOnward_96
      · skip
        have tn114_ : nIT j1 := fun _ => nI_toInt (by first | omega | (have t := nleI c6; omega))
        have n8 : j1 < 10 := by have t := nleI c6; rw [show (nI (j1)).toInt = ((j1 : Nat) : Int) from tn114_ ()] at t; have : (10 : Int32).toInt = 10 := qI_10; omega
        refine lv_iload_n hx hb dX8_leadOnward_26 rfl (lv_at hl 2 rfl) ?_
        have cut46_10 : ∀ (y9 : Int32) (H : Heap) (locs : List Loc), va_P (dC, dI) vwCl (([(h0, .inr (8, [.int tt, .ref ti, .ref to])), (ti, .inl (G 4, 11, .inr (.inr (.inr (.inr (fun ir => if ir < 11 then some (ri ir) else none)))))), (to, .inl (G 4, 11, .inr (.inr (.inr (.inr (fun ir => if ir < 11 then some (ro ir) else none))))))] : va_W) ++ ((((List.range 11).map (fun iq => (ri iq, .inl (G 0, 10, .inl (F iq))))) : va_W) ++ ((((List.range 11).map (fun iq => (ro iq, .inl (G 0, 10, .inl (g2 iq))))) : va_W) ++ []))) H → va_D A (([(h0, .inr (8, [.int tt, .ref ti, .ref to])), (ti, .inl (G 4, 11, .inr (.inr (.inr (.inr (fun ir => if ir < 11 then some (ri ir) else none)))))), (to, .inl (G 4, 11, .inr (.inr (.inr (.inr (fun ir => if ir < 11 then some (ro ir) else none))))))] : va_W) ++ ((((List.range 11).map (fun iq => (ri iq, .inl (G 0, 10, .inl (F iq))))) : va_W) ++ ((((List.range 11).map (fun iq => (ro iq, .inl (G 0, 10, .inl (g2 iq))))) : va_W) ++ []))) → va_S A s.heap H locs → ∀ (ls : Array Slot), lv_has ls 6 [(3, .int (nI j1)), (0, .ref h0), (1, .int x1), (2, .int (nI i))] → W p l e (headSpec (Cond.code yX8_leadOnward cX8_leadOnward 6 none :: GT) ({ frames := 1, cells := 0, slots := 0, locals := 21 } : Room)).room s m ([.ref h0, .int x1, .int (nI i)] : List Value).toArray below meth c H locs 0 0 (MQ below (va_Qv (fun (u : Int32 × (Nat → Nat → Int32) × (Nat → Nat → Int32)) => match u with | (u0, u1, u2) => True) (fun (u : Int32 × (Nat → Nat → Int32) × (Nat → Nat → Int32)) (t : State) => match u with | (u0, u1, u2) => va_P (dC, dI) vwCl (([(h0, .inr (8, [.int u0, .ref ti, .ref to])), (ti, .inl (G 4, 11, .inr (.inr (.inr (.inr (fun ir => if ir < 11 then some (ri ir) else none)))))), (to, .inl (G 4, 11, .inr (.inr (.inr (.inr (fun ir => if ir < 11 then some (ro ir) else none))))))] : va_W) ++ ((((List.range 11).map (fun iq => (ri iq, .inl (G 0, 10, .inl (u1 iq))))) : va_W) ++ ((((List.range 11).map (fun iq => (ro iq, .inl (G 0, 10, .inl (u2 iq))))) : va_W) ++ []))) t.heap ∧ va_D A (([(h0, .inr (8, [.int u0, .ref ti, .ref to])), (ti, .inl (G 4, 11, .inr (.inr (.inr (.inr (fun ir => if ir < 11 then some (ri ir) else none)))))), (to, .inl (G 4, 11, .inr (.inr (.inr (.inr (fun ir => if ir < 11 then some (ro ir) else none))))))] : va_W) ++ ((((List.range 11).map (fun iq => (ri iq, .inl (G 0, 10, .inl (u1 iq))))) : va_W) ++ ((((List.range 11).map (fun iq => (ro iq, .inl (G 0, 10, .inl (u2 iq))))) : va_W) ++ [])))) A) ([.ref h0, .int x1, .int (nI i)] : List Value).toArray s 0 0 A) (F0 m 46 ls [.int y9]) := by
          intro y9 H locs hP hD hS ls hl
          refine lv_istore (lv' := [(4, .int y9), (3, .int (nI j1)), (0, .ref h0), (1, .int x1), (2, .int (nI i))]) hx hb dX8_leadOnward_46 hl (by decide) rfl (fun ls hl => ?_)
          refine lv_iload_n hx hb dX8_leadOnward_48 rfl (lv_at hl 3 rfl) ?_
          refine lv_bipush (v := 20) hx hb dX8_leadOnward_49 rfl ?_
          have cut75_12 : ∀ (y11 : Int32) (H : Heap) (locs : List Loc), va_P (dC, dI) vwCl (([(h0, .inr (8, [.int tt, .ref ti, .ref to])), (ti, .inl (G 4, 11, .inr (.inr (.inr (.inr (fun ir => if ir < 11 then some (ri ir) else none)))))), (to, .inl (G 4, 11, .inr (.inr (.inr (.inr (fun ir => if ir < 11 then some (ro ir) else none))))))] : va_W) ++ ((((List.range 11).map (fun iq => (ri iq, .inl (G 0, 10, .inl (F iq))))) : va_W) ++ ((((List.range 11).map (fun iq => (ro iq, .inl (G 0, 10, .inl (g2 iq))))) : va_W) ++ []))) H → va_D A (([(h0, .inr (8, [.int tt, .ref ti, .ref to])), (ti, .inl (G 4, 11, .inr (.inr (.inr (.inr (fun ir => if ir < 11 then some (ri ir) else none)))))), (to, .inl (G 4, 11, .inr (.inr (.inr (.inr (fun ir => if ir < 11 then some (ro ir) else none))))))] : va_W) ++ ((((List.range 11).map (fun iq => (ri iq, .inl (G 0, 10, .inl (F iq))))) : va_W) ++ ((((List.range 11).map (fun iq => (ro iq, .inl (G 0, 10, .inl (g2 iq))))) : va_W) ++ []))) → va_S A s.heap H locs → ∀ (ls : Array Slot), lv_has ls 6 [(4, .int y9), (3, .int (nI j1)), (0, .ref h0), (1, .int x1), (2, .int (nI i))] → W p l e (headSpec (Cond.code yX8_leadOnward cX8_leadOnward 6 none :: GT) ({ frames := 1, cells := 0, slots := 0, locals := 21 } : Room)).room s m ([.ref h0, .int x1, .int (nI i)] : List Value).toArray below meth c H locs 0 0 (MQ below (va_Qv (fun (u : Int32 × (Nat → Nat → Int32) × (Nat → Nat → Int32)) => match u with | (u0, u1, u2) => True) (fun (u : Int32 × (Nat → Nat → Int32) × (Nat → Nat → Int32)) (t : State) => match u with | (u0, u1, u2) => va_P (dC, dI) vwCl (([(h0, .inr (8, [.int u0, .ref ti, .ref to])), (ti, .inl (G 4, 11, .inr (.inr (.inr (.inr (fun ir => if ir < 11 then some (ri ir) else none)))))), (to, .inl (G 4, 11, .inr (.inr (.inr (.inr (fun ir => if ir < 11 then some (ro ir) else none))))))] : va_W) ++ ((((List.range 11).map (fun iq => (ri iq, .inl (G 0, 10, .inl (u1 iq))))) : va_W) ++ ((((List.range 11).map (fun iq => (ro iq, .inl (G 0, 10, .inl (u2 iq))))) : va_W) ++ []))) t.heap ∧ va_D A (([(h0, .inr (8, [.int u0, .ref ti, .ref to])), (ti, .inl (G 4, 11, .inr (.inr (.inr (.inr (fun ir => if ir < 11 then some (ri ir) else none)))))), (to, .inl (G 4, 11, .inr (.inr (.inr (.inr (fun ir => if ir < 11 then some (ro ir) else none))))))] : va_W) ++ ((((List.range 11).map (fun iq => (ri iq, .inl (G 0, 10, .inl (u1 iq))))) : va_W) ++ ((((List.range 11).map (fun iq => (ro iq, .inl (G 0, 10, .inl (u2 iq))))) : va_W) ++ [])))) A) ([.ref h0, .int x1, .int (nI i)] : List Value).toArray s 0 0 A) (F0 m 75 ls [.int y11]) := by
            intro y11 H locs hP hD hS ls hl
            refine lv_istore (lv' := [(5, .int y11), (4, .int y9), (3, .int (nI j1)), (0, .ref h0), (1, .int x1), (2, .int (nI i))]) hx hb dX8_leadOnward_75 hl (by decide) rfl (fun ls hl => ?_)
            refine lv_aload_n hx hb dX8_leadOnward_77 rfl (lv_at hl 3 rfl) ?_
            refine va_get (D := (dC, dI)) (ci := 8) (v := .ref to) (C := RX8) (T := TX8) (N := 3) hx hb hg inG8 hown hK.1 hP 0 rfl rfl 2 (Nat.le_of_ble_eq_true rfl) (hg _ wt_261) (fun _ h9 => h9) rfl dX8_leadOnward_78 ?_
            refine lv_iload_n hx hb dX8_leadOnward_81 rfl (lv_at hl 5 rfl) ?_
            refine va_aldA hx hb hK.1 hP 2 4 rfl rfl (vp_in_nI (by first | omega | (have t_hj5 := hj5; have t_hlo_j1 := hlo_j1; have t_n8 := n8; have tnb_ := nib2 tn112_ tn114_; omega)) (by decide)) dX8_leadOnward_82 ?_
            refine lv_cgv (y := .ref (ro i)) (rowref (by first | omega | (have t_hj5 := hj5; have t_hlo_j1 := hlo_j1; have t_n8 := n8; have tnb_ := nib2 tn112_ tn114_; omega)) (by decide)) ?_
            refine lv_iload_n hx hb dX8_leadOnward_83 rfl (lv_at hl 2 rfl) ?_
            refine lv_iload hx hb dX8_leadOnward_84 (lv_at hl 1 rfl) ?_
            refine lv_iload hx hb dX8_leadOnward_86 (lv_at hl 0 rfl) ?_
            refine lv_iadd hx hb dX8_leadOnward_88 ?_
            refine va_iastB2 (j := i) hx hb hK.1 hP hD hS 0 (by first | omega | (have t_hj5 := hj5; have t_hlo_j1 := hlo_j1; have t_n8 := n8; have tnb_ := nib2 tn112_ tn114_; omega)) rfl (vp_in_nI (by first | omega | (have t_hj5 := hj5; have t_hlo_j1 := hlo_j1; have t_n8 := n8; have tnb_ := nib2 tn112_ tn114_; omega)) (by decide)) dX8_leadOnward_89 (fun H locs hP hD hS => ?_)
            rw [nI_clamp (by first | omega | (have t_hj5 := hj5; have t_hlo_j1 := hlo_j1; have t_n8 := n8; have tnb_ := nib2 tn112_ tn114_; omega))] at hP hD
            obtain ⟨hP, hD⟩ := va_rls (ws' := (([(h0, .inr (8, [.int tt, .ref ti, .ref to])), (ti, .inl (G 4, 11, .inr (.inr (.inr (.inr (fun ir => if ir < 11 then some (ri ir) else none)))))), (to, .inl (G 4, 11, .inr (.inr (.inr (.inr (fun ir => if ir < 11 then some (ro ir) else none))))))] : va_W) ++ ((((List.range 11).map (fun iq => (ri iq, .inl (G 0, 10, .inl (F iq))))) : va_W) ++ ((((List.range 11).map (fun iq => (ro iq, .inl (G 0, 10, .inl ((va_up g2 i (upd (g2 i) j1 (y9 + y11))) iq))))) : va_W) ++ [])))) hP hD rfl
            refine lv_iinc (v := nI (j1 + 1)) (lv' := [(3, .int (nI (j1 + 1))), (5, .int y11), (4, .int y9), (0, .ref h0), (1, .int x1), (2, .int (nI i))]) hx hb dX8_leadOnward_90 hl (k := 2) rfl (by rw [show Int32.ofInt 1 = nI 1 from by decide]; exact nI_add _ _) (by decide) rfl (fun ls hl => ?_)
            refine lv_goto (tgt := 20) hx hb dX8_leadOnward_93 rfl ?_
            exact ih20_3 (j1 + 1) (by omega) (by omega) (by omega) (va_up g2 i (upd (g2 i) j1 (y9 + y11))) _ _ hP hD hS ls (lv_sub hl [0, 3, 4, 5] rfl)
          refine lv_icmp_ge (tgt := 74) hx hb dX8_leadOnward_51 rfl (fun c13 => ?_) (fun c13 => ?_)
          · skip
            refine lv_iconst (v := 0) hx hb dX8_leadOnward_74 rfl ?_
            exact cut75_12 0 _ _ hP hD hS ls (lv_sub hl [0, 1, 2, 3, 4] rfl)
          · skip
            refine lv_aload_n hx hb dX8_leadOnward_54 rfl (lv_at hl 2 rfl) ?_
            refine va_get (D := (dC, dI)) (ci := 8) (v := .ref to) (C := RX8) (T := TX8) (N := 3) hx hb hg inG8 hown hK.1 hP 0 rfl rfl 2 (Nat.le_of_ble_eq_true rfl) (hg _ wt_261) (fun _ h9 => h9) rfl dX8_leadOnward_55 ?_
            refine lv_iload_n hx hb dX8_leadOnward_58 rfl (lv_at hl 4 rfl) ?_
            refine lv_iconst (v := 1) hx hb dX8_leadOnward_59 rfl ?_
            refine lv_iadd hx hb dX8_leadOnward_60 ?_
            refine lv_cg (y := nI (i + 1)) (by rw [show (1 : Int32) = nI 1 from rfl]; exact nI_add _ _) ?_
            refine va_aldA hx hb hK.1 hP 2 4 rfl rfl (vp_in_nI (by first | omega | (have t_hj5 := hj5; have t_hlo_j1 := hlo_j1; have t_n8 := n8; have t_c13 := nleI c13; have : (20 : Int32).toInt = 20 := qI_20; have tnb_ := nib2 tn112_ tn114_; omega)) (by decide)) dX8_leadOnward_61 ?_
            refine lv_cgv (y := .ref (ro (i + 1))) (rowref (by first | omega | (have t_hj5 := hj5; have t_hlo_j1 := hlo_j1; have t_n8 := n8; have t_c13 := nleI c13; have : (20 : Int32).toInt = 20 := qI_20; have tnb_ := nib2 tn112_ tn114_; omega)) (by decide)) ?_
            refine lv_bipush (v := 9) hx hb dX8_leadOnward_62 rfl ?_
            refine lv_iload_n hx hb dX8_leadOnward_64 rfl (lv_at hl 1 rfl) ?_
            refine lv_iconst (v := 1) hx hb dX8_leadOnward_65 rfl ?_
            refine lv_iadd hx hb dX8_leadOnward_66 ?_
            refine lv_cg (y := nI (j1 + 1)) (by rw [show (1 : Int32) = nI 1 from rfl]; exact nI_add _ _) ?_
            have hPc := hP.sub (ws' := []) [] rfl
            refine va_calli (va_runS (As := [.int 9, .int (nI (j1 + 1))]) (rest := [.ref (ro (i + 1))]) ⟨hx, hb, hml, hown, hg⟩ (c_J9_min l dC dI G _ 9 (nI (j1 + 1))) (kwS hg mfJ9_min_7cf53 wt_776 ⟨Nat.le_of_ble_eq_true rfl, Nat.le_of_ble_eq_true rfl⟩) (preSR hK hPc) rfl rfl hl.1 rfl (lv_room (Nat.le_of_ble_eq_true rfl)) dX8_leadOnward_67 ⟨Nat.le_of_ble_eq_true rfl, Nat.le_of_ble_eq_true rfl⟩) hS (fun q h1 h2 => absurd h2 (Nat.not_le.mpr h1)) (fun q h => hA q (Nat.le_trans hS.1 h)) (fun r14 ur14 t H1 locs ht hvm w15 hB hz1 hk1 hS => ?_)
            have hP := keepR hP hk1
            obtain ⟨w15, w15x⟩ := w15
            have w15 : r14 = nI (min 9 (j1 + 1)) := w15.trans (mn_nI (a := 9) (b := (j1 + 1)) (by omega) (by omega))
            subst w15
            refine va_iald hx hb hK.1 (blk_P2 (j := (i + 1)) hP (by first | omega | (have t_hj5 := hj5; have t_hlo_j1 := hlo_j1; have t_n8 := n8; have t_c13 := nleI c13; have : (20 : Int32).toInt = 20 := qI_20; have tnb_ := nib2 tn112_ tn114_; omega))) 0 0 rfl rfl (vp_in_nI (by first | omega | (have t_hj5 := hj5; have t_hlo_j1 := hlo_j1; have t_n8 := n8; have t_c13 := nleI c13; have : (20 : Int32).toInt = 20 := qI_20; have tnb_ := nib2 tn112_ tn114_; omega)) (by decide)) dX8_leadOnward_70 ?_
            refine lv_cg (y := g2 (i + 1) (min 9 (j1 + 1))) (by rw [nI_clamp (by first | omega | (have t_hj5 := hj5; have t_hlo_j1 := hlo_j1; have t_n8 := n8; have t_c13 := nleI c13; have : (20 : Int32).toInt = 20 := qI_20; have tnb_ := nib2 tn112_ tn114_; omega))]) ?_
            refine lv_goto (tgt := 75) hx hb dX8_leadOnward_71 rfl ?_
            exact cut75_12 (g2 (i + 1) (min 9 (j1 + 1))) _ _ hP hD hS ls (lv_sub hl [0, 1, 2, 3, 4] rfl)
        refine lv_if_le (tgt := 45) hx hb dX8_leadOnward_27 rfl (fun c16 => ?_) (fun c16 => ?_)
        · skip
          refine lv_iconst (v := 0) hx hb dX8_leadOnward_45 rfl ?_
          exact cut46_10 0 _ _ hP hD hS ls (lv_sub hl [0, 1, 2, 3] rfl)
        · skip
          refine lv_aload_n hx hb dX8_leadOnward_30 rfl (lv_at hl 1 rfl) ?_
          refine va_get (D := (dC, dI)) (ci := 8) (v := .ref to) (C := RX8) (T := TX8) (N := 3) hx hb hg inG8 hown hK.1 hP 0 rfl rfl 2 (Nat.le_of_ble_eq_true rfl) (hg _ wt_261) (fun _ h9 => h9) rfl dX8_leadOnward_31 ?_
          refine lv_iload_n hx hb dX8_leadOnward_34 rfl (lv_at hl 3 rfl) ?_
          refine lv_iconst (v := 1) hx hb dX8_leadOnward_35 rfl ?_
          refine lv_iadd hx hb dX8_leadOnward_36 ?_
          refine lv_cg (y := nI (i + 1)) (by rw [show (1 : Int32) = nI 1 from rfl]; exact nI_add _ _) ?_
          refine va_aldA hx hb hK.1 hP 2 4 rfl rfl (vp_in_nI (by first | omega | (have t_hj5 := hj5; have t_hlo_j1 := hlo_j1; have t_n8 := n8; have t_c16 := nleI c16; have : (0 : Int32).toInt = 0 := qI_0; have tnb_ := nib2 tn112_ tn114_; omega)) (by decide)) dX8_leadOnward_37 ?_
          refine lv_cgv (y := .ref (ro (i + 1))) (rowref (by first | omega | (have t_hj5 := hj5; have t_hlo_j1 := hlo_j1; have t_n8 := n8; have t_c16 := nleI c16; have : (0 : Int32).toInt = 0 := qI_0; have tnb_ := nib2 tn112_ tn114_; omega)) (by decide)) ?_
          refine lv_iload_n hx hb dX8_leadOnward_38 rfl (lv_at hl 0 rfl) ?_
          refine lv_iconst (v := 1) hx hb dX8_leadOnward_39 rfl ?_
          refine lv_isub hx hb dX8_leadOnward_40 ?_
          refine lv_cg (y := nI (j1 - 1)) (by rw [show (1 : Int32) = nI 1 from rfl]; exact pk_sub (by have t_hj5 := hj5; have t_hlo_j1 := hlo_j1; have t_n8 := n8; have t_c16 := nleI c16; have : (0 : Int32).toInt = 0 := qI_0; have tnb_ := nib2 tn112_ tn114_; omega)) ?_
          refine va_iald hx hb hK.1 (blk_P2 (j := (i + 1)) hP (by first | omega | (have t_hj5 := hj5; have t_hlo_j1 := hlo_j1; have t_n8 := n8; have t_c16 := nleI c16; have : (0 : Int32).toInt = 0 := qI_0; have tnb_ := nib2 tn112_ tn114_; omega))) 0 0 rfl rfl (vp_in_nI (by first | omega | (have t_hj5 := hj5; have t_hlo_j1 := hlo_j1; have t_n8 := n8; have t_c16 := nleI c16; have : (0 : Int32).toInt = 0 := qI_0; have tnb_ := nib2 tn112_ tn114_; omega)) (by decide)) dX8_leadOnward_41 ?_
          refine lv_cg (y := g2 (i + 1) (j1 - 1)) (by rw [nI_clamp (by first | omega | (have t_hj5 := hj5; have t_hlo_j1 := hlo_j1; have t_n8 := n8; have t_c16 := nleI c16; have : (0 : Int32).toInt = 0 := qI_0; have tnb_ := nib2 tn112_ tn114_; omega))]) ?_
          refine lv_goto (tgt := 46) hx hb dX8_leadOnward_42 rfl ?_
          exact cut46_10 (g2 (i + 1) (j1 - 1)) _ _ hP hD hS ls (lv_sub hl [0, 1, 2, 3] rfl)
  exact loop20_3 (10 + 1) 1 (by omega) (by omega) (by omega) (va_up E i (upd (E i) 0 (E (i + 1) 0))) _ _ hP hD hS ls (lv_sub hl [0, 1, 2, 3] rfl)

set_option maxHeartbeats 1000000 in
set_option maxRecDepth 100000 in
theorem c_X8_dropUnmarked1 (l : Launch) (dC : Nat → ClassId) (dI : Nat → Nat → Nat) (G : Nat → ClassId) (sz : Nat) (mk m1 m2 S k : Nat) (i : Int32) (z1 z2 : Nat → Int32) (ri ro : Nat → Nat) (F E : Nat → Nat → Int32) (hS0 : S ≤ 6) (hk : k < 11) : Met l yX8_dropUnmarked (Cond.code yX8_dropUnmarked cX8_dropUnmarked 4 none :: GT) ({ frames := 1, cells := 0, slots := 0, locals := 23 } : Room) (PcW [.ref (ri k), .ref mk, .int i] dC dI G (([(mk, .inr (3, [.int (nI S), .ref m1, .ref m2])), (m1, .inl (G 0, 6, .inl z1)), (m2, .inl (G 0, 6, .inl z2))] : va_W) ++ ((((List.range 11).map (fun iq => (ri iq, .inl (G 0, 10, .inl (F iq))))) : va_W) ++ ((((List.range 11).map (fun iq => (ro iq, .inl (G 0, 10, .inl (E iq))))) : va_W) ++ []))) sz) (va_Qv (fun (u : (Nat → Nat → Int32) × (Nat → Nat → Int32)) => match u with | (u1, u2) => True) (fun (u : (Nat → Nat → Int32) × (Nat → Nat → Int32)) (t : State) => match u with | (u1, u2) => va_P (dC, dI) vwCl (([(mk, .inr (3, [.int (nI S), .ref m1, .ref m2])), (m1, .inl (G 0, 6, .inl z1)), (m2, .inl (G 0, 6, .inl z2))] : va_W) ++ ((((List.range 11).map (fun iq => (ri iq, .inl (G 0, 10, .inl (u1 iq))))) : va_W) ++ ((((List.range 11).map (fun iq => (ro iq, .inl (G 0, 10, .inl (u2 iq))))) : va_W) ++ []))) t.heap ∧ va_D (va_A (([(mk, .inr (3, [.int (nI S), .ref m1, .ref m2])), (m1, .inl (G 0, 6, .inl z1)), (m2, .inl (G 0, 6, .inl z2))] : va_W) ++ ((((List.range 11).map (fun iq => (ri iq, .inl (G 0, 10, .inl (F iq))))) : va_W) ++ ((((List.range 11).map (fun iq => (ro iq, .inl (G 0, 10, .inl (E iq))))) : va_W) ++ []))) sz) (([(mk, .inr (3, [.int (nI S), .ref m1, .ref m2])), (m1, .inl (G 0, 6, .inl z1)), (m2, .inl (G 0, 6, .inl z2))] : va_W) ++ ((((List.range 11).map (fun iq => (ri iq, .inl (G 0, 10, .inl (u1 iq))))) : va_W) ++ ((((List.range 11).map (fun iq => (ro iq, .inl (G 0, 10, .inl (u2 iq))))) : va_W) ++ [])))) (va_A (([(mk, .inr (3, [.int (nI S), .ref m1, .ref m2])), (m1, .inl (G 0, 6, .inl z1)), (m2, .inl (G 0, 6, .inl z2))] : va_W) ++ ((((List.range 11).map (fun iq => (ri iq, .inl (G 0, 10, .inl (F iq))))) : va_W) ++ ((((List.range 11).map (fun iq => (ro iq, .inl (G 0, 10, .inl (E iq))))) : va_W) ++ []))) sz)) 0 0 (va_A (([(mk, .inr (3, [.int (nI S), .ref m1, .ref m2])), (m1, .inl (G 0, 6, .inl z1)), (m2, .inl (G 0, 6, .inl z2))] : va_W) ++ ((((List.range 11).map (fun iq => (ri iq, .inl (G 0, 10, .inl (F iq))))) : va_W) ++ ((((List.range 11).map (fun iq => (ro iq, .inl (G 0, 10, .inl (E iq))))) : va_W) ++ []))) sz) := by
  have tn115_ : nIT S := fun _ => nI_toInt (by omega)
  refine Met.ofW (cc := cX8_dropUnmarked) (maxL := 4) (ret := none) (by decide) rfl ?_
  intro p e s m args below meth c s₁ Bd hml hv
  obtain ⟨rfl, hsz, hP, hK, hD0⟩ := hv
  have hx := Bd.exec
  have hb := Bd.bytes
  have hr := Bd.returns
  have hg : ∀ w ∈ GT, w.before ([.ref (ri k), .ref mk, .int i] : List Value).toArray s = true := fun w h => atoms_spec (ws := Cond.code yX8_dropUnmarked cX8_dropUnmarked 4 none :: GT) Bd.pre w (List.mem_cons_of_mem _ h)
  have hown : s.vm.findClass RX8 = some m.cls := findClass_of_methodNamed Bd.named
  have hlocks := Bd.notSynchronized
  subst hsz
  have hD := hD0.self (sz := s.heap.size)
  generalize hAe : va_A (([(mk, .inr (3, [.int (nI S), .ref m1, .ref m2])), (m1, .inl (G 0, 6, .inl z1)), (m2, .inl (G 0, 6, .inl z2))] : va_W) ++ ((((List.range 11).map (fun iq => (ri iq, .inl (G 0, 10, .inl (F iq))))) : va_W) ++ ((((List.range 11).map (fun iq => (ro iq, .inl (G 0, 10, .inl (E iq))))) : va_W) ++ []))) s.heap.size = A at hD ⊢
  have hA : ∀ q : Nat, s.heap.size ≤ q → A q := fun q h => by rw [← hAe]; exact Or.inr h
  have hS : va_S A s.heap s.heap [] := va_S.rf
  have hl := lv_entry ([.ref (ri k), .ref mk, .int i]) (n := 4) (Nat.le_of_ble_eq_true rfl)
  rw [lg_entry_eq]
  generalize (lg_sl ([.ref (ri k), .ref mk, .int i]) ++ List.replicate (4 - (lg_sl ([.ref (ri k), .ref mk, .int i])).length) Slot.unset).toArray = ls at hl ⊢
  have hl : lv_has ls 4 [(0, .ref (ri k)), (1, .ref mk), (2, .int i)] := hl
  refine lv_iconst (v := 0) hx hb dX8_dropUnmarked_0 rfl ?_
  refine lv_istore_n (lv' := [(3, .int 0), (0, .ref (ri k)), (1, .ref mk), (2, .int i)]) hx hb dX8_dropUnmarked_1 rfl hl (by decide) rfl (fun ls hl => ?_)
  have loop2_3 : ∀ (nf j1 : Nat), 10 + 1 ≤ j1 + nf → j1 ≤ 10 → ∀ (g2 : Nat → Nat → Int32) (H : Heap) (locs : List Loc), va_P (dC, dI) vwCl (([(mk, .inr (3, [.int (nI S), .ref m1, .ref m2])), (m1, .inl (G 0, 6, .inl z1)), (m2, .inl (G 0, 6, .inl z2))] : va_W) ++ ((((List.range 11).map (fun iq => (ri iq, .inl (G 0, 10, .inl (g2 iq))))) : va_W) ++ ((((List.range 11).map (fun iq => (ro iq, .inl (G 0, 10, .inl (E iq))))) : va_W) ++ []))) H → va_D A (([(mk, .inr (3, [.int (nI S), .ref m1, .ref m2])), (m1, .inl (G 0, 6, .inl z1)), (m2, .inl (G 0, 6, .inl z2))] : va_W) ++ ((((List.range 11).map (fun iq => (ri iq, .inl (G 0, 10, .inl (g2 iq))))) : va_W) ++ ((((List.range 11).map (fun iq => (ro iq, .inl (G 0, 10, .inl (E iq))))) : va_W) ++ []))) → va_S A s.heap H locs → ∀ (ls : Array Slot), lv_has ls 4 [(3, .int (nI j1)), (0, .ref (ri k)), (1, .ref mk), (2, .int i)] → W p l e (headSpec (Cond.code yX8_dropUnmarked cX8_dropUnmarked 4 none :: GT) ({ frames := 1, cells := 0, slots := 0, locals := 23 } : Room)).room s m ([.ref (ri k), .ref mk, .int i] : List Value).toArray below meth c H locs 0 0 (MQ below (va_Qv (fun (u : (Nat → Nat → Int32) × (Nat → Nat → Int32)) => match u with | (u1, u2) => True) (fun (u : (Nat → Nat → Int32) × (Nat → Nat → Int32)) (t : State) => match u with | (u1, u2) => va_P (dC, dI) vwCl (([(mk, .inr (3, [.int (nI S), .ref m1, .ref m2])), (m1, .inl (G 0, 6, .inl z1)), (m2, .inl (G 0, 6, .inl z2))] : va_W) ++ ((((List.range 11).map (fun iq => (ri iq, .inl (G 0, 10, .inl (u1 iq))))) : va_W) ++ ((((List.range 11).map (fun iq => (ro iq, .inl (G 0, 10, .inl (u2 iq))))) : va_W) ++ []))) t.heap ∧ va_D A (([(mk, .inr (3, [.int (nI S), .ref m1, .ref m2])), (m1, .inl (G 0, 6, .inl z1)), (m2, .inl (G 0, 6, .inl z2))] : va_W) ++ ((((List.range 11).map (fun iq => (ri iq, .inl (G 0, 10, .inl (u1 iq))))) : va_W) ++ ((((List.range 11).map (fun iq => (ro iq, .inl (G 0, 10, .inl (u2 iq))))) : va_W) ++ [])))) A) ([.ref (ri k), .ref mk, .int i] : List Value).toArray s 0 0 A) (F0 m 2 ls []) := by
    intro nf
    induction nf with
    | zero => intro j1 h1 h2; exact absurd h1 (by omega)
    | succ nf ih2_3 =>
      intro j1 hn4 hj5 g2 H locs hP hD hS ls hl
      refine lv_iload_n hx hb dX8_dropUnmarked_2 rfl (lv_at hl 0 rfl) ?_
      refine lv_aload_n hx hb dX8_dropUnmarked_3 rfl (lv_at hl 1 rfl) ?_
      have tn116_ : nIT j1 := fun _ => nI_toInt (by first | omega | (have t_hj5 := hj5; omega))
      refine va_alen (v := 10) hx hb hK.1 (blk_P (j := k) hP (by first | omega | (have t_hj5 := hj5; have tnb_ := nib2 tn115_ tn116_; omega))) 0 0 rfl rfl (by rfl) dX8_dropUnmarked_4 ?_
      refine lv_icmp_ge (tgt := 27) hx hb dX8_dropUnmarked_5 rfl (fun c6 => ?_) (fun c6 => ?_)
      · skip
        have n7 : 10 ≤ j1 := by have t := leI c6; rw [show (nI (j1)).toInt = ((j1 : Nat) : Int) from tn116_ ()] at t; have : (10 : Int32).toInt = 10 := qI_10; omega
        obtain ⟨hP9, hD9⟩ := va_sub2 (ws' := (([(mk, .inr (3, [.int (nI S), .ref m1, .ref m2])), (m1, .inl (G 0, 6, .inl z1)), (m2, .inl (G 0, 6, .inl z2))] : va_W) ++ ((((List.range 11).map (fun iq => (ri iq, .inl (G 0, 10, .inl (g2 iq))))) : va_W) ++ ((((List.range 11).map (fun iq => (ro iq, .inl (G 0, 10, .inl (E iq))))) : va_W) ++ [])))) hP hD [0, 1, 2, 3, 4, 5, 6, 7, 8, 9, 10, 11, 12, 13, 14, 15, 16, 17, 18, 19, 20, 21, 22, 23, 24] (by decide +kernel) rfl
        refine W.widen (k := 0) (n := 0) (Nat.le_of_ble_eq_true rfl) (Nat.le_of_ble_eq_true rfl) ?_
        exact W.vret hx hb hr (fun t ht hW => ⟨⟨(g2, E), rfl, trivial, ⟨by rw [ht]; exact hP9, hD9⟩⟩, hS.F ht⟩) hS.2.2 dX8_dropUnmarked_27
      · skip
        have n8 : j1 < 10 := by have t := nleI c6; rw [show (nI (j1)).toInt = ((j1 : Nat) : Int) from tn116_ ()] at t; have : (10 : Int32).toInt = 10 := qI_10; omega
        refine lv_aload_n hx hb dX8_dropUnmarked_8 rfl (lv_at hl 2 rfl) ?_
        refine lv_iload_n hx hb dX8_dropUnmarked_9 rfl (lv_at hl 3 rfl) ?_
        refine lv_iload_n hx hb dX8_dropUnmarked_10 rfl (lv_at hl 0 rfl) ?_
        have hPc := hP.sub (ws' := [(mk, .inr (3, [.int (nI S), .ref m1, .ref m2])), (m1, .inl (G 0, 6, .inl z1)), (m2, .inl (G 0, 6, .inl z2))]) [0, 1, 2] rfl
        refine va_calli (va_runVN (As := [.int i, .int (nI j1)]) (rest := []) ⟨hx, hb, hml, hown, hg⟩ (c_X3_allows l dC dI G _ mk m1 m2 S i (nI j1) z1 z2 hS0) (kwVN hg hK mfX3_allows wn_780 ⟨Nat.le_of_ble_eq_true rfl, Nat.le_of_ble_eq_true rfl⟩) (preVR hK hPc (ci := 3) (r := (RX3, TX3, 3)) rfl rfl) rfl rfl hl.1 rfl (lv_room (Nat.le_of_ble_eq_true rfl)) dX8_dropUnmarked_11 ⟨Nat.le_of_ble_eq_true rfl, Nat.le_of_ble_eq_true rfl⟩) hS (fun q h1 h2 => absurd h2 (Nat.not_le.mpr h1)) (fun q h => hA q (Nat.le_trans hS.1 h)) (fun r9 ur9 t H1 locs ht hvm w10 hB hz1 hk1 hS => ?_)
        have hP := keepR hP hk1
        obtain ⟨w10, w10x⟩ := w10
        have cut21_12 : ∀ (g11 : Nat → Nat → Int32) (H : Heap) (locs : List Loc), va_P (dC, dI) vwCl (([(mk, .inr (3, [.int (nI S), .ref m1, .ref m2])), (m1, .inl (G 0, 6, .inl z1)), (m2, .inl (G 0, 6, .inl z2))] : va_W) ++ ((((List.range 11).map (fun iq => (ri iq, .inl (G 0, 10, .inl (g11 iq))))) : va_W) ++ ((((List.range 11).map (fun iq => (ro iq, .inl (G 0, 10, .inl (E iq))))) : va_W) ++ []))) H → va_D A (([(mk, .inr (3, [.int (nI S), .ref m1, .ref m2])), (m1, .inl (G 0, 6, .inl z1)), (m2, .inl (G 0, 6, .inl z2))] : va_W) ++ ((((List.range 11).map (fun iq => (ri iq, .inl (G 0, 10, .inl (g11 iq))))) : va_W) ++ ((((List.range 11).map (fun iq => (ro iq, .inl (G 0, 10, .inl (E iq))))) : va_W) ++ []))) → va_S A s.heap H locs → ∀ (ls : Array Slot), lv_has ls 4 [(3, .int (nI j1)), (0, .ref (ri k)), (1, .ref mk), (2, .int i)] → W p l e (headSpec (Cond.code yX8_dropUnmarked cX8_dropUnmarked 4 none :: GT) ({ frames := 1, cells := 0, slots := 0, locals := 23 } : Room)).room s m ([.ref (ri k), .ref mk, .int i] : List Value).toArray below meth c H locs 0 0 (MQ below (va_Qv (fun (u : (Nat → Nat → Int32) × (Nat → Nat → Int32)) => match u with | (u1, u2) => True) (fun (u : (Nat → Nat → Int32) × (Nat → Nat → Int32)) (t : State) => match u with | (u1, u2) => va_P (dC, dI) vwCl (([(mk, .inr (3, [.int (nI S), .ref m1, .ref m2])), (m1, .inl (G 0, 6, .inl z1)), (m2, .inl (G 0, 6, .inl z2))] : va_W) ++ ((((List.range 11).map (fun iq => (ri iq, .inl (G 0, 10, .inl (u1 iq))))) : va_W) ++ ((((List.range 11).map (fun iq => (ro iq, .inl (G 0, 10, .inl (u2 iq))))) : va_W) ++ []))) t.heap ∧ va_D A (([(mk, .inr (3, [.int (nI S), .ref m1, .ref m2])), (m1, .inl (G 0, 6, .inl z1)), (m2, .inl (G 0, 6, .inl z2))] : va_W) ++ ((((List.range 11).map (fun iq => (ri iq, .inl (G 0, 10, .inl (u1 iq))))) : va_W) ++ ((((List.range 11).map (fun iq => (ro iq, .inl (G 0, 10, .inl (u2 iq))))) : va_W) ++ [])))) A) ([.ref (ri k), .ref mk, .int i] : List Value).toArray s 0 0 A) (F0 m 21 ls []) := by
          intro g11 H locs hP hD hS ls hl
          refine lv_iinc (v := nI (j1 + 1)) (lv' := [(3, .int (nI (j1 + 1))), (0, .ref (ri k)), (1, .ref mk), (2, .int i)]) hx hb dX8_dropUnmarked_21 hl (k := 0) rfl (by rw [show Int32.ofInt 1 = nI 1 from by decide]; exact nI_add _ _) (by decide) rfl (fun ls hl => ?_)
          refine lv_goto (tgt := 2) hx hb dX8_dropUnmarked_24 rfl ?_
          exact ih2_3 (j1 + 1) (by omega) (by omega) g11 _ _ hP hD hS ls (lv_sub hl [0, 1, 2, 3] rfl)
        refine lv_if_ne (tgt := 21) hx hb dX8_dropUnmarked_14 rfl (fun c13 => ?_) (fun c13 => ?_)
        · skip
          exact cut21_12 g2 _ _ hP hD hS ls (lv_sub hl [0, 1, 2, 3] rfl)
        · skip
          refine lv_aload_n hx hb dX8_dropUnmarked_17 rfl (lv_at hl 1 rfl) ?_
          refine lv_iload_n hx hb dX8_dropUnmarked_18 rfl (lv_at hl 0 rfl) ?_
          refine lv_iconst (v := 0) hx hb dX8_dropUnmarked_19 rfl ?_
          refine va_iastB (j := k) hx hb hK.1 hP hD hS 0 (by first | omega | (have t_hj5 := hj5; have t_n8 := n8; have t_c13 := eqI c13; have : (0 : Int32).toInt = 0 := qI_0; have tnb_ := nib2 tn115_ tn116_; omega)) rfl (vp_in_nI (by first | omega | (have t_hj5 := hj5; have t_n8 := n8; have t_c13 := eqI c13; have : (0 : Int32).toInt = 0 := qI_0; have tnb_ := nib2 tn115_ tn116_; omega)) (by decide)) dX8_dropUnmarked_20 (fun H locs hP hD hS => ?_)
          rw [nI_clamp (by first | omega | (have t_hj5 := hj5; have t_n8 := n8; have t_c13 := eqI c13; have : (0 : Int32).toInt = 0 := qI_0; have tnb_ := nib2 tn115_ tn116_; omega))] at hP hD
          obtain ⟨hP, hD⟩ := va_rls (ws' := (([(mk, .inr (3, [.int (nI S), .ref m1, .ref m2])), (m1, .inl (G 0, 6, .inl z1)), (m2, .inl (G 0, 6, .inl z2))] : va_W) ++ ((((List.range 11).map (fun iq => (ri iq, .inl (G 0, 10, .inl ((va_up g2 k (upd (g2 k) j1 0)) iq))))) : va_W) ++ ((((List.range 11).map (fun iq => (ro iq, .inl (G 0, 10, .inl (E iq))))) : va_W) ++ [])))) hP hD rfl
          exact cut21_12 (va_up g2 k (upd (g2 k) j1 0)) _ _ hP hD hS ls (lv_sub hl [0, 1, 2, 3] rfl)
  exact loop2_3 (10 + 1) 0 (by omega) (by omega) F _ _ hP hD hS ls (lv_sub hl [0, 1, 2, 3] rfl)

set_option maxHeartbeats 1000000 in
set_option maxRecDepth 100000 in
theorem c_X8_dropUnmarked2 (l : Launch) (dC : Nat → ClassId) (dI : Nat → Nat → Nat) (G : Nat → ClassId) (sz : Nat) (mk m1 m2 S k : Nat) (i : Int32) (z1 z2 : Nat → Int32) (ri ro : Nat → Nat) (F E : Nat → Nat → Int32) (hS0 : S ≤ 6) (hk : k < 11) : Met l yX8_dropUnmarked (Cond.code yX8_dropUnmarked cX8_dropUnmarked 4 none :: GT) ({ frames := 1, cells := 0, slots := 0, locals := 23 } : Room) (PcW [.ref (ro k), .ref mk, .int i] dC dI G (([(mk, .inr (3, [.int (nI S), .ref m1, .ref m2])), (m1, .inl (G 0, 6, .inl z1)), (m2, .inl (G 0, 6, .inl z2))] : va_W) ++ ((((List.range 11).map (fun iq => (ri iq, .inl (G 0, 10, .inl (F iq))))) : va_W) ++ ((((List.range 11).map (fun iq => (ro iq, .inl (G 0, 10, .inl (E iq))))) : va_W) ++ []))) sz) (va_Qv (fun (u : (Nat → Nat → Int32) × (Nat → Nat → Int32)) => match u with | (u1, u2) => True) (fun (u : (Nat → Nat → Int32) × (Nat → Nat → Int32)) (t : State) => match u with | (u1, u2) => va_P (dC, dI) vwCl (([(mk, .inr (3, [.int (nI S), .ref m1, .ref m2])), (m1, .inl (G 0, 6, .inl z1)), (m2, .inl (G 0, 6, .inl z2))] : va_W) ++ ((((List.range 11).map (fun iq => (ri iq, .inl (G 0, 10, .inl (u1 iq))))) : va_W) ++ ((((List.range 11).map (fun iq => (ro iq, .inl (G 0, 10, .inl (u2 iq))))) : va_W) ++ []))) t.heap ∧ va_D (va_A (([(mk, .inr (3, [.int (nI S), .ref m1, .ref m2])), (m1, .inl (G 0, 6, .inl z1)), (m2, .inl (G 0, 6, .inl z2))] : va_W) ++ ((((List.range 11).map (fun iq => (ri iq, .inl (G 0, 10, .inl (F iq))))) : va_W) ++ ((((List.range 11).map (fun iq => (ro iq, .inl (G 0, 10, .inl (E iq))))) : va_W) ++ []))) sz) (([(mk, .inr (3, [.int (nI S), .ref m1, .ref m2])), (m1, .inl (G 0, 6, .inl z1)), (m2, .inl (G 0, 6, .inl z2))] : va_W) ++ ((((List.range 11).map (fun iq => (ri iq, .inl (G 0, 10, .inl (u1 iq))))) : va_W) ++ ((((List.range 11).map (fun iq => (ro iq, .inl (G 0, 10, .inl (u2 iq))))) : va_W) ++ [])))) (va_A (([(mk, .inr (3, [.int (nI S), .ref m1, .ref m2])), (m1, .inl (G 0, 6, .inl z1)), (m2, .inl (G 0, 6, .inl z2))] : va_W) ++ ((((List.range 11).map (fun iq => (ri iq, .inl (G 0, 10, .inl (F iq))))) : va_W) ++ ((((List.range 11).map (fun iq => (ro iq, .inl (G 0, 10, .inl (E iq))))) : va_W) ++ []))) sz)) 0 0 (va_A (([(mk, .inr (3, [.int (nI S), .ref m1, .ref m2])), (m1, .inl (G 0, 6, .inl z1)), (m2, .inl (G 0, 6, .inl z2))] : va_W) ++ ((((List.range 11).map (fun iq => (ri iq, .inl (G 0, 10, .inl (F iq))))) : va_W) ++ ((((List.range 11).map (fun iq => (ro iq, .inl (G 0, 10, .inl (E iq))))) : va_W) ++ []))) sz) := by
  have tn117_ : nIT S := fun _ => nI_toInt (by omega)
  refine Met.ofW (cc := cX8_dropUnmarked) (maxL := 4) (ret := none) (by decide) rfl ?_
  intro p e s m args below meth c s₁ Bd hml hv
  obtain ⟨rfl, hsz, hP, hK, hD0⟩ := hv
  have hx := Bd.exec
  have hb := Bd.bytes
  have hr := Bd.returns
  have hg : ∀ w ∈ GT, w.before ([.ref (ro k), .ref mk, .int i] : List Value).toArray s = true := fun w h => atoms_spec (ws := Cond.code yX8_dropUnmarked cX8_dropUnmarked 4 none :: GT) Bd.pre w (List.mem_cons_of_mem _ h)
  have hown : s.vm.findClass RX8 = some m.cls := findClass_of_methodNamed Bd.named
  have hlocks := Bd.notSynchronized
  subst hsz
  have hD := hD0.self (sz := s.heap.size)
  generalize hAe : va_A (([(mk, .inr (3, [.int (nI S), .ref m1, .ref m2])), (m1, .inl (G 0, 6, .inl z1)), (m2, .inl (G 0, 6, .inl z2))] : va_W) ++ ((((List.range 11).map (fun iq => (ri iq, .inl (G 0, 10, .inl (F iq))))) : va_W) ++ ((((List.range 11).map (fun iq => (ro iq, .inl (G 0, 10, .inl (E iq))))) : va_W) ++ []))) s.heap.size = A at hD ⊢
  have hA : ∀ q : Nat, s.heap.size ≤ q → A q := fun q h => by rw [← hAe]; exact Or.inr h
  have hS : va_S A s.heap s.heap [] := va_S.rf
  have hl := lv_entry ([.ref (ro k), .ref mk, .int i]) (n := 4) (Nat.le_of_ble_eq_true rfl)
  rw [lg_entry_eq]
  generalize (lg_sl ([.ref (ro k), .ref mk, .int i]) ++ List.replicate (4 - (lg_sl ([.ref (ro k), .ref mk, .int i])).length) Slot.unset).toArray = ls at hl ⊢
  have hl : lv_has ls 4 [(0, .ref (ro k)), (1, .ref mk), (2, .int i)] := hl
  refine lv_iconst (v := 0) hx hb dX8_dropUnmarked_0 rfl ?_
  refine lv_istore_n (lv' := [(3, .int 0), (0, .ref (ro k)), (1, .ref mk), (2, .int i)]) hx hb dX8_dropUnmarked_1 rfl hl (by decide) rfl (fun ls hl => ?_)
  have loop2_3 : ∀ (nf j1 : Nat), 10 + 1 ≤ j1 + nf → j1 ≤ 10 → ∀ (g2 : Nat → Nat → Int32) (H : Heap) (locs : List Loc), va_P (dC, dI) vwCl (([(mk, .inr (3, [.int (nI S), .ref m1, .ref m2])), (m1, .inl (G 0, 6, .inl z1)), (m2, .inl (G 0, 6, .inl z2))] : va_W) ++ ((((List.range 11).map (fun iq => (ri iq, .inl (G 0, 10, .inl (F iq))))) : va_W) ++ ((((List.range 11).map (fun iq => (ro iq, .inl (G 0, 10, .inl (g2 iq))))) : va_W) ++ []))) H → va_D A (([(mk, .inr (3, [.int (nI S), .ref m1, .ref m2])), (m1, .inl (G 0, 6, .inl z1)), (m2, .inl (G 0, 6, .inl z2))] : va_W) ++ ((((List.range 11).map (fun iq => (ri iq, .inl (G 0, 10, .inl (F iq))))) : va_W) ++ ((((List.range 11).map (fun iq => (ro iq, .inl (G 0, 10, .inl (g2 iq))))) : va_W) ++ []))) → va_S A s.heap H locs → ∀ (ls : Array Slot), lv_has ls 4 [(3, .int (nI j1)), (0, .ref (ro k)), (1, .ref mk), (2, .int i)] → W p l e (headSpec (Cond.code yX8_dropUnmarked cX8_dropUnmarked 4 none :: GT) ({ frames := 1, cells := 0, slots := 0, locals := 23 } : Room)).room s m ([.ref (ro k), .ref mk, .int i] : List Value).toArray below meth c H locs 0 0 (MQ below (va_Qv (fun (u : (Nat → Nat → Int32) × (Nat → Nat → Int32)) => match u with | (u1, u2) => True) (fun (u : (Nat → Nat → Int32) × (Nat → Nat → Int32)) (t : State) => match u with | (u1, u2) => va_P (dC, dI) vwCl (([(mk, .inr (3, [.int (nI S), .ref m1, .ref m2])), (m1, .inl (G 0, 6, .inl z1)), (m2, .inl (G 0, 6, .inl z2))] : va_W) ++ ((((List.range 11).map (fun iq => (ri iq, .inl (G 0, 10, .inl (u1 iq))))) : va_W) ++ ((((List.range 11).map (fun iq => (ro iq, .inl (G 0, 10, .inl (u2 iq))))) : va_W) ++ []))) t.heap ∧ va_D A (([(mk, .inr (3, [.int (nI S), .ref m1, .ref m2])), (m1, .inl (G 0, 6, .inl z1)), (m2, .inl (G 0, 6, .inl z2))] : va_W) ++ ((((List.range 11).map (fun iq => (ri iq, .inl (G 0, 10, .inl (u1 iq))))) : va_W) ++ ((((List.range 11).map (fun iq => (ro iq, .inl (G 0, 10, .inl (u2 iq))))) : va_W) ++ [])))) A) ([.ref (ro k), .ref mk, .int i] : List Value).toArray s 0 0 A) (F0 m 2 ls []) := by
    intro nf
    induction nf with
    | zero => intro j1 h1 h2; exact absurd h1 (by omega)
    | succ nf ih2_3 =>
      intro j1 hn4 hj5 g2 H locs hP hD hS ls hl
      refine lv_iload_n hx hb dX8_dropUnmarked_2 rfl (lv_at hl 0 rfl) ?_
      refine lv_aload_n hx hb dX8_dropUnmarked_3 rfl (lv_at hl 1 rfl) ?_
      have tn118_ : nIT j1 := fun _ => nI_toInt (by first | omega | (have t_hj5 := hj5; omega))
      refine va_alen (v := 10) hx hb hK.1 (blk_P2 (j := k) hP (by first | omega | (have t_hj5 := hj5; have tnb_ := nib2 tn117_ tn118_; omega))) 0 0 rfl rfl (by rfl) dX8_dropUnmarked_4 ?_
      refine lv_icmp_ge (tgt := 27) hx hb dX8_dropUnmarked_5 rfl (fun c6 => ?_) (fun c6 => ?_)
      · skip
        have n7 : 10 ≤ j1 := by have t := leI c6; rw [show (nI (j1)).toInt = ((j1 : Nat) : Int) from tn118_ ()] at t; have : (10 : Int32).toInt = 10 := qI_10; omega
        obtain ⟨hP9, hD9⟩ := va_sub2 (ws' := (([(mk, .inr (3, [.int (nI S), .ref m1, .ref m2])), (m1, .inl (G 0, 6, .inl z1)), (m2, .inl (G 0, 6, .inl z2))] : va_W) ++ ((((List.range 11).map (fun iq => (ri iq, .inl (G 0, 10, .inl (F iq))))) : va_W) ++ ((((List.range 11).map (fun iq => (ro iq, .inl (G 0, 10, .inl (g2 iq))))) : va_W) ++ [])))) hP hD [0, 1, 2, 3, 4, 5, 6, 7, 8, 9, 10, 11, 12, 13, 14, 15, 16, 17, 18, 19, 20, 21, 22, 23, 24] (by decide +kernel) rfl
        refine W.widen (k := 0) (n := 0) (Nat.le_of_ble_eq_true rfl) (Nat.le_of_ble_eq_true rfl) ?_
        exact W.vret hx hb hr (fun t ht hW => ⟨⟨(F, g2), rfl, trivial, ⟨by rw [ht]; exact hP9, hD9⟩⟩, hS.F ht⟩) hS.2.2 dX8_dropUnmarked_27
      · skip
        have n8 : j1 < 10 := by have t := nleI c6; rw [show (nI (j1)).toInt = ((j1 : Nat) : Int) from tn118_ ()] at t; have : (10 : Int32).toInt = 10 := qI_10; omega
        refine lv_aload_n hx hb dX8_dropUnmarked_8 rfl (lv_at hl 2 rfl) ?_
        refine lv_iload_n hx hb dX8_dropUnmarked_9 rfl (lv_at hl 3 rfl) ?_
        refine lv_iload_n hx hb dX8_dropUnmarked_10 rfl (lv_at hl 0 rfl) ?_
        have hPc := hP.sub (ws' := [(mk, .inr (3, [.int (nI S), .ref m1, .ref m2])), (m1, .inl (G 0, 6, .inl z1)), (m2, .inl (G 0, 6, .inl z2))]) [0, 1, 2] rfl
        refine va_calli (va_runVN (As := [.int i, .int (nI j1)]) (rest := []) ⟨hx, hb, hml, hown, hg⟩ (c_X3_allows l dC dI G _ mk m1 m2 S i (nI j1) z1 z2 hS0) (kwVN hg hK mfX3_allows wn_780 ⟨Nat.le_of_ble_eq_true rfl, Nat.le_of_ble_eq_true rfl⟩) (preVR hK hPc (ci := 3) (r := (RX3, TX3, 3)) rfl rfl) rfl rfl hl.1 rfl (lv_room (Nat.le_of_ble_eq_true rfl)) dX8_dropUnmarked_11 ⟨Nat.le_of_ble_eq_true rfl, Nat.le_of_ble_eq_true rfl⟩) hS (fun q h1 h2 => absurd h2 (Nat.not_le.mpr h1)) (fun q h => hA q (Nat.le_trans hS.1 h)) (fun r9 ur9 t H1 locs ht hvm w10 hB hz1 hk1 hS => ?_)
        have hP := keepR hP hk1
        obtain ⟨w10, w10x⟩ := w10
        have cut21_12 : ∀ (g11 : Nat → Nat → Int32) (H : Heap) (locs : List Loc), va_P (dC, dI) vwCl (([(mk, .inr (3, [.int (nI S), .ref m1, .ref m2])), (m1, .inl (G 0, 6, .inl z1)), (m2, .inl (G 0, 6, .inl z2))] : va_W) ++ ((((List.range 11).map (fun iq => (ri iq, .inl (G 0, 10, .inl (F iq))))) : va_W) ++ ((((List.range 11).map (fun iq => (ro iq, .inl (G 0, 10, .inl (g11 iq))))) : va_W) ++ []))) H → va_D A (([(mk, .inr (3, [.int (nI S), .ref m1, .ref m2])), (m1, .inl (G 0, 6, .inl z1)), (m2, .inl (G 0, 6, .inl z2))] : va_W) ++ ((((List.range 11).map (fun iq => (ri iq, .inl (G 0, 10, .inl (F iq))))) : va_W) ++ ((((List.range 11).map (fun iq => (ro iq, .inl (G 0, 10, .inl (g11 iq))))) : va_W) ++ []))) → va_S A s.heap H locs → ∀ (ls : Array Slot), lv_has ls 4 [(3, .int (nI j1)), (0, .ref (ro k)), (1, .ref mk), (2, .int i)] → W p l e (headSpec (Cond.code yX8_dropUnmarked cX8_dropUnmarked 4 none :: GT) ({ frames := 1, cells := 0, slots := 0, locals := 23 } : Room)).room s m ([.ref (ro k), .ref mk, .int i] : List Value).toArray below meth c H locs 0 0 (MQ below (va_Qv (fun (u : (Nat → Nat → Int32) × (Nat → Nat → Int32)) => match u with | (u1, u2) => True) (fun (u : (Nat → Nat → Int32) × (Nat → Nat → Int32)) (t : State) => match u with | (u1, u2) => va_P (dC, dI) vwCl (([(mk, .inr (3, [.int (nI S), .ref m1, .ref m2])), (m1, .inl (G 0, 6, .inl z1)), (m2, .inl (G 0, 6, .inl z2))] : va_W) ++ ((((List.range 11).map (fun iq => (ri iq, .inl (G 0, 10, .inl (u1 iq))))) : va_W) ++ ((((List.range 11).map (fun iq => (ro iq, .inl (G 0, 10, .inl (u2 iq))))) : va_W) ++ []))) t.heap ∧ va_D A (([(mk, .inr (3, [.int (nI S), .ref m1, .ref m2])), (m1, .inl (G 0, 6, .inl z1)), (m2, .inl (G 0, 6, .inl z2))] : va_W) ++ ((((List.range 11).map (fun iq => (ri iq, .inl (G 0, 10, .inl (u1 iq))))) : va_W) ++ ((((List.range 11).map (fun iq => (ro iq, .inl (G 0, 10, .inl (u2 iq))))) : va_W) ++ [])))) A) ([.ref (ro k), .ref mk, .int i] : List Value).toArray s 0 0 A) (F0 m 21 ls []) := by
          intro g11 H locs hP hD hS ls hl
          refine lv_iinc (v := nI (j1 + 1)) (lv' := [(3, .int (nI (j1 + 1))), (0, .ref (ro k)), (1, .ref mk), (2, .int i)]) hx hb dX8_dropUnmarked_21 hl (k := 0) rfl (by rw [show Int32.ofInt 1 = nI 1 from by decide]; exact nI_add _ _) (by decide) rfl (fun ls hl => ?_)
          refine lv_goto (tgt := 2) hx hb dX8_dropUnmarked_24 rfl ?_
          exact ih2_3 (j1 + 1) (by omega) (by omega) g11 _ _ hP hD hS ls (lv_sub hl [0, 1, 2, 3] rfl)
        refine lv_if_ne (tgt := 21) hx hb dX8_dropUnmarked_14 rfl (fun c13 => ?_) (fun c13 => ?_)
        · skip
          exact cut21_12 g2 _ _ hP hD hS ls (lv_sub hl [0, 1, 2, 3] rfl)
        · skip
          refine lv_aload_n hx hb dX8_dropUnmarked_17 rfl (lv_at hl 1 rfl) ?_
          refine lv_iload_n hx hb dX8_dropUnmarked_18 rfl (lv_at hl 0 rfl) ?_
          refine lv_iconst (v := 0) hx hb dX8_dropUnmarked_19 rfl ?_
          refine va_iastB2 (j := k) hx hb hK.1 hP hD hS 0 (by first | omega | (have t_hj5 := hj5; have t_n8 := n8; have t_c13 := eqI c13; have : (0 : Int32).toInt = 0 := qI_0; have tnb_ := nib2 tn117_ tn118_; omega)) rfl (vp_in_nI (by first | omega | (have t_hj5 := hj5; have t_n8 := n8; have t_c13 := eqI c13; have : (0 : Int32).toInt = 0 := qI_0; have tnb_ := nib2 tn117_ tn118_; omega)) (by decide)) dX8_dropUnmarked_20 (fun H locs hP hD hS => ?_)
          rw [nI_clamp (by first | omega | (have t_hj5 := hj5; have t_n8 := n8; have t_c13 := eqI c13; have : (0 : Int32).toInt = 0 := qI_0; have tnb_ := nib2 tn117_ tn118_; omega))] at hP hD
          obtain ⟨hP, hD⟩ := va_rls (ws' := (([(mk, .inr (3, [.int (nI S), .ref m1, .ref m2])), (m1, .inl (G 0, 6, .inl z1)), (m2, .inl (G 0, 6, .inl z2))] : va_W) ++ ((((List.range 11).map (fun iq => (ri iq, .inl (G 0, 10, .inl (F iq))))) : va_W) ++ ((((List.range 11).map (fun iq => (ro iq, .inl (G 0, 10, .inl ((va_up g2 k (upd (g2 k) j1 0)) iq))))) : va_W) ++ [])))) hP hD rfl
          exact cut21_12 (va_up g2 k (upd (g2 k) j1 0)) _ _ hP hD hS ls (lv_sub hl [0, 1, 2, 3] rfl)
  exact loop2_3 (10 + 1) 0 (by omega) (by omega) E _ _ hP hD hS ls (lv_sub hl [0, 1, 2, 3] rfl)

set_option maxHeartbeats 1000000 in
set_option maxRecDepth 100000 in
theorem c_X8_explore (l : Launch) (dC : Nat → ClassId) (dI : Nat → Nat → Nat) (G : Nat → ClassId) (sz : Nat) (h0 ti to wy a1 a2 a3 a4 a5 a6 N B D mk m1 m2 S : Nat) (tt : Int32) (f1 f2 f3 f4 f5 f6 z1 z2 : Nat → Int32) (ri ro : Nat → Nat) (F E : Nat → Nat → Int32) (hN_N : N ≤ 10) (hB_B : B ≤ 6) (hD_D : 1 ≤ D ∧ D ≤ 9) (hS0 : S ≤ 6) : Met l yX8_explore (Cond.code yX8_explore cX8_explore 4 none :: GT) ({ frames := 4, cells := 0, slots := 0, locals := 88 } : Room) (PcW [.ref h0, .ref wy, .ref mk] dC dI G (([(h0, .inr (8, [.int tt, .ref ti, .ref to])), (ti, .inl (G 4, 11, .inr (.inr (.inr (.inr (fun ir => if ir < 11 then some (ri ir) else none)))))), (to, .inl (G 4, 11, .inr (.inr (.inr (.inr (fun ir => if ir < 11 then some (ro ir) else none)))))), (wy, .inr (9, [.int (nI N), .int (nI B), .int (nI D), .ref a1, .ref a2, .ref a3, .ref a4, .ref a5, .ref a6])), (a1, .inl (G 0, 10, .inl f1)), (a2, .inl (G 0, 10, .inl f2)), (a3, .inl (G 0, 10, .inl f3)), (a4, .inl (G 0, 6, .inl f4)), (a5, .inl (G 0, 6, .inl f5)), (a6, .inl (G 0, 6, .inl f6)), (mk, .inr (3, [.int (nI S), .ref m1, .ref m2])), (m1, .inl (G 0, 6, .inl z1)), (m2, .inl (G 0, 6, .inl z2))] : va_W) ++ ((((List.range 11).map (fun iq => (ri iq, .inl (G 0, 10, .inl (F iq))))) : va_W) ++ ((((List.range 11).map (fun iq => (ro iq, .inl (G 0, 10, .inl (E iq))))) : va_W) ++ []))) sz) (va_Qv (fun (u : Int32 × (Nat → Nat → Int32) × (Nat → Nat → Int32)) => match u with | (u0, u1, u2) => True) (fun (u : Int32 × (Nat → Nat → Int32) × (Nat → Nat → Int32)) (t : State) => match u with | (u0, u1, u2) => va_P (dC, dI) vwCl (([(h0, .inr (8, [.int u0, .ref ti, .ref to])), (ti, .inl (G 4, 11, .inr (.inr (.inr (.inr (fun ir => if ir < 11 then some (ri ir) else none)))))), (to, .inl (G 4, 11, .inr (.inr (.inr (.inr (fun ir => if ir < 11 then some (ro ir) else none)))))), (wy, .inr (9, [.int (nI N), .int (nI B), .int (nI D), .ref a1, .ref a2, .ref a3, .ref a4, .ref a5, .ref a6])), (a1, .inl (G 0, 10, .inl f1)), (a2, .inl (G 0, 10, .inl f2)), (a3, .inl (G 0, 10, .inl f3)), (a4, .inl (G 0, 6, .inl f4)), (a5, .inl (G 0, 6, .inl f5)), (a6, .inl (G 0, 6, .inl f6)), (mk, .inr (3, [.int (nI S), .ref m1, .ref m2])), (m1, .inl (G 0, 6, .inl z1)), (m2, .inl (G 0, 6, .inl z2))] : va_W) ++ ((((List.range 11).map (fun iq => (ri iq, .inl (G 0, 10, .inl (u1 iq))))) : va_W) ++ ((((List.range 11).map (fun iq => (ro iq, .inl (G 0, 10, .inl (u2 iq))))) : va_W) ++ []))) t.heap ∧ va_D (va_A (([(h0, .inr (8, [.int tt, .ref ti, .ref to])), (ti, .inl (G 4, 11, .inr (.inr (.inr (.inr (fun ir => if ir < 11 then some (ri ir) else none)))))), (to, .inl (G 4, 11, .inr (.inr (.inr (.inr (fun ir => if ir < 11 then some (ro ir) else none)))))), (wy, .inr (9, [.int (nI N), .int (nI B), .int (nI D), .ref a1, .ref a2, .ref a3, .ref a4, .ref a5, .ref a6])), (a1, .inl (G 0, 10, .inl f1)), (a2, .inl (G 0, 10, .inl f2)), (a3, .inl (G 0, 10, .inl f3)), (a4, .inl (G 0, 6, .inl f4)), (a5, .inl (G 0, 6, .inl f5)), (a6, .inl (G 0, 6, .inl f6)), (mk, .inr (3, [.int (nI S), .ref m1, .ref m2])), (m1, .inl (G 0, 6, .inl z1)), (m2, .inl (G 0, 6, .inl z2))] : va_W) ++ ((((List.range 11).map (fun iq => (ri iq, .inl (G 0, 10, .inl (F iq))))) : va_W) ++ ((((List.range 11).map (fun iq => (ro iq, .inl (G 0, 10, .inl (E iq))))) : va_W) ++ []))) sz) (([(h0, .inr (8, [.int u0, .ref ti, .ref to])), (ti, .inl (G 4, 11, .inr (.inr (.inr (.inr (fun ir => if ir < 11 then some (ri ir) else none)))))), (to, .inl (G 4, 11, .inr (.inr (.inr (.inr (fun ir => if ir < 11 then some (ro ir) else none)))))), (wy, .inr (9, [.int (nI N), .int (nI B), .int (nI D), .ref a1, .ref a2, .ref a3, .ref a4, .ref a5, .ref a6])), (a1, .inl (G 0, 10, .inl f1)), (a2, .inl (G 0, 10, .inl f2)), (a3, .inl (G 0, 10, .inl f3)), (a4, .inl (G 0, 6, .inl f4)), (a5, .inl (G 0, 6, .inl f5)), (a6, .inl (G 0, 6, .inl f6)), (mk, .inr (3, [.int (nI S), .ref m1, .ref m2])), (m1, .inl (G 0, 6, .inl z1)), (m2, .inl (G 0, 6, .inl z2))] : va_W) ++ ((((List.range 11).map (fun iq => (ri iq, .inl (G 0, 10, .inl (u1 iq))))) : va_W) ++ ((((List.range 11).map (fun iq => (ro iq, .inl (G 0, 10, .inl (u2 iq))))) : va_W) ++ [])))) (va_A (([(h0, .inr (8, [.int tt, .ref ti, .ref to])), (ti, .inl (G 4, 11, .inr (.inr (.inr (.inr (fun ir => if ir < 11 then some (ri ir) else none)))))), (to, .inl (G 4, 11, .inr (.inr (.inr (.inr (fun ir => if ir < 11 then some (ro ir) else none)))))), (wy, .inr (9, [.int (nI N), .int (nI B), .int (nI D), .ref a1, .ref a2, .ref a3, .ref a4, .ref a5, .ref a6])), (a1, .inl (G 0, 10, .inl f1)), (a2, .inl (G 0, 10, .inl f2)), (a3, .inl (G 0, 10, .inl f3)), (a4, .inl (G 0, 6, .inl f4)), (a5, .inl (G 0, 6, .inl f5)), (a6, .inl (G 0, 6, .inl f6)), (mk, .inr (3, [.int (nI S), .ref m1, .ref m2])), (m1, .inl (G 0, 6, .inl z1)), (m2, .inl (G 0, 6, .inl z2))] : va_W) ++ ((((List.range 11).map (fun iq => (ri iq, .inl (G 0, 10, .inl (F iq))))) : va_W) ++ ((((List.range 11).map (fun iq => (ro iq, .inl (G 0, 10, .inl (E iq))))) : va_W) ++ []))) sz)) 0 0 (va_A (([(h0, .inr (8, [.int tt, .ref ti, .ref to])), (ti, .inl (G 4, 11, .inr (.inr (.inr (.inr (fun ir => if ir < 11 then some (ri ir) else none)))))), (to, .inl (G 4, 11, .inr (.inr (.inr (.inr (fun ir => if ir < 11 then some (ro ir) else none)))))), (wy, .inr (9, [.int (nI N), .int (nI B), .int (nI D), .ref a1, .ref a2, .ref a3, .ref a4, .ref a5, .ref a6])), (a1, .inl (G 0, 10, .inl f1)), (a2, .inl (G 0, 10, .inl f2)), (a3, .inl (G 0, 10, .inl f3)), (a4, .inl (G 0, 6, .inl f4)), (a5, .inl (G 0, 6, .inl f5)), (a6, .inl (G 0, 6, .inl f6)), (mk, .inr (3, [.int (nI S), .ref m1, .ref m2])), (m1, .inl (G 0, 6, .inl z1)), (m2, .inl (G 0, 6, .inl z2))] : va_W) ++ ((((List.range 11).map (fun iq => (ri iq, .inl (G 0, 10, .inl (F iq))))) : va_W) ++ ((((List.range 11).map (fun iq => (ro iq, .inl (G 0, 10, .inl (E iq))))) : va_W) ++ []))) sz) := by
  have tn119_ : nIT N := fun _ => nI_toInt (by omega)
  have tn120_ : nIT B := fun _ => nI_toInt (by omega)
  have tn121_ : nIT D := fun _ => nI_toInt (by omega)
  have tn122_ : nIT S := fun _ => nI_toInt (by omega)
  refine Met.ofW (cc := cX8_explore) (maxL := 4) (ret := none) (by decide) rfl ?_
  intro p e s m args below meth c s₁ Bd hml hv
  obtain ⟨rfl, hsz, hP, hK, hD0⟩ := hv
  have hx := Bd.exec
  have hb := Bd.bytes
  have hr := Bd.returns
  have hg : ∀ w ∈ GT, w.before ([.ref h0, .ref wy, .ref mk] : List Value).toArray s = true := fun w h => atoms_spec (ws := Cond.code yX8_explore cX8_explore 4 none :: GT) Bd.pre w (List.mem_cons_of_mem _ h)
  have hown : s.vm.findClass RX8 = some m.cls := findClass_of_methodNamed Bd.named
  have hlocks := Bd.notSynchronized
  subst hsz
  have hD := hD0.self (sz := s.heap.size)
  generalize hAe : va_A (([(h0, .inr (8, [.int tt, .ref ti, .ref to])), (ti, .inl (G 4, 11, .inr (.inr (.inr (.inr (fun ir => if ir < 11 then some (ri ir) else none)))))), (to, .inl (G 4, 11, .inr (.inr (.inr (.inr (fun ir => if ir < 11 then some (ro ir) else none)))))), (wy, .inr (9, [.int (nI N), .int (nI B), .int (nI D), .ref a1, .ref a2, .ref a3, .ref a4, .ref a5, .ref a6])), (a1, .inl (G 0, 10, .inl f1)), (a2, .inl (G 0, 10, .inl f2)), (a3, .inl (G 0, 10, .inl f3)), (a4, .inl (G 0, 6, .inl f4)), (a5, .inl (G 0, 6, .inl f5)), (a6, .inl (G 0, 6, .inl f6)), (mk, .inr (3, [.int (nI S), .ref m1, .ref m2])), (m1, .inl (G 0, 6, .inl z1)), (m2, .inl (G 0, 6, .inl z2))] : va_W) ++ ((((List.range 11).map (fun iq => (ri iq, .inl (G 0, 10, .inl (F iq))))) : va_W) ++ ((((List.range 11).map (fun iq => (ro iq, .inl (G 0, 10, .inl (E iq))))) : va_W) ++ []))) s.heap.size = A at hD ⊢
  have hA : ∀ q : Nat, s.heap.size ≤ q → A q := fun q h => by rw [← hAe]; exact Or.inr h
  have hS : va_S A s.heap s.heap [] := va_S.rf
  have hl := lv_entry ([.ref h0, .ref wy, .ref mk]) (n := 4) (Nat.le_of_ble_eq_true rfl)
  rw [lg_entry_eq]
  generalize (lg_sl ([.ref h0, .ref wy, .ref mk]) ++ List.replicate (4 - (lg_sl ([.ref h0, .ref wy, .ref mk])).length) Slot.unset).toArray = ls at hl ⊢
  have hl : lv_has ls 4 [(0, .ref h0), (1, .ref wy), (2, .ref mk)] := hl
  refine lv_iconst (v := 0) hx hb dX8_explore_0 rfl ?_
  refine lv_istore_n (lv' := [(3, .int 0), (0, .ref h0), (1, .ref wy), (2, .ref mk)]) hx hb dX8_explore_1 rfl hl (by decide) rfl (fun ls hl => ?_)
  have loop2_4 : ∀ (nf j1 : Nat), 10 + 1 ≤ j1 + nf → j1 ≤ 10 → ∀ (g2 : Nat → Nat → Int32) (g3 : Nat → Nat → Int32) (H : Heap) (locs : List Loc), va_P (dC, dI) vwCl (([(h0, .inr (8, [.int tt, .ref ti, .ref to])), (ti, .inl (G 4, 11, .inr (.inr (.inr (.inr (fun ir => if ir < 11 then some (ri ir) else none)))))), (to, .inl (G 4, 11, .inr (.inr (.inr (.inr (fun ir => if ir < 11 then some (ro ir) else none)))))), (wy, .inr (9, [.int (nI N), .int (nI B), .int (nI D), .ref a1, .ref a2, .ref a3, .ref a4, .ref a5, .ref a6])), (a1, .inl (G 0, 10, .inl f1)), (a2, .inl (G 0, 10, .inl f2)), (a3, .inl (G 0, 10, .inl f3)), (a4, .inl (G 0, 6, .inl f4)), (a5, .inl (G 0, 6, .inl f5)), (a6, .inl (G 0, 6, .inl f6)), (mk, .inr (3, [.int (nI S), .ref m1, .ref m2])), (m1, .inl (G 0, 6, .inl z1)), (m2, .inl (G 0, 6, .inl z2))] : va_W) ++ ((((List.range 11).map (fun iq => (ri iq, .inl (G 0, 10, .inl (g2 iq))))) : va_W) ++ ((((List.range 11).map (fun iq => (ro iq, .inl (G 0, 10, .inl (g3 iq))))) : va_W) ++ []))) H → va_D A (([(h0, .inr (8, [.int tt, .ref ti, .ref to])), (ti, .inl (G 4, 11, .inr (.inr (.inr (.inr (fun ir => if ir < 11 then some (ri ir) else none)))))), (to, .inl (G 4, 11, .inr (.inr (.inr (.inr (fun ir => if ir < 11 then some (ro ir) else none)))))), (wy, .inr (9, [.int (nI N), .int (nI B), .int (nI D), .ref a1, .ref a2, .ref a3, .ref a4, .ref a5, .ref a6])), (a1, .inl (G 0, 10, .inl f1)), (a2, .inl (G 0, 10, .inl f2)), (a3, .inl (G 0, 10, .inl f3)), (a4, .inl (G 0, 6, .inl f4)), (a5, .inl (G 0, 6, .inl f5)), (a6, .inl (G 0, 6, .inl f6)), (mk, .inr (3, [.int (nI S), .ref m1, .ref m2])), (m1, .inl (G 0, 6, .inl z1)), (m2, .inl (G 0, 6, .inl z2))] : va_W) ++ ((((List.range 11).map (fun iq => (ri iq, .inl (G 0, 10, .inl (g2 iq))))) : va_W) ++ ((((List.range 11).map (fun iq => (ro iq, .inl (G 0, 10, .inl (g3 iq))))) : va_W) ++ []))) → va_S A s.heap H locs → ∀ (ls : Array Slot), lv_has ls 4 [(3, .int (nI j1)), (0, .ref h0), (1, .ref wy), (2, .ref mk)] → W p l e (headSpec (Cond.code yX8_explore cX8_explore 4 none :: GT) ({ frames := 4, cells := 0, slots := 0, locals := 88 } : Room)).room s m ([.ref h0, .ref wy, .ref mk] : List Value).toArray below meth c H locs 0 0 (MQ below (va_Qv (fun (u : Int32 × (Nat → Nat → Int32) × (Nat → Nat → Int32)) => match u with | (u0, u1, u2) => True) (fun (u : Int32 × (Nat → Nat → Int32) × (Nat → Nat → Int32)) (t : State) => match u with | (u0, u1, u2) => va_P (dC, dI) vwCl (([(h0, .inr (8, [.int u0, .ref ti, .ref to])), (ti, .inl (G 4, 11, .inr (.inr (.inr (.inr (fun ir => if ir < 11 then some (ri ir) else none)))))), (to, .inl (G 4, 11, .inr (.inr (.inr (.inr (fun ir => if ir < 11 then some (ro ir) else none)))))), (wy, .inr (9, [.int (nI N), .int (nI B), .int (nI D), .ref a1, .ref a2, .ref a3, .ref a4, .ref a5, .ref a6])), (a1, .inl (G 0, 10, .inl f1)), (a2, .inl (G 0, 10, .inl f2)), (a3, .inl (G 0, 10, .inl f3)), (a4, .inl (G 0, 6, .inl f4)), (a5, .inl (G 0, 6, .inl f5)), (a6, .inl (G 0, 6, .inl f6)), (mk, .inr (3, [.int (nI S), .ref m1, .ref m2])), (m1, .inl (G 0, 6, .inl z1)), (m2, .inl (G 0, 6, .inl z2))] : va_W) ++ ((((List.range 11).map (fun iq => (ri iq, .inl (G 0, 10, .inl (u1 iq))))) : va_W) ++ ((((List.range 11).map (fun iq => (ro iq, .inl (G 0, 10, .inl (u2 iq))))) : va_W) ++ []))) t.heap ∧ va_D A (([(h0, .inr (8, [.int u0, .ref ti, .ref to])), (ti, .inl (G 4, 11, .inr (.inr (.inr (.inr (fun ir => if ir < 11 then some (ri ir) else none)))))), (to, .inl (G 4, 11, .inr (.inr (.inr (.inr (fun ir => if ir < 11 then some (ro ir) else none)))))), (wy, .inr (9, [.int (nI N), .int (nI B), .int (nI D), .ref a1, .ref a2, .ref a3, .ref a4, .ref a5, .ref a6])), (a1, .inl (G 0, 10, .inl f1)), (a2, .inl (G 0, 10, .inl f2)), (a3, .inl (G 0, 10, .inl f3)), (a4, .inl (G 0, 6, .inl f4)), (a5, .inl (G 0, 6, .inl f5)), (a6, .inl (G 0, 6, .inl f6)), (mk, .inr (3, [.int (nI S), .ref m1, .ref m2])), (m1, .inl (G 0, 6, .inl z1)), (m2, .inl (G 0, 6, .inl z2))] : va_W) ++ ((((List.range 11).map (fun iq => (ri iq, .inl (G 0, 10, .inl (u1 iq))))) : va_W) ++ ((((List.range 11).map (fun iq => (ro iq, .inl (G 0, 10, .inl (u2 iq))))) : va_W) ++ [])))) A) ([.ref h0, .ref wy, .ref mk] : List Value).toArray s 0 0 A) (F0 m 2 ls []) := by
    intro nf
    induction nf with
    | zero => intro j1 h1 h2; exact absurd h1 (by omega)
    | succ nf ih2_4 =>
      intro j1 hn5 hj6 g2 g3 H locs hP hD hS ls hl
      refine lv_iload_n hx hb dX8_explore_2 rfl (lv_at hl 0 rfl) ?_
      refine lv_bipush (v := 10) hx hb dX8_explore_3 rfl ?_
      refine lv_icmp_ge (tgt := 47) hx hb dX8_explore_5 rfl (fun c7 => ?_) (fun c7 => ?_)
      · skip
        have tn123_ : nIT j1 := fun _ => nI_toInt (by first | omega | (have t := leI c7; omega))
        have n8 : 10 ≤ j1 := by have t := leI c7; rw [show (nI (j1)).toInt = ((j1 : Nat) : Int) from tn123_ ()] at t; have : (10 : Int32).toInt = 10 := qI_10; omega
        refine lv_iconst (v := 0) hx hb dX8_explore_47 rfl ?_
        refine lv_istore_n (lv' := [(3, .int 0), (0, .ref h0), (1, .ref wy), (2, .ref mk)]) hx hb dX8_explore_48 rfl hl (by decide) rfl (fun ls hl => ?_)
        have loop49_13 : ∀ (nf j9 : Nat), N + 1 ≤ j9 + nf → j9 ≤ N → ∀ (y10 : Int32) (g11 : Nat → Nat → Int32) (g12 : Nat → Nat → Int32) (H : Heap) (locs : List Loc), va_P (dC, dI) vwCl (([(h0, .inr (8, [.int y10, .ref ti, .ref to])), (ti, .inl (G 4, 11, .inr (.inr (.inr (.inr (fun ir => if ir < 11 then some (ri ir) else none)))))), (to, .inl (G 4, 11, .inr (.inr (.inr (.inr (fun ir => if ir < 11 then some (ro ir) else none)))))), (wy, .inr (9, [.int (nI N), .int (nI B), .int (nI D), .ref a1, .ref a2, .ref a3, .ref a4, .ref a5, .ref a6])), (a1, .inl (G 0, 10, .inl f1)), (a2, .inl (G 0, 10, .inl f2)), (a3, .inl (G 0, 10, .inl f3)), (a4, .inl (G 0, 6, .inl f4)), (a5, .inl (G 0, 6, .inl f5)), (a6, .inl (G 0, 6, .inl f6)), (mk, .inr (3, [.int (nI S), .ref m1, .ref m2])), (m1, .inl (G 0, 6, .inl z1)), (m2, .inl (G 0, 6, .inl z2))] : va_W) ++ ((((List.range 11).map (fun iq => (ri iq, .inl (G 0, 10, .inl (g11 iq))))) : va_W) ++ ((((List.range 11).map (fun iq => (ro iq, .inl (G 0, 10, .inl (g12 iq))))) : va_W) ++ []))) H → va_D A (([(h0, .inr (8, [.int y10, .ref ti, .ref to])), (ti, .inl (G 4, 11, .inr (.inr (.inr (.inr (fun ir => if ir < 11 then some (ri ir) else none)))))), (to, .inl (G 4, 11, .inr (.inr (.inr (.inr (fun ir => if ir < 11 then some (ro ir) else none)))))), (wy, .inr (9, [.int (nI N), .int (nI B), .int (nI D), .ref a1, .ref a2, .ref a3, .ref a4, .ref a5, .ref a6])), (a1, .inl (G 0, 10, .inl f1)), (a2, .inl (G 0, 10, .inl f2)), (a3, .inl (G 0, 10, .inl f3)), (a4, .inl (G 0, 6, .inl f4)), (a5, .inl (G 0, 6, .inl f5)), (a6, .inl (G 0, 6, .inl f6)), (mk, .inr (3, [.int (nI S), .ref m1, .ref m2])), (m1, .inl (G 0, 6, .inl z1)), (m2, .inl (G 0, 6, .inl z2))] : va_W) ++ ((((List.range 11).map (fun iq => (ri iq, .inl (G 0, 10, .inl (g11 iq))))) : va_W) ++ ((((List.range 11).map (fun iq => (ro iq, .inl (G 0, 10, .inl (g12 iq))))) : va_W) ++ []))) → va_S A s.heap H locs → ∀ (ls : Array Slot), lv_has ls 4 [(3, .int (nI j9)), (0, .ref h0), (1, .ref wy), (2, .ref mk)] → W p l e (headSpec (Cond.code yX8_explore cX8_explore 4 none :: GT) ({ frames := 4, cells := 0, slots := 0, locals := 88 } : Room)).room s m ([.ref h0, .ref wy, .ref mk] : List Value).toArray below meth c H locs 0 0 (MQ below (va_Qv (fun (u : Int32 × (Nat → Nat → Int32) × (Nat → Nat → Int32)) => match u with | (u0, u1, u2) => True) (fun (u : Int32 × (Nat → Nat → Int32) × (Nat → Nat → Int32)) (t : State) => match u with | (u0, u1, u2) => va_P (dC, dI) vwCl (([(h0, .inr (8, [.int u0, .ref ti, .ref to])), (ti, .inl (G 4, 11, .inr (.inr (.inr (.inr (fun ir => if ir < 11 then some (ri ir) else none)))))), (to, .inl (G 4, 11, .inr (.inr (.inr (.inr (fun ir => if ir < 11 then some (ro ir) else none)))))), (wy, .inr (9, [.int (nI N), .int (nI B), .int (nI D), .ref a1, .ref a2, .ref a3, .ref a4, .ref a5, .ref a6])), (a1, .inl (G 0, 10, .inl f1)), (a2, .inl (G 0, 10, .inl f2)), (a3, .inl (G 0, 10, .inl f3)), (a4, .inl (G 0, 6, .inl f4)), (a5, .inl (G 0, 6, .inl f5)), (a6, .inl (G 0, 6, .inl f6)), (mk, .inr (3, [.int (nI S), .ref m1, .ref m2])), (m1, .inl (G 0, 6, .inl z1)), (m2, .inl (G 0, 6, .inl z2))] : va_W) ++ ((((List.range 11).map (fun iq => (ri iq, .inl (G 0, 10, .inl (u1 iq))))) : va_W) ++ ((((List.range 11).map (fun iq => (ro iq, .inl (G 0, 10, .inl (u2 iq))))) : va_W) ++ []))) t.heap ∧ va_D A (([(h0, .inr (8, [.int u0, .ref ti, .ref to])), (ti, .inl (G 4, 11, .inr (.inr (.inr (.inr (fun ir => if ir < 11 then some (ri ir) else none)))))), (to, .inl (G 4, 11, .inr (.inr (.inr (.inr (fun ir => if ir < 11 then some (ro ir) else none)))))), (wy, .inr (9, [.int (nI N), .int (nI B), .int (nI D), .ref a1, .ref a2, .ref a3, .ref a4, .ref a5, .ref a6])), (a1, .inl (G 0, 10, .inl f1)), (a2, .inl (G 0, 10, .inl f2)), (a3, .inl (G 0, 10, .inl f3)), (a4, .inl (G 0, 6, .inl f4)), (a5, .inl (G 0, 6, .inl f5)), (a6, .inl (G 0, 6, .inl f6)), (mk, .inr (3, [.int (nI S), .ref m1, .ref m2])), (m1, .inl (G 0, 6, .inl z1)), (m2, .inl (G 0, 6, .inl z2))] : va_W) ++ ((((List.range 11).map (fun iq => (ri iq, .inl (G 0, 10, .inl (u1 iq))))) : va_W) ++ ((((List.range 11).map (fun iq => (ro iq, .inl (G 0, 10, .inl (u2 iq))))) : va_W) ++ [])))) A) ([.ref h0, .ref wy, .ref mk] : List Value).toArray s 0 0 A) (F0 m 49 ls []) := by
          intro nf
          induction nf with
          | zero => intro j9 h1 h2; exact absurd h1 (by omega)
          | succ nf ih49_13 =>
            intro j9 hn14 hj15 y10 g11 g12 H locs hP hD hS ls hl
            refine lv_iload_n hx hb dX8_explore_49 rfl (lv_at hl 0 rfl) ?_
            refine lv_aload_n hx hb dX8_explore_50 rfl (lv_at hl 2 rfl) ?_
            refine va_getN (D := (dC, dI)) (ci := 9) (v := .int (nI N)) (C := RX9) (T := TX9) (N := 9) hx hb hg inG9 hown hK.1 hP 3 rfl rfl 0 (Nat.le_of_ble_eq_true rfl) (hK.nest wn_58) (fun _ h9 => h9) rfl dX8_explore_51 ?_
            refine lv_icmp_ge (tgt := 86) hx hb dX8_explore_54 rfl (fun c16 => ?_) (fun c16 => ?_)
            · skip
              have tn124_ : nIT j9 := fun _ => nI_toInt (by first | omega | (have t := leI c16; omega))
              have n17 : N ≤ j9 := by have t := leI c16; rw [show (nI (j9)).toInt = ((j9 : Nat) : Int) from tn124_ ()] at t; rw [show (nI (N)).toInt = ((N : Nat) : Int) from tn119_ ()] at t; omega
              refine lv_aload_n hx hb dX8_explore_86 rfl (lv_at hl 2 rfl) ?_
              refine va_getN (D := (dC, dI)) (ci := 9) (v := .int (nI N)) (C := RX9) (T := TX9) (N := 9) hx hb hg inG9 hown hK.1 hP 3 rfl rfl 0 (Nat.le_of_ble_eq_true rfl) (hK.nest wn_58) (fun _ h9 => h9) rfl dX8_explore_87 ?_
              refine lv_iconst (v := 1) hx hb dX8_explore_90 rfl ?_
              refine lv_isub hx hb dX8_explore_91 ?_
              refine lv_istore_n (lv' := [(3, .int ((nI N) - 1)), (0, .ref h0), (1, .ref wy), (2, .ref mk)]) hx hb dX8_explore_92 rfl hl (by decide) rfl (fun ls hl => ?_)
              rw [dn_sub] at hl
              have loop93_22 : ∀ (j18 : Nat), j18 ≤ N → ∀ (y19 : Int32) (g20 : Nat → Nat → Int32) (g21 : Nat → Nat → Int32) (H : Heap) (locs : List Loc), va_P (dC, dI) vwCl (([(h0, .inr (8, [.int y19, .ref ti, .ref to])), (ti, .inl (G 4, 11, .inr (.inr (.inr (.inr (fun ir => if ir < 11 then some (ri ir) else none)))))), (to, .inl (G 4, 11, .inr (.inr (.inr (.inr (fun ir => if ir < 11 then some (ro ir) else none)))))), (wy, .inr (9, [.int (nI N), .int (nI B), .int (nI D), .ref a1, .ref a2, .ref a3, .ref a4, .ref a5, .ref a6])), (a1, .inl (G 0, 10, .inl f1)), (a2, .inl (G 0, 10, .inl f2)), (a3, .inl (G 0, 10, .inl f3)), (a4, .inl (G 0, 6, .inl f4)), (a5, .inl (G 0, 6, .inl f5)), (a6, .inl (G 0, 6, .inl f6)), (mk, .inr (3, [.int (nI S), .ref m1, .ref m2])), (m1, .inl (G 0, 6, .inl z1)), (m2, .inl (G 0, 6, .inl z2))] : va_W) ++ ((((List.range 11).map (fun iq => (ri iq, .inl (G 0, 10, .inl (g20 iq))))) : va_W) ++ ((((List.range 11).map (fun iq => (ro iq, .inl (G 0, 10, .inl (g21 iq))))) : va_W) ++ []))) H → va_D A (([(h0, .inr (8, [.int y19, .ref ti, .ref to])), (ti, .inl (G 4, 11, .inr (.inr (.inr (.inr (fun ir => if ir < 11 then some (ri ir) else none)))))), (to, .inl (G 4, 11, .inr (.inr (.inr (.inr (fun ir => if ir < 11 then some (ro ir) else none)))))), (wy, .inr (9, [.int (nI N), .int (nI B), .int (nI D), .ref a1, .ref a2, .ref a3, .ref a4, .ref a5, .ref a6])), (a1, .inl (G 0, 10, .inl f1)), (a2, .inl (G 0, 10, .inl f2)), (a3, .inl (G 0, 10, .inl f3)), (a4, .inl (G 0, 6, .inl f4)), (a5, .inl (G 0, 6, .inl f5)), (a6, .inl (G 0, 6, .inl f6)), (mk, .inr (3, [.int (nI S), .ref m1, .ref m2])), (m1, .inl (G 0, 6, .inl z1)), (m2, .inl (G 0, 6, .inl z2))] : va_W) ++ ((((List.range 11).map (fun iq => (ri iq, .inl (G 0, 10, .inl (g20 iq))))) : va_W) ++ ((((List.range 11).map (fun iq => (ro iq, .inl (G 0, 10, .inl (g21 iq))))) : va_W) ++ []))) → va_S A s.heap H locs → ∀ (ls : Array Slot), lv_has ls 4 [(3, .int (dn j18)), (0, .ref h0), (1, .ref wy), (2, .ref mk)] → W p l e (headSpec (Cond.code yX8_explore cX8_explore 4 none :: GT) ({ frames := 4, cells := 0, slots := 0, locals := 88 } : Room)).room s m ([.ref h0, .ref wy, .ref mk] : List Value).toArray below meth c H locs 0 0 (MQ below (va_Qv (fun (u : Int32 × (Nat → Nat → Int32) × (Nat → Nat → Int32)) => match u with | (u0, u1, u2) => True) (fun (u : Int32 × (Nat → Nat → Int32) × (Nat → Nat → Int32)) (t : State) => match u with | (u0, u1, u2) => va_P (dC, dI) vwCl (([(h0, .inr (8, [.int u0, .ref ti, .ref to])), (ti, .inl (G 4, 11, .inr (.inr (.inr (.inr (fun ir => if ir < 11 then some (ri ir) else none)))))), (to, .inl (G 4, 11, .inr (.inr (.inr (.inr (fun ir => if ir < 11 then some (ro ir) else none)))))), (wy, .inr (9, [.int (nI N), .int (nI B), .int (nI D), .ref a1, .ref a2, .ref a3, .ref a4, .ref a5, .ref a6])), (a1, .inl (G 0, 10, .inl f1)), (a2, .inl (G 0, 10, .inl f2)), (a3, .inl (G 0, 10, .inl f3)), (a4, .inl (G 0, 6, .inl f4)), (a5, .inl (G 0, 6, .inl f5)), (a6, .inl (G 0, 6, .inl f6)), (mk, .inr (3, [.int (nI S), .ref m1, .ref m2])), (m1, .inl (G 0, 6, .inl z1)), (m2, .inl (G 0, 6, .inl z2))] : va_W) ++ ((((List.range 11).map (fun iq => (ri iq, .inl (G 0, 10, .inl (u1 iq))))) : va_W) ++ ((((List.range 11).map (fun iq => (ro iq, .inl (G 0, 10, .inl (u2 iq))))) : va_W) ++ []))) t.heap ∧ va_D A (([(h0, .inr (8, [.int u0, .ref ti, .ref to])), (ti, .inl (G 4, 11, .inr (.inr (.inr (.inr (fun ir => if ir < 11 then some (ri ir) else none)))))), (to, .inl (G 4, 11, .inr (.inr (.inr (.inr (fun ir => if ir < 11 then some (ro ir) else none)))))), (wy, .inr (9, [.int (nI N), .int (nI B), .int (nI D), .ref a1, .ref a2, .ref a3, .ref a4, .ref a5, .ref a6])), (a1, .inl (G 0, 10, .inl f1)), (a2, .inl (G 0, 10, .inl f2)), (a3, .inl (G 0, 10, .inl f3)), (a4, .inl (G 0, 6, .inl f4)), (a5, .inl (G 0, 6, .inl f5)), (a6, .inl (G 0, 6, .inl f6)), (mk, .inr (3, [.int (nI S), .ref m1, .ref m2])), (m1, .inl (G 0, 6, .inl z1)), (m2, .inl (G 0, 6, .inl z2))] : va_W) ++ ((((List.range 11).map (fun iq => (ri iq, .inl (G 0, 10, .inl (u1 iq))))) : va_W) ++ ((((List.range 11).map (fun iq => (ro iq, .inl (G 0, 10, .inl (u2 iq))))) : va_W) ++ [])))) A) ([.ref h0, .ref wy, .ref mk] : List Value).toArray s 0 0 A) (F0 m 93 ls []) := by
                intro j18
                induction j18 with
                | zero =>
                  intro hj23 y19 g20 g21 H locs hP hD hS ls hl
                  have hl : lv_has ls 4 [(3, .int (-1)), (0, .ref h0), (1, .ref wy), (2, .ref mk)] := hl
                  refine lv_iload_n hx hb dX8_explore_93 rfl (lv_at hl 0 rfl) ?_
                  refine lv_if_lt (tgt := 126) hx hb dX8_explore_94 rfl (fun c24 => ?_) (fun c24 => ?_)
                  · skip
                    refine lv_aload_n hx hb dX8_explore_126 rfl (lv_at hl 1 rfl) ?_
                    refine lv_aload_n hx hb dX8_explore_127 rfl (lv_at hl 1 rfl) ?_
                    refine va_get (D := (dC, dI)) (ci := 8) (v := .ref to) (C := RX8) (T := TX8) (N := 3) hx hb hg inG8 hown hK.1 hP 0 rfl rfl 2 (Nat.le_of_ble_eq_true rfl) (hg _ wt_261) (fun _ h9 => h9) rfl dX8_explore_128 ?_
                    refine lv_iconst (v := 0) hx hb dX8_explore_131 rfl ?_
                    refine va_aldA hx hb hK.1 hP 2 4 rfl rfl (vp_in_iff.mpr ⟨by decide, by decide⟩) dX8_explore_132 ?_
                    refine lv_cgv (y := .ref (ro 0)) (by rfl) ?_
                    refine lv_aload_n hx hb dX8_explore_133 rfl (lv_at hl 2 rfl) ?_
                    refine va_getN (D := (dC, dI)) (ci := 9) (v := .int (nI D)) (C := RX9) (T := TX9) (N := 9) hx hb hg inG9 hown hK.1 hP 3 rfl rfl 2 (Nat.le_of_ble_eq_true rfl) (hK.nest wn_69) (fun _ h9 => h9) rfl dX8_explore_134 ?_
                    refine va_iald hx hb hK.1 (blk_P2 (j := 0) hP (by first | omega | (have t_hj6 := hj6; have t_n8 := n8; have t_hj15 := hj15; have t_n17 := n17; have t_c24 := ltI c24; have tqz_ := qz0_; have tnb_ := nib6 tn119_ tn120_ tn121_ tn122_ tn123_ tn124_; omega))) 0 0 rfl rfl (vp_in_nI (by first | omega | (have t_hj6 := hj6; have t_n8 := n8; have t_hj15 := hj15; have t_n17 := n17; have t_c24 := ltI c24; have tqz_ := qz0_; have tnb_ := nib6 tn119_ tn120_ tn121_ tn122_ tn123_ tn124_; omega)) (by decide)) dX8_explore_137 ?_
                    refine lv_cg (y := g21 0 D) (by rw [nI_clamp (by first | omega | (have t_hj6 := hj6; have t_n8 := n8; have t_hj15 := hj15; have t_n17 := n17; have t_c24 := ltI c24; have tqz_ := qz0_; have tnb_ := nib6 tn119_ tn120_ tn121_ tn122_ tn123_ tn124_; omega))]) ?_
                    refine va_put (D := (dC, dI)) (ci := 8) (v := .int (g21 0 D)) (ty := .int) (C := RX8) (T := TX8) (N := 3) hx hb hg inG8 tyX8 tyX8_ok nmX8 hown hK.1 hP hD hS 0 rfl rfl 0 (Nat.le_of_ble_eq_true rfl) (hg _ wt_258) (fun _ h9 => h9) rfl (by decide +kernel) rfl rfl (Nat.le_of_ble_eq_true rfl) dX8_explore_138 (fun H locs hP hD hS => ?_)
                    obtain ⟨hP, hD⟩ := va_rls (ws' := (([(h0, .inr (8, [.int (g21 0 D), .ref ti, .ref to])), (ti, .inl (G 4, 11, .inr (.inr (.inr (.inr (fun ir => if ir < 11 then some (ri ir) else none)))))), (to, .inl (G 4, 11, .inr (.inr (.inr (.inr (fun ir => if ir < 11 then some (ro ir) else none)))))), (wy, .inr (9, [.int (nI N), .int (nI B), .int (nI D), .ref a1, .ref a2, .ref a3, .ref a4, .ref a5, .ref a6])), (a1, .inl (G 0, 10, .inl f1)), (a2, .inl (G 0, 10, .inl f2)), (a3, .inl (G 0, 10, .inl f3)), (a4, .inl (G 0, 6, .inl f4)), (a5, .inl (G 0, 6, .inl f5)), (a6, .inl (G 0, 6, .inl f6)), (mk, .inr (3, [.int (nI S), .ref m1, .ref m2])), (m1, .inl (G 0, 6, .inl z1)), (m2, .inl (G 0, 6, .inl z2))] : va_W) ++ ((((List.range 11).map (fun iq => (ri iq, .inl (G 0, 10, .inl (g20 iq))))) : va_W) ++ ((((List.range 11).map (fun iq => (ro iq, .inl (G 0, 10, .inl (g21 iq))))) : va_W) ++ [])))) hP hD rfl
                    have hP9 := hP
                    have hD9 := hD
                    refine W.widen (k := 0) (n := 0) (Nat.le_of_ble_eq_true rfl) (Nat.le_of_ble_eq_true rfl) ?_
                    exact W.vret hx hb hr (fun t ht hW => ⟨⟨((g21 0 D), g20, g21), rfl, trivial, ⟨by rw [ht]; exact hP9, hD9⟩⟩, hS.F ht⟩) hS.2.2 dX8_explore_141
                  · skip
                    exact absurd c24 (by decide)
                | succ j18 ih93_22 =>
                  intro hj23 y19 g20 g21 H locs hP hD hS ls hl
                  have hl : lv_has ls 4 [(3, .int (nI j18)), (0, .ref h0), (1, .ref wy), (2, .ref mk)] := hl
                  refine lv_iload_n hx hb dX8_explore_93 rfl (lv_at hl 0 rfl) ?_
                  refine lv_if_lt (tgt := 126) hx hb dX8_explore_94 rfl (fun c25 => ?_) (fun c25 => ?_)
                  · skip
                    have t_hj6 := hj6
                    have t_n8 := n8
                    have t_hj15 := hj15
                    have t_n17 := n17
                    have t_hj23 := hj23
                    have t_c25 := ltI c25
                    have : (0 : Int32).toInt = 0 := qI_0
                    have t_n0 : (nI N).toInt = (N : Int) := tn119_ ()
                    have t_n1 : (nI B).toInt = (B : Int) := tn120_ ()
                    have t_n2 : (nI D).toInt = (D : Int) := tn121_ ()
                    have t_n3 : (nI S).toInt = (S : Int) := tn122_ ()
                    have t_n4 : (nI j1).toInt = (j1 : Int) := tn123_ ()
                    have t_n5 : (nI j9).toInt = (j9 : Int) := tn124_ ()
                    have tn125_ : nIT j18 := fun _ => nI_toInt (by omega)
                    have t_n6 : (nI j18).toInt = (j18 : Int) := tn125_ ()
                    have t_n0 : (nI N).toInt = (N : Int) := tn119_ ()
                    have t_n1 : (nI B).toInt = (B : Int) := tn120_ ()
                    have t_n2 : (nI D).toInt = (D : Int) := tn121_ ()
                    have t_n3 : (nI S).toInt = (S : Int) := tn122_ ()
                    have t_n4 : (nI j1).toInt = (j1 : Int) := tn123_ ()
                    have t_n5 : (nI j9).toInt = (j9 : Int) := tn124_ ()
                    exfalso; omega
                  · skip
                    have tn126_ : nIT j18 := fun _ => nI_toInt (by first | omega | (have t := nltI c25; omega))
                    have n26 : 0 ≤ j18 := by have t := nltI c25; rw [show (nI (j18)).toInt = ((j18 : Nat) : Int) from tn126_ ()] at t; have : (0 : Int32).toInt = 0 := qI_0; omega
                    refine lv_aload_n hx hb dX8_explore_97 rfl (lv_at hl 1 rfl) ?_
                    refine va_get (D := (dC, dI)) (ci := 8) (v := .ref to) (C := RX8) (T := TX8) (N := 3) hx hb hg inG8 hown hK.1 hP 0 rfl rfl 2 (Nat.le_of_ble_eq_true rfl) (hg _ wt_261) (fun _ h9 => h9) rfl dX8_explore_98 ?_
                    refine lv_iload_n hx hb dX8_explore_101 rfl (lv_at hl 0 rfl) ?_
                    refine lv_iconst (v := 1) hx hb dX8_explore_102 rfl ?_
                    refine lv_iadd hx hb dX8_explore_103 ?_
                    refine lv_cg (y := nI (j18 + 1)) (by rw [show (1 : Int32) = nI 1 from rfl]; exact nI_add _ _) ?_
                    refine va_aldA hx hb hK.1 hP 2 4 rfl rfl (vp_in_nI (by first | omega | (have t_hj6 := hj6; have t_n8 := n8; have t_hj15 := hj15; have t_n17 := n17; have t_hj23 := hj23; have t_n26 := n26; have tnb_ := nib7 tn119_ tn120_ tn121_ tn122_ tn123_ tn124_ tn126_; omega)) (by decide)) dX8_explore_104 ?_
                    refine lv_cgv (y := .ref (ro (j18 + 1))) (rowref (by first | omega | (have t_hj6 := hj6; have t_n8 := n8; have t_hj15 := hj15; have t_n17 := n17; have t_hj23 := hj23; have t_n26 := n26; have tnb_ := nib7 tn119_ tn120_ tn121_ tn122_ tn123_ tn124_ tn126_; omega)) (by decide)) ?_
                    refine lv_aload_n hx hb dX8_explore_105 rfl (lv_at hl 3 rfl) ?_
                    refine lv_iload_n hx hb dX8_explore_106 rfl (lv_at hl 0 rfl) ?_
                    obtain ⟨hPc, hDc, hFc⟩ := va_sub3 (ws' := (([(mk, .inr (3, [.int (nI S), .ref m1, .ref m2])), (m1, .inl (G 0, 6, .inl z1)), (m2, .inl (G 0, 6, .inl z2))] : va_W) ++ ((((List.range 11).map (fun iq => (ri iq, .inl (G 0, 10, .inl (g20 iq))))) : va_W) ++ ((((List.range 11).map (fun iq => (ro iq, .inl (G 0, 10, .inl (g21 iq))))) : va_W) ++ [])))) hP hD hS hA [10, 11, 12, 13, 14, 15, 16, 17, 18, 19, 20, 21, 22, 23, 24, 25, 26, 27, 28, 29, 30, 31, 32, 33, 34] (by decide +kernel) rfl
                    refine va_callv (va_runS (As := [.ref (ro (j18 + 1)), .ref mk, .int (nI j18)]) (rest := []) ⟨hx, hb, hml, hown, hg⟩ (c_X8_dropUnmarked2 l dC dI G _ mk m1 m2 S (j18 + 1) (nI j18) z1 z2 ri ro g20 g21 hS0 (by first | omega | (have t_hj6 := hj6; have t_n8 := n8; have t_hj15 := hj15; have t_n17 := n17; have t_hj23 := hj23; have t_n26 := n26; have tnb_ := nib7 tn119_ tn120_ tn121_ tn122_ tn123_ tn124_ tn126_; omega))) (kwS hg mfX8_dropUnmarked wt_777 ⟨Nat.le_of_ble_eq_true rfl, Nat.le_of_ble_eq_true rfl⟩) (preSW hK hPc hDc) rfl rfl hl.1 rfl (lv_room (Nat.le_of_ble_eq_true rfl)) dX8_explore_107 ⟨Nat.le_of_ble_eq_true rfl, Nat.le_of_ble_eq_true rfl⟩) hS (fun q _ h => hFc q h) hFc (fun ur27 t H1 locs ht hvm w28 hB hz1 hk1 hS => ?_)
                    obtain ⟨u29, u30⟩ := ur27
                    obtain ⟨hP1, hD1⟩ := hB
                    rw [ht] at hP1
                    obtain ⟨hP, hD⟩ := va_join (wr := [(h0, .inr (8, [.int y19, .ref ti, .ref to])), (ti, .inl (G 4, 11, .inr (.inr (.inr (.inr (fun ir => if ir < 11 then some (ri ir) else none)))))), (to, .inl (G 4, 11, .inr (.inr (.inr (.inr (fun ir => if ir < 11 then some (ro ir) else none)))))), (wy, .inr (9, [.int (nI N), .int (nI B), .int (nI D), .ref a1, .ref a2, .ref a3, .ref a4, .ref a5, .ref a6])), (a1, .inl (G 0, 10, .inl f1)), (a2, .inl (G 0, 10, .inl f2)), (a3, .inl (G 0, 10, .inl f3)), (a4, .inl (G 0, 6, .inl f4)), (a5, .inl (G 0, 6, .inl f5)), (a6, .inl (G 0, 6, .inl f6))]) (w1 := (([(mk, .inr (3, [.int (nI S), .ref m1, .ref m2])), (m1, .inl (G 0, 6, .inl z1)), (m2, .inl (G 0, 6, .inl z2))] : va_W) ++ ((((List.range 11).map (fun iq => (ri iq, .inl (G 0, 10, .inl (u29 iq))))) : va_W) ++ ((((List.range 11).map (fun iq => (ro iq, .inl (G 0, 10, .inl (u30 iq))))) : va_W) ++ [])))) hP hD [10, 11, 12, 13, 14, 15, 16, 17, 18, 19, 20, 21, 22, 23, 24, 25, 26, 27, 28, 29, 30, 31, 32, 33, 34] [0, 1, 2, 3, 4, 5, 6, 7, 8, 9] rfl rfl (by decide +kernel) (by decide +kernel) hk1 hFc hP1 hD1
                    generalize H1 = H at hP hS ⊢
                    obtain ⟨hP, hD⟩ := va_rls (ws' := (([(h0, .inr (8, [.int y19, .ref ti, .ref to])), (ti, .inl (G 4, 11, .inr (.inr (.inr (.inr (fun ir => if ir < 11 then some (ri ir) else none)))))), (to, .inl (G 4, 11, .inr (.inr (.inr (.inr (fun ir => if ir < 11 then some (ro ir) else none)))))), (wy, .inr (9, [.int (nI N), .int (nI B), .int (nI D), .ref a1, .ref a2, .ref a3, .ref a4, .ref a5, .ref a6])), (a1, .inl (G 0, 10, .inl f1)), (a2, .inl (G 0, 10, .inl f2)), (a3, .inl (G 0, 10, .inl f3)), (a4, .inl (G 0, 6, .inl f4)), (a5, .inl (G 0, 6, .inl f5)), (a6, .inl (G 0, 6, .inl f6)), (mk, .inr (3, [.int (nI S), .ref m1, .ref m2])), (m1, .inl (G 0, 6, .inl z1)), (m2, .inl (G 0, 6, .inl z2))] : va_W) ++ ((((List.range 11).map (fun iq => (ri iq, .inl (G 0, 10, .inl (u29 iq))))) : va_W) ++ ((((List.range 11).map (fun iq => (ro iq, .inl (G 0, 10, .inl (u30 iq))))) : va_W) ++ [])))) hP hD rfl
                    refine lv_aload_n hx hb dX8_explore_110 rfl (lv_at hl 1 rfl) ?_
                    refine lv_aload_n hx hb dX8_explore_111 rfl (lv_at hl 2 rfl) ?_
                    refine lv_iload_n hx hb dX8_explore_112 rfl (lv_at hl 0 rfl) ?_
                    have hPc := hP.sub (ws' := [(wy, .inr (9, [.int (nI N), .int (nI B), .int (nI D), .ref a1, .ref a2, .ref a3, .ref a4, .ref a5, .ref a6])), (a1, .inl (G 0, 10, .inl f1)), (a2, .inl (G 0, 10, .inl f2)), (a3, .inl (G 0, 10, .inl f3)), (a4, .inl (G 0, 6, .inl f4)), (a5, .inl (G 0, 6, .inl f5)), (a6, .inl (G 0, 6, .inl f6))]) [3, 4, 5, 6, 7, 8, 9] rfl
                    refine va_calli (va_runVN (As := [.int (nI j18)]) (rest := [.ref h0]) ⟨hx, hb, hml, hown, hg⟩ (c_X9_harmInOrder l dC dI G _ wy a1 a2 a3 a4 a5 a6 N B D (nI j18) f1 f2 f3 f4 f5 f6 hN_N hB_B hD_D) (kwVN hg hK mfX9_harmInOrder wn_771 ⟨Nat.le_of_ble_eq_true rfl, Nat.le_of_ble_eq_true rfl⟩) (preVR hK hPc (ci := 9) (r := (RX9, TX9, 9)) rfl rfl) rfl rfl hl.1 rfl (lv_room (Nat.le_of_ble_eq_true rfl)) dX8_explore_113 ⟨Nat.le_of_ble_eq_true rfl, Nat.le_of_ble_eq_true rfl⟩) hS (fun q h1 h2 => absurd h2 (Nat.not_le.mpr h1)) (fun q h => hA q (Nat.le_trans hS.1 h)) (fun r31 ur31 t H1 locs ht hvm w32 hB hz1 hk1 hS => ?_)
                    have hP := keepR hP hk1
                    obtain ⟨w32, w32x⟩ := w32
                    subst w32
                    refine lv_iload_n hx hb dX8_explore_116 rfl (lv_at hl 0 rfl) ?_
                    obtain ⟨hPc, hDc, hFc⟩ := va_sub3 (ws' := (([(h0, .inr (8, [.int y19, .ref ti, .ref to])), (ti, .inl (G 4, 11, .inr (.inr (.inr (.inr (fun ir => if ir < 11 then some (ri ir) else none)))))), (to, .inl (G 4, 11, .inr (.inr (.inr (.inr (fun ir => if ir < 11 then some (ro ir) else none))))))] : va_W) ++ ((((List.range 11).map (fun iq => (ri iq, .inl (G 0, 10, .inl (u29 iq))))) : va_W) ++ ((((List.range 11).map (fun iq => (ro iq, .inl (G 0, 10, .inl (u30 iq))))) : va_W) ++ [])))) hP hD hS hA [0, 1, 2, 13, 14, 15, 16, 17, 18, 19, 20, 21, 22, 23, 24, 25, 26, 27, 28, 29, 30, 31, 32, 33, 34] (by decide +kernel) rfl
                    refine va_callv (va_runV (As := [.int (hmO N B f1 f2 f3 f4 f5 f6 (nI j18)), .int (nI j18)]) (rest := []) ⟨hx, hb, hml, hown, hg⟩ (c_X8_leadOnward l dC dI G _ h0 ti to j18 (hmO N B f1 f2 f3 f4 f5 f6 (nI j18)) y19 ri ro u29 u30 (by first | omega | (have t_hj6 := hj6; have t_n8 := n8; have t_hj15 := hj15; have t_n17 := n17; have t_hj23 := hj23; have t_n26 := n26; have tnb_ := nib7 tn119_ tn120_ tn121_ tn122_ tn123_ tn124_ tn126_; omega))) (kwV hg mfX8_leadOnward wt_784 ⟨Nat.le_of_ble_eq_true rfl, Nat.le_of_ble_eq_true rfl⟩) (preVW hK hPc hDc (ci := 8) (r := (RX8, TX8, 3)) rfl rfl) rfl rfl hl.1 rfl (lv_room (Nat.le_of_ble_eq_true rfl)) dX8_explore_117 ⟨Nat.le_of_ble_eq_true rfl, Nat.le_of_ble_eq_true rfl⟩) hS (fun q _ h => hFc q h) hFc (fun ur33 t H1 locs ht hvm w34 hB hz1 hk1 hS => ?_)
                    obtain ⟨u35, u36, u37⟩ := ur33
                    obtain ⟨hP1, hD1⟩ := hB
                    rw [ht] at hP1
                    obtain ⟨hP, hD⟩ := va_join (wr := [(wy, .inr (9, [.int (nI N), .int (nI B), .int (nI D), .ref a1, .ref a2, .ref a3, .ref a4, .ref a5, .ref a6])), (a1, .inl (G 0, 10, .inl f1)), (a2, .inl (G 0, 10, .inl f2)), (a3, .inl (G 0, 10, .inl f3)), (a4, .inl (G 0, 6, .inl f4)), (a5, .inl (G 0, 6, .inl f5)), (a6, .inl (G 0, 6, .inl f6)), (mk, .inr (3, [.int (nI S), .ref m1, .ref m2])), (m1, .inl (G 0, 6, .inl z1)), (m2, .inl (G 0, 6, .inl z2))]) (w1 := (([(h0, .inr (8, [.int u35, .ref ti, .ref to])), (ti, .inl (G 4, 11, .inr (.inr (.inr (.inr (fun ir => if ir < 11 then some (ri ir) else none)))))), (to, .inl (G 4, 11, .inr (.inr (.inr (.inr (fun ir => if ir < 11 then some (ro ir) else none))))))] : va_W) ++ ((((List.range 11).map (fun iq => (ri iq, .inl (G 0, 10, .inl (u36 iq))))) : va_W) ++ ((((List.range 11).map (fun iq => (ro iq, .inl (G 0, 10, .inl (u37 iq))))) : va_W) ++ [])))) hP hD [0, 1, 2, 13, 14, 15, 16, 17, 18, 19, 20, 21, 22, 23, 24, 25, 26, 27, 28, 29, 30, 31, 32, 33, 34] [3, 4, 5, 6, 7, 8, 9, 10, 11, 12] rfl rfl (by decide +kernel) (by decide +kernel) hk1 hFc hP1 hD1
                    generalize H1 = H at hP hS ⊢
                    obtain ⟨hP, hD⟩ := va_rls (ws' := (([(wy, .inr (9, [.int (nI N), .int (nI B), .int (nI D), .ref a1, .ref a2, .ref a3, .ref a4, .ref a5, .ref a6])), (a1, .inl (G 0, 10, .inl f1)), (a2, .inl (G 0, 10, .inl f2)), (a3, .inl (G 0, 10, .inl f3)), (a4, .inl (G 0, 6, .inl f4)), (a5, .inl (G 0, 6, .inl f5)), (a6, .inl (G 0, 6, .inl f6)), (mk, .inr (3, [.int (nI S), .ref m1, .ref m2])), (m1, .inl (G 0, 6, .inl z1)), (m2, .inl (G 0, 6, .inl z2)), (h0, .inr (8, [.int u35, .ref ti, .ref to])), (ti, .inl (G 4, 11, .inr (.inr (.inr (.inr (fun ir => if ir < 11 then some (ri ir) else none)))))), (to, .inl (G 4, 11, .inr (.inr (.inr (.inr (fun ir => if ir < 11 then some (ro ir) else none))))))] : va_W) ++ ((((List.range 11).map (fun iq => (ri iq, .inl (G 0, 10, .inl (u36 iq))))) : va_W) ++ ((((List.range 11).map (fun iq => (ro iq, .inl (G 0, 10, .inl (u37 iq))))) : va_W) ++ [])))) hP hD rfl
                    refine lv_iinc (v := dn j18) (lv' := [(3, .int (dn j18)), (0, .ref h0), (1, .ref wy), (2, .ref mk)]) hx hb dX8_explore_120 hl (k := 0) rfl (by exact dn_pred _) (by decide) rfl (fun ls hl => ?_)
                    refine lv_goto (tgt := 93) hx hb dX8_explore_123 rfl ?_
                    exact ih93_22 (by omega) u35 u36 u37 _ _ (hP.sub [10, 11, 12, 0, 1, 2, 3, 4, 5, 6, 7, 8, 9, 13, 14, 15, 16, 17, 18, 19, 20, 21, 22, 23, 24, 25, 26, 27, 28, 29, 30, 31, 32, 33, 34] rfl) (hD.sub [10, 11, 12, 0, 1, 2, 3, 4, 5, 6, 7, 8, 9, 13, 14, 15, 16, 17, 18, 19, 20, 21, 22, 23, 24, 25, 26, 27, 28, 29, 30, 31, 32, 33, 34] (by decide) rfl) hS ls (lv_sub hl [0, 1, 2, 3] rfl)
              exact loop93_22 N (Nat.le_refl _) y10 g11 g12 _ _ hP hD hS ls (lv_sub hl [0, 1, 2, 3] rfl)
            · skip
              have tn127_ : nIT j9 := fun _ => nI_toInt (by first | omega | (have t := nleI c16; omega))
              have n38 : j9 < N := by have t := nleI c16; rw [show (nI (j9)).toInt = ((j9 : Nat) : Int) from tn127_ ()] at t; rw [show (nI (N)).toInt = ((N : Nat) : Int) from tn119_ ()] at t; omega
              refine lv_aload_n hx hb dX8_explore_57 rfl (lv_at hl 1 rfl) ?_
              refine lv_aload_n hx hb dX8_explore_58 rfl (lv_at hl 2 rfl) ?_
              refine lv_iload_n hx hb dX8_explore_59 rfl (lv_at hl 0 rfl) ?_
              have hPc := hP.sub (ws' := [(wy, .inr (9, [.int (nI N), .int (nI B), .int (nI D), .ref a1, .ref a2, .ref a3, .ref a4, .ref a5, .ref a6])), (a1, .inl (G 0, 10, .inl f1)), (a2, .inl (G 0, 10, .inl f2)), (a3, .inl (G 0, 10, .inl f3)), (a4, .inl (G 0, 6, .inl f4)), (a5, .inl (G 0, 6, .inl f5)), (a6, .inl (G 0, 6, .inl f6))]) [3, 4, 5, 6, 7, 8, 9] rfl
              refine va_calli (va_runVN (As := [.int (nI j9)]) (rest := [.ref h0]) ⟨hx, hb, hml, hown, hg⟩ (c_X9_harmInOrder l dC dI G _ wy a1 a2 a3 a4 a5 a6 N B D (nI j9) f1 f2 f3 f4 f5 f6 hN_N hB_B hD_D) (kwVN hg hK mfX9_harmInOrder wn_771 ⟨Nat.le_of_ble_eq_true rfl, Nat.le_of_ble_eq_true rfl⟩) (preVR hK hPc (ci := 9) (r := (RX9, TX9, 9)) rfl rfl) rfl rfl hl.1 rfl (lv_room (Nat.le_of_ble_eq_true rfl)) dX8_explore_60 ⟨Nat.le_of_ble_eq_true rfl, Nat.le_of_ble_eq_true rfl⟩) hS (fun q h1 h2 => absurd h2 (Nat.not_le.mpr h1)) (fun q h => hA q (Nat.le_trans hS.1 h)) (fun r39 ur39 t H1 locs ht hvm w40 hB hz1 hk1 hS => ?_)
              have hP := keepR hP hk1
              obtain ⟨w40, w40x⟩ := w40
              subst w40
              refine lv_iload_n hx hb dX8_explore_63 rfl (lv_at hl 0 rfl) ?_
              obtain ⟨hPc, hDc, hFc⟩ := va_sub3 (ws' := (([(h0, .inr (8, [.int y10, .ref ti, .ref to])), (ti, .inl (G 4, 11, .inr (.inr (.inr (.inr (fun ir => if ir < 11 then some (ri ir) else none)))))), (to, .inl (G 4, 11, .inr (.inr (.inr (.inr (fun ir => if ir < 11 then some (ro ir) else none))))))] : va_W) ++ ((((List.range 11).map (fun iq => (ri iq, .inl (G 0, 10, .inl (g11 iq))))) : va_W) ++ ((((List.range 11).map (fun iq => (ro iq, .inl (G 0, 10, .inl (g12 iq))))) : va_W) ++ [])))) hP hD hS hA [0, 1, 2, 13, 14, 15, 16, 17, 18, 19, 20, 21, 22, 23, 24, 25, 26, 27, 28, 29, 30, 31, 32, 33, 34] (by decide +kernel) rfl
              refine va_callv (va_runV (As := [.int (hmO N B f1 f2 f3 f4 f5 f6 (nI j9)), .int (nI j9)]) (rest := []) ⟨hx, hb, hml, hown, hg⟩ (c_X8_leadInto l dC dI G _ h0 ti to j9 (hmO N B f1 f2 f3 f4 f5 f6 (nI j9)) y10 ri ro g11 g12 (by first | omega | (have t_hj6 := hj6; have t_n8 := n8; have t_hj15 := hj15; have t_n38 := n38; have tnb_ := nib6 tn119_ tn120_ tn121_ tn122_ tn123_ tn127_; omega))) (kwV hg mfX8_leadInto wt_772 ⟨Nat.le_of_ble_eq_true rfl, Nat.le_of_ble_eq_true rfl⟩) (preVW hK hPc hDc (ci := 8) (r := (RX8, TX8, 3)) rfl rfl) rfl rfl hl.1 rfl (lv_room (Nat.le_of_ble_eq_true rfl)) dX8_explore_64 ⟨Nat.le_of_ble_eq_true rfl, Nat.le_of_ble_eq_true rfl⟩) hS (fun q _ h => hFc q h) hFc (fun ur41 t H1 locs ht hvm w42 hB hz1 hk1 hS => ?_)
              obtain ⟨u43, u44, u45⟩ := ur41
              obtain ⟨hP1, hD1⟩ := hB
              rw [ht] at hP1
              obtain ⟨hP, hD⟩ := va_join (wr := [(wy, .inr (9, [.int (nI N), .int (nI B), .int (nI D), .ref a1, .ref a2, .ref a3, .ref a4, .ref a5, .ref a6])), (a1, .inl (G 0, 10, .inl f1)), (a2, .inl (G 0, 10, .inl f2)), (a3, .inl (G 0, 10, .inl f3)), (a4, .inl (G 0, 6, .inl f4)), (a5, .inl (G 0, 6, .inl f5)), (a6, .inl (G 0, 6, .inl f6)), (mk, .inr (3, [.int (nI S), .ref m1, .ref m2])), (m1, .inl (G 0, 6, .inl z1)), (m2, .inl (G 0, 6, .inl z2))]) (w1 := (([(h0, .inr (8, [.int u43, .ref ti, .ref to])), (ti, .inl (G 4, 11, .inr (.inr (.inr (.inr (fun ir => if ir < 11 then some (ri ir) else none)))))), (to, .inl (G 4, 11, .inr (.inr (.inr (.inr (fun ir => if ir < 11 then some (ro ir) else none))))))] : va_W) ++ ((((List.range 11).map (fun iq => (ri iq, .inl (G 0, 10, .inl (u44 iq))))) : va_W) ++ ((((List.range 11).map (fun iq => (ro iq, .inl (G 0, 10, .inl (u45 iq))))) : va_W) ++ [])))) hP hD [0, 1, 2, 13, 14, 15, 16, 17, 18, 19, 20, 21, 22, 23, 24, 25, 26, 27, 28, 29, 30, 31, 32, 33, 34] [3, 4, 5, 6, 7, 8, 9, 10, 11, 12] rfl rfl (by decide +kernel) (by decide +kernel) hk1 hFc hP1 hD1
              generalize H1 = H at hP hS ⊢
              obtain ⟨hP, hD⟩ := va_rls (ws' := (([(wy, .inr (9, [.int (nI N), .int (nI B), .int (nI D), .ref a1, .ref a2, .ref a3, .ref a4, .ref a5, .ref a6])), (a1, .inl (G 0, 10, .inl f1)), (a2, .inl (G 0, 10, .inl f2)), (a3, .inl (G 0, 10, .inl f3)), (a4, .inl (G 0, 6, .inl f4)), (a5, .inl (G 0, 6, .inl f5)), (a6, .inl (G 0, 6, .inl f6)), (mk, .inr (3, [.int (nI S), .ref m1, .ref m2])), (m1, .inl (G 0, 6, .inl z1)), (m2, .inl (G 0, 6, .inl z2)), (h0, .inr (8, [.int u43, .ref ti, .ref to])), (ti, .inl (G 4, 11, .inr (.inr (.inr (.inr (fun ir => if ir < 11 then some (ri ir) else none)))))), (to, .inl (G 4, 11, .inr (.inr (.inr (.inr (fun ir => if ir < 11 then some (ro ir) else none))))))] : va_W) ++ ((((List.range 11).map (fun iq => (ri iq, .inl (G 0, 10, .inl (u44 iq))))) : va_W) ++ ((((List.range 11).map (fun iq => (ro iq, .inl (G 0, 10, .inl (u45 iq))))) : va_W) ++ [])))) hP hD rfl
              refine lv_aload_n hx hb dX8_explore_67 rfl (lv_at hl 1 rfl) ?_
              refine va_get (D := (dC, dI)) (ci := 8) (v := .ref ti) (C := RX8) (T := TX8) (N := 3) hx hb hg inG8 hown hK.1 hP 10 rfl rfl 1 (Nat.le_of_ble_eq_true rfl) (hg _ wt_260) (fun _ h9 => h9) rfl dX8_explore_68 ?_
              refine lv_iload_n hx hb dX8_explore_71 rfl (lv_at hl 0 rfl) ?_
              refine lv_iconst (v := 1) hx hb dX8_explore_72 rfl ?_
              refine lv_iadd hx hb dX8_explore_73 ?_
              refine lv_cg (y := nI (j9 + 1)) (by rw [show (1 : Int32) = nI 1 from rfl]; exact nI_add _ _) ?_
              refine va_aldA hx hb hK.1 hP 11 4 rfl rfl (vp_in_nI (by first | omega | (have t_hj6 := hj6; have t_n8 := n8; have t_hj15 := hj15; have t_n38 := n38; have tnb_ := nib6 tn119_ tn120_ tn121_ tn122_ tn123_ tn127_; omega)) (by decide)) dX8_explore_74 ?_
              refine lv_cgv (y := .ref (ri (j9 + 1))) (rowref (by first | omega | (have t_hj6 := hj6; have t_n8 := n8; have t_hj15 := hj15; have t_n38 := n38; have tnb_ := nib6 tn119_ tn120_ tn121_ tn122_ tn123_ tn127_; omega)) (by decide)) ?_
              refine lv_aload_n hx hb dX8_explore_75 rfl (lv_at hl 3 rfl) ?_
              refine lv_iload_n hx hb dX8_explore_76 rfl (lv_at hl 0 rfl) ?_
              obtain ⟨hPc, hDc, hFc⟩ := va_sub3 (ws' := (([(mk, .inr (3, [.int (nI S), .ref m1, .ref m2])), (m1, .inl (G 0, 6, .inl z1)), (m2, .inl (G 0, 6, .inl z2))] : va_W) ++ ((((List.range 11).map (fun iq => (ri iq, .inl (G 0, 10, .inl (u44 iq))))) : va_W) ++ ((((List.range 11).map (fun iq => (ro iq, .inl (G 0, 10, .inl (u45 iq))))) : va_W) ++ [])))) hP hD hS hA [7, 8, 9, 13, 14, 15, 16, 17, 18, 19, 20, 21, 22, 23, 24, 25, 26, 27, 28, 29, 30, 31, 32, 33, 34] (by decide +kernel) rfl
              refine va_callv (va_runS (As := [.ref (ri (j9 + 1)), .ref mk, .int (nI j9)]) (rest := []) ⟨hx, hb, hml, hown, hg⟩ (c_X8_dropUnmarked1 l dC dI G _ mk m1 m2 S (j9 + 1) (nI j9) z1 z2 ri ro u44 u45 hS0 (by first | omega | (have t_hj6 := hj6; have t_n8 := n8; have t_hj15 := hj15; have t_n38 := n38; have tnb_ := nib6 tn119_ tn120_ tn121_ tn122_ tn123_ tn127_; omega))) (kwS hg mfX8_dropUnmarked wt_777 ⟨Nat.le_of_ble_eq_true rfl, Nat.le_of_ble_eq_true rfl⟩) (preSW hK hPc hDc) rfl rfl hl.1 rfl (lv_room (Nat.le_of_ble_eq_true rfl)) dX8_explore_77 ⟨Nat.le_of_ble_eq_true rfl, Nat.le_of_ble_eq_true rfl⟩) hS (fun q _ h => hFc q h) hFc (fun ur46 t H1 locs ht hvm w47 hB hz1 hk1 hS => ?_)
              obtain ⟨u48, u49⟩ := ur46
              obtain ⟨hP1, hD1⟩ := hB
              rw [ht] at hP1
              obtain ⟨hP, hD⟩ := va_join (wr := [(wy, .inr (9, [.int (nI N), .int (nI B), .int (nI D), .ref a1, .ref a2, .ref a3, .ref a4, .ref a5, .ref a6])), (a1, .inl (G 0, 10, .inl f1)), (a2, .inl (G 0, 10, .inl f2)), (a3, .inl (G 0, 10, .inl f3)), (a4, .inl (G 0, 6, .inl f4)), (a5, .inl (G 0, 6, .inl f5)), (a6, .inl (G 0, 6, .inl f6)), (h0, .inr (8, [.int u43, .ref ti, .ref to])), (ti, .inl (G 4, 11, .inr (.inr (.inr (.inr (fun ir => if ir < 11 then some (ri ir) else none)))))), (to, .inl (G 4, 11, .inr (.inr (.inr (.inr (fun ir => if ir < 11 then some (ro ir) else none))))))]) (w1 := (([(mk, .inr (3, [.int (nI S), .ref m1, .ref m2])), (m1, .inl (G 0, 6, .inl z1)), (m2, .inl (G 0, 6, .inl z2))] : va_W) ++ ((((List.range 11).map (fun iq => (ri iq, .inl (G 0, 10, .inl (u48 iq))))) : va_W) ++ ((((List.range 11).map (fun iq => (ro iq, .inl (G 0, 10, .inl (u49 iq))))) : va_W) ++ [])))) hP hD [7, 8, 9, 13, 14, 15, 16, 17, 18, 19, 20, 21, 22, 23, 24, 25, 26, 27, 28, 29, 30, 31, 32, 33, 34] [0, 1, 2, 3, 4, 5, 6, 10, 11, 12] rfl rfl (by decide +kernel) (by decide +kernel) hk1 hFc hP1 hD1
              generalize H1 = H at hP hS ⊢
              obtain ⟨hP, hD⟩ := va_rls (ws' := (([(wy, .inr (9, [.int (nI N), .int (nI B), .int (nI D), .ref a1, .ref a2, .ref a3, .ref a4, .ref a5, .ref a6])), (a1, .inl (G 0, 10, .inl f1)), (a2, .inl (G 0, 10, .inl f2)), (a3, .inl (G 0, 10, .inl f3)), (a4, .inl (G 0, 6, .inl f4)), (a5, .inl (G 0, 6, .inl f5)), (a6, .inl (G 0, 6, .inl f6)), (h0, .inr (8, [.int u43, .ref ti, .ref to])), (ti, .inl (G 4, 11, .inr (.inr (.inr (.inr (fun ir => if ir < 11 then some (ri ir) else none)))))), (to, .inl (G 4, 11, .inr (.inr (.inr (.inr (fun ir => if ir < 11 then some (ro ir) else none)))))), (mk, .inr (3, [.int (nI S), .ref m1, .ref m2])), (m1, .inl (G 0, 6, .inl z1)), (m2, .inl (G 0, 6, .inl z2))] : va_W) ++ ((((List.range 11).map (fun iq => (ri iq, .inl (G 0, 10, .inl (u48 iq))))) : va_W) ++ ((((List.range 11).map (fun iq => (ro iq, .inl (G 0, 10, .inl (u49 iq))))) : va_W) ++ [])))) hP hD rfl
              refine lv_iinc (v := nI (j9 + 1)) (lv' := [(3, .int (nI (j9 + 1))), (0, .ref h0), (1, .ref wy), (2, .ref mk)]) hx hb dX8_explore_80 hl (k := 0) rfl (by rw [show Int32.ofInt 1 = nI 1 from by decide]; exact nI_add _ _) (by decide) rfl (fun ls hl => ?_)
              refine lv_goto (tgt := 49) hx hb dX8_explore_83 rfl ?_
              exact ih49_13 (j9 + 1) (by omega) (by omega) u43 u48 u49 _ _ (hP.sub [7, 8, 9, 0, 1, 2, 3, 4, 5, 6, 10, 11, 12, 13, 14, 15, 16, 17, 18, 19, 20, 21, 22, 23, 24, 25, 26, 27, 28, 29, 30, 31, 32, 33, 34] rfl) (hD.sub [7, 8, 9, 0, 1, 2, 3, 4, 5, 6, 10, 11, 12, 13, 14, 15, 16, 17, 18, 19, 20, 21, 22, 23, 24, 25, 26, 27, 28, 29, 30, 31, 32, 33, 34] (by decide) rfl) hS ls (lv_sub hl [0, 1, 2, 3] rfl)
        exact loop49_13 (N + 1) 0 (by omega) (by omega) tt g2 g3 _ _ hP hD hS ls (lv_sub hl [0, 1, 2, 3] rfl)
      · skip
        have tn128_ : nIT j1 := fun _ => nI_toInt (by first | omega | (have t := nleI c7; omega))
        have n50 : j1 < 10 := by have t := nleI c7; rw [show (nI (j1)).toInt = ((j1 : Nat) : Int) from tn128_ ()] at t; have : (10 : Int32).toInt = 10 := qI_10; omega
        refine lv_aload_n hx hb dX8_explore_8 rfl (lv_at hl 1 rfl) ?_
        refine va_get (D := (dC, dI)) (ci := 8) (v := .ref ti) (C := RX8) (T := TX8) (N := 3) hx hb hg inG8 hown hK.1 hP 0 rfl rfl 1 (Nat.le_of_ble_eq_true rfl) (hg _ wt_260) (fun _ h9 => h9) rfl dX8_explore_9 ?_
        refine lv_iconst (v := 0) hx hb dX8_explore_12 rfl ?_
        refine va_aldA hx hb hK.1 hP 1 4 rfl rfl (vp_in_iff.mpr ⟨by decide, by decide⟩) dX8_explore_13 ?_
        refine lv_cgv (y := .ref (ri 0)) (by rfl) ?_
        refine lv_iload_n hx hb dX8_explore_14 rfl (lv_at hl 0 rfl) ?_
        refine lv_iload_n hx hb dX8_explore_15 rfl (lv_at hl 0 rfl) ?_
        refine lv_aload_n hx hb dX8_explore_16 rfl (lv_at hl 2 rfl) ?_
        refine va_getN (D := (dC, dI)) (ci := 9) (v := .int (nI D)) (C := RX9) (T := TX9) (N := 9) hx hb hg inG9 hown hK.1 hP 3 rfl rfl 2 (Nat.le_of_ble_eq_true rfl) (hK.nest wn_69) (fun _ h9 => h9) rfl dX8_explore_17 ?_
        have cut28_53 : ∀ (k52 : Nat) (H : Heap) (locs : List Loc), k52 ≤ 1 → va_P (dC, dI) vwCl (([(h0, .inr (8, [.int tt, .ref ti, .ref to])), (ti, .inl (G 4, 11, .inr (.inr (.inr (.inr (fun ir => if ir < 11 then some (ri ir) else none)))))), (to, .inl (G 4, 11, .inr (.inr (.inr (.inr (fun ir => if ir < 11 then some (ro ir) else none)))))), (wy, .inr (9, [.int (nI N), .int (nI B), .int (nI D), .ref a1, .ref a2, .ref a3, .ref a4, .ref a5, .ref a6])), (a1, .inl (G 0, 10, .inl f1)), (a2, .inl (G 0, 10, .inl f2)), (a3, .inl (G 0, 10, .inl f3)), (a4, .inl (G 0, 6, .inl f4)), (a5, .inl (G 0, 6, .inl f5)), (a6, .inl (G 0, 6, .inl f6)), (mk, .inr (3, [.int (nI S), .ref m1, .ref m2])), (m1, .inl (G 0, 6, .inl z1)), (m2, .inl (G 0, 6, .inl z2))] : va_W) ++ ((((List.range 11).map (fun iq => (ri iq, .inl (G 0, 10, .inl (g2 iq))))) : va_W) ++ ((((List.range 11).map (fun iq => (ro iq, .inl (G 0, 10, .inl (g3 iq))))) : va_W) ++ []))) H → va_D A (([(h0, .inr (8, [.int tt, .ref ti, .ref to])), (ti, .inl (G 4, 11, .inr (.inr (.inr (.inr (fun ir => if ir < 11 then some (ri ir) else none)))))), (to, .inl (G 4, 11, .inr (.inr (.inr (.inr (fun ir => if ir < 11 then some (ro ir) else none)))))), (wy, .inr (9, [.int (nI N), .int (nI B), .int (nI D), .ref a1, .ref a2, .ref a3, .ref a4, .ref a5, .ref a6])), (a1, .inl (G 0, 10, .inl f1)), (a2, .inl (G 0, 10, .inl f2)), (a3, .inl (G 0, 10, .inl f3)), (a4, .inl (G 0, 6, .inl f4)), (a5, .inl (G 0, 6, .inl f5)), (a6, .inl (G 0, 6, .inl f6)), (mk, .inr (3, [.int (nI S), .ref m1, .ref m2])), (m1, .inl (G 0, 6, .inl z1)), (m2, .inl (G 0, 6, .inl z2))] : va_W) ++ ((((List.range 11).map (fun iq => (ri iq, .inl (G 0, 10, .inl (g2 iq))))) : va_W) ++ ((((List.range 11).map (fun iq => (ro iq, .inl (G 0, 10, .inl (g3 iq))))) : va_W) ++ []))) → va_S A s.heap H locs → ∀ (ls : Array Slot), lv_has ls 4 [(3, .int (nI j1)), (0, .ref h0), (1, .ref wy), (2, .ref mk)] → W p l e (headSpec (Cond.code yX8_explore cX8_explore 4 none :: GT) ({ frames := 4, cells := 0, slots := 0, locals := 88 } : Room)).room s m ([.ref h0, .ref wy, .ref mk] : List Value).toArray below meth c H locs 0 0 (MQ below (va_Qv (fun (u : Int32 × (Nat → Nat → Int32) × (Nat → Nat → Int32)) => match u with | (u0, u1, u2) => True) (fun (u : Int32 × (Nat → Nat → Int32) × (Nat → Nat → Int32)) (t : State) => match u with | (u0, u1, u2) => va_P (dC, dI) vwCl (([(h0, .inr (8, [.int u0, .ref ti, .ref to])), (ti, .inl (G 4, 11, .inr (.inr (.inr (.inr (fun ir => if ir < 11 then some (ri ir) else none)))))), (to, .inl (G 4, 11, .inr (.inr (.inr (.inr (fun ir => if ir < 11 then some (ro ir) else none)))))), (wy, .inr (9, [.int (nI N), .int (nI B), .int (nI D), .ref a1, .ref a2, .ref a3, .ref a4, .ref a5, .ref a6])), (a1, .inl (G 0, 10, .inl f1)), (a2, .inl (G 0, 10, .inl f2)), (a3, .inl (G 0, 10, .inl f3)), (a4, .inl (G 0, 6, .inl f4)), (a5, .inl (G 0, 6, .inl f5)), (a6, .inl (G 0, 6, .inl f6)), (mk, .inr (3, [.int (nI S), .ref m1, .ref m2])), (m1, .inl (G 0, 6, .inl z1)), (m2, .inl (G 0, 6, .inl z2))] : va_W) ++ ((((List.range 11).map (fun iq => (ri iq, .inl (G 0, 10, .inl (u1 iq))))) : va_W) ++ ((((List.range 11).map (fun iq => (ro iq, .inl (G 0, 10, .inl (u2 iq))))) : va_W) ++ []))) t.heap ∧ va_D A (([(h0, .inr (8, [.int u0, .ref ti, .ref to])), (ti, .inl (G 4, 11, .inr (.inr (.inr (.inr (fun ir => if ir < 11 then some (ri ir) else none)))))), (to, .inl (G 4, 11, .inr (.inr (.inr (.inr (fun ir => if ir < 11 then some (ro ir) else none)))))), (wy, .inr (9, [.int (nI N), .int (nI B), .int (nI D), .ref a1, .ref a2, .ref a3, .ref a4, .ref a5, .ref a6])), (a1, .inl (G 0, 10, .inl f1)), (a2, .inl (G 0, 10, .inl f2)), (a3, .inl (G 0, 10, .inl f3)), (a4, .inl (G 0, 6, .inl f4)), (a5, .inl (G 0, 6, .inl f5)), (a6, .inl (G 0, 6, .inl f6)), (mk, .inr (3, [.int (nI S), .ref m1, .ref m2])), (m1, .inl (G 0, 6, .inl z1)), (m2, .inl (G 0, 6, .inl z2))] : va_W) ++ ((((List.range 11).map (fun iq => (ri iq, .inl (G 0, 10, .inl (u1 iq))))) : va_W) ++ ((((List.range 11).map (fun iq => (ro iq, .inl (G 0, 10, .inl (u2 iq))))) : va_W) ++ [])))) A) ([.ref h0, .ref wy, .ref mk] : List Value).toArray s 0 0 A) (F0 m 28 ls [.int (nI k52), .int (nI j1), .ref (ri 0)]) := by
          intro k52 H locs hb_k52 hP hD hS ls hl
          have tn129_ : nIT k52 := fun _ => nI_toInt (by first | omega | (have t_hj6 := hj6; have t_n50 := n50; have t_hb_k52 := hb_k52; omega))
          refine va_iastB (j := 0) hx hb hK.1 hP hD hS 0 (by first | omega | (have t_hj6 := hj6; have t_n50 := n50; have t_hb_k52 := hb_k52; have tnb_ := nib6 tn119_ tn120_ tn121_ tn122_ tn128_ tn129_; omega)) rfl (vp_in_nI (by first | omega | (have t_hj6 := hj6; have t_n50 := n50; have t_hb_k52 := hb_k52; have tnb_ := nib6 tn119_ tn120_ tn121_ tn122_ tn128_ tn129_; omega)) (by decide)) dX8_explore_28 (fun H locs hP hD hS => ?_)
          rw [nI_clamp (by first | omega | (have t_hj6 := hj6; have t_n50 := n50; have t_hb_k52 := hb_k52; have tnb_ := nib6 tn119_ tn120_ tn121_ tn122_ tn128_ tn129_; omega))] at hP hD
          obtain ⟨hP, hD⟩ := va_rls (ws' := (([(h0, .inr (8, [.int tt, .ref ti, .ref to])), (ti, .inl (G 4, 11, .inr (.inr (.inr (.inr (fun ir => if ir < 11 then some (ri ir) else none)))))), (to, .inl (G 4, 11, .inr (.inr (.inr (.inr (fun ir => if ir < 11 then some (ro ir) else none)))))), (wy, .inr (9, [.int (nI N), .int (nI B), .int (nI D), .ref a1, .ref a2, .ref a3, .ref a4, .ref a5, .ref a6])), (a1, .inl (G 0, 10, .inl f1)), (a2, .inl (G 0, 10, .inl f2)), (a3, .inl (G 0, 10, .inl f3)), (a4, .inl (G 0, 6, .inl f4)), (a5, .inl (G 0, 6, .inl f5)), (a6, .inl (G 0, 6, .inl f6)), (mk, .inr (3, [.int (nI S), .ref m1, .ref m2])), (m1, .inl (G 0, 6, .inl z1)), (m2, .inl (G 0, 6, .inl z2))] : va_W) ++ ((((List.range 11).map (fun iq => (ri iq, .inl (G 0, 10, .inl ((va_up g2 0 (upd (g2 0) j1 (nI k52))) iq))))) : va_W) ++ ((((List.range 11).map (fun iq => (ro iq, .inl (G 0, 10, .inl (g3 iq))))) : va_W) ++ [])))) hP hD rfl
          refine lv_aload_n hx hb dX8_explore_29 rfl (lv_at hl 1 rfl) ?_
          refine va_get (D := (dC, dI)) (ci := 8) (v := .ref to) (C := RX8) (T := TX8) (N := 3) hx hb hg inG8 hown hK.1 hP 0 rfl rfl 2 (Nat.le_of_ble_eq_true rfl) (hg _ wt_261) (fun _ h9 => h9) rfl dX8_explore_30 ?_
          refine lv_aload_n hx hb dX8_explore_33 rfl (lv_at hl 2 rfl) ?_
          refine va_getN (D := (dC, dI)) (ci := 9) (v := .int (nI N)) (C := RX9) (T := TX9) (N := 9) hx hb hg inG9 hown hK.1 hP 3 rfl rfl 0 (Nat.le_of_ble_eq_true rfl) (hK.nest wn_58) (fun _ h9 => h9) rfl dX8_explore_34 ?_
          refine va_aldA hx hb hK.1 hP 2 4 rfl rfl (vp_in_nI (by first | omega | (have t_hj6 := hj6; have t_n50 := n50; have t_hb_k52 := hb_k52; have tnb_ := nib6 tn119_ tn120_ tn121_ tn122_ tn128_ tn129_; omega)) (by decide)) dX8_explore_37 ?_
          refine lv_cgv (y := .ref (ro N)) (rowref (by first | omega | (have t_hj6 := hj6; have t_n50 := n50; have t_hb_k52 := hb_k52; have tnb_ := nib6 tn119_ tn120_ tn121_ tn122_ tn128_ tn129_; omega)) (by decide)) ?_
          refine lv_iload_n hx hb dX8_explore_38 rfl (lv_at hl 0 rfl) ?_
          refine lv_iconst (v := 1) hx hb dX8_explore_39 rfl ?_
          refine va_iastB2 (j := N) hx hb hK.1 hP hD hS 0 (by first | omega | (have t_hj6 := hj6; have t_n50 := n50; have t_hb_k52 := hb_k52; have tnb_ := nib6 tn119_ tn120_ tn121_ tn122_ tn128_ tn129_; omega)) rfl (vp_in_nI (by first | omega | (have t_hj6 := hj6; have t_n50 := n50; have t_hb_k52 := hb_k52; have tnb_ := nib6 tn119_ tn120_ tn121_ tn122_ tn128_ tn129_; omega)) (by decide)) dX8_explore_40 (fun H locs hP hD hS => ?_)
          rw [nI_clamp (by first | omega | (have t_hj6 := hj6; have t_n50 := n50; have t_hb_k52 := hb_k52; have tnb_ := nib6 tn119_ tn120_ tn121_ tn122_ tn128_ tn129_; omega))] at hP hD
          obtain ⟨hP, hD⟩ := va_rls (ws' := (([(h0, .inr (8, [.int tt, .ref ti, .ref to])), (ti, .inl (G 4, 11, .inr (.inr (.inr (.inr (fun ir => if ir < 11 then some (ri ir) else none)))))), (to, .inl (G 4, 11, .inr (.inr (.inr (.inr (fun ir => if ir < 11 then some (ro ir) else none)))))), (wy, .inr (9, [.int (nI N), .int (nI B), .int (nI D), .ref a1, .ref a2, .ref a3, .ref a4, .ref a5, .ref a6])), (a1, .inl (G 0, 10, .inl f1)), (a2, .inl (G 0, 10, .inl f2)), (a3, .inl (G 0, 10, .inl f3)), (a4, .inl (G 0, 6, .inl f4)), (a5, .inl (G 0, 6, .inl f5)), (a6, .inl (G 0, 6, .inl f6)), (mk, .inr (3, [.int (nI S), .ref m1, .ref m2])), (m1, .inl (G 0, 6, .inl z1)), (m2, .inl (G 0, 6, .inl z2))] : va_W) ++ ((((List.range 11).map (fun iq => (ri iq, .inl (G 0, 10, .inl ((va_up g2 0 (upd (g2 0) j1 (nI k52))) iq))))) : va_W) ++ ((((List.range 11).map (fun iq => (ro iq, .inl (G 0, 10, .inl ((va_up g3 N (upd (g3 N) j1 1)) iq))))) : va_W) ++ [])))) hP hD rfl
          refine lv_iinc (v := nI (j1 + 1)) (lv' := [(3, .int (nI (j1 + 1))), (0, .ref h0), (1, .ref wy), (2, .ref mk)]) hx hb dX8_explore_41 hl (k := 0) rfl (by rw [show Int32.ofInt 1 = nI 1 from by decide]; exact nI_add _ _) (by decide) rfl (fun ls hl => ?_)
          refine lv_goto (tgt := 2) hx hb dX8_explore_44 rfl ?_
          exact ih2_4 (j1 + 1) (by omega) (by omega) (va_up g2 0 (upd (g2 0) j1 (nI k52))) (va_up g3 N (upd (g3 N) j1 1)) _ _ hP hD hS ls (lv_sub hl [0, 1, 2, 3] rfl)
        refine lv_icmp_ne (tgt := 27) hx hb dX8_explore_20 rfl (fun c54 => ?_) (fun c54 => ?_)
        · skip
          have n55 : j1 ≠ D := by have t := neI c54; rw [show (nI (j1)).toInt = ((j1 : Nat) : Int) from tn128_ ()] at t; rw [show (nI (D)).toInt = ((D : Nat) : Int) from tn121_ ()] at t; omega
          refine lv_iconst (v := 0) hx hb dX8_explore_27 rfl ?_
          exact cut28_53 0 _ _ (by omega) hP hD hS ls (lv_sub hl [0, 1, 2, 3] rfl)
        · skip
          have n56 : j1 = D := by have t := eqI c54; rw [show (nI (j1)).toInt = ((j1 : Nat) : Int) from tn128_ ()] at t; rw [show (nI (D)).toInt = ((D : Nat) : Int) from tn121_ ()] at t; omega
          refine lv_iconst (v := 1) hx hb dX8_explore_23 rfl ?_
          refine lv_goto (tgt := 28) hx hb dX8_explore_24 rfl ?_
          exact cut28_53 1 _ _ (by omega) hP hD hS ls (lv_sub hl [0, 1, 2, 3] rfl)
  exact loop2_4 (10 + 1) 0 (by omega) (by omega) F E _ _ hP hD hS ls (lv_sub hl [0, 1, 2, 3] rfl)

set_option maxHeartbeats 1000000 in
set_option maxRecDepth 100000 in
theorem c_X8_canBeBehind (l : Launch) (dC : Nat → ClassId) (dI : Nat → Nat → Nat) (G : Nat → ClassId) (sz : Nat) (h0 ti to i : Nat) (d tt : Int32) (ri ro : Nat → Nat) (F E : Nat → Nat → Int32) (hi : i < 10) (hd0 : 0 ≤ d.toInt ∧ d.toInt ≤ 9) : Met l yX8_canBeBehind (Cond.code yX8_canBeBehind cX8_canBeBehind 3 (some .boolean) :: GT) ({ frames := 0, cells := 0, slots := 0, locals := 0 } : Room) (PcR [.ref h0, .int (nI i), .int d] dC dI G (([(h0, .inr (8, [.int tt, .ref ti, .ref to])), (ti, .inl (G 4, 11, .inr (.inr (.inr (.inr (fun ir => if ir < 11 then some (ri ir) else none)))))), (to, .inl (G 4, 11, .inr (.inr (.inr (.inr (fun ir => if ir < 11 then some (ro ir) else none))))))] : va_W) ++ ((((List.range 11).map (fun iq => (ri iq, .inl (G 0, 10, .inl (F iq))))) : va_W) ++ ((((List.range 11).map (fun iq => (ro iq, .inl (G 0, 10, .inl (E iq))))) : va_W) ++ []))) sz) (va_Qi (fun (r : Int32) (u : Unit) => match u with | _ => (r = 0 ∨ r = 1) ∧ True) (fun _ _ => True) (fun q : Nat => sz ≤ q)) 0 0 (fun q : Nat => sz ≤ q) := by
  refine Met.ofW (cc := cX8_canBeBehind) (maxL := 3) (ret := (some .boolean)) (by decide) rfl ?_
  intro p e s m args below meth c s₁ Bd hml hv
  obtain ⟨rfl, hsz, hP, hK⟩ := hv
  have hx := Bd.exec
  have hb := Bd.bytes
  have hr := Bd.returns
  have hg : ∀ w ∈ GT, w.before ([.ref h0, .int (nI i), .int d] : List Value).toArray s = true := fun w h => atoms_spec (ws := Cond.code yX8_canBeBehind cX8_canBeBehind 3 (some .boolean) :: GT) Bd.pre w (List.mem_cons_of_mem _ h)
  have hown : s.vm.findClass RX8 = some m.cls := findClass_of_methodNamed Bd.named
  have hlocks := Bd.notSynchronized
  subst hsz
  have hA : ∀ q : Nat, s.heap.size ≤ q → (fun q : Nat => s.heap.size ≤ q) q := fun _ h => h
  have hS : va_S (fun q : Nat => s.heap.size ≤ q) s.heap s.heap [] := va_S.rf
  have hl := lv_entry ([.ref h0, .int (nI i), .int d]) (n := 3) (Nat.le_of_ble_eq_true rfl)
  rw [lg_entry_eq]
  generalize (lg_sl ([.ref h0, .int (nI i), .int d]) ++ List.replicate (3 - (lg_sl ([.ref h0, .int (nI i), .int d])).length) Slot.unset).toArray = ls at hl ⊢
  have hl : lv_has ls 3 [(0, .ref h0), (1, .int (nI i)), (2, .int d)] := hl
  refine lv_aload_n hx hb dX8_canBeBehind_0 rfl (lv_at hl 0 rfl) ?_
  refine va_get (D := (dC, dI)) (ci := 8) (v := .ref ti) (C := RX8) (T := TX8) (N := 3) hx hb hg inG8 hown hK.1 hP 0 rfl rfl 1 (Nat.le_of_ble_eq_true rfl) (hg _ wt_260) (fun _ h9 => h9) rfl dX8_canBeBehind_1 ?_
  refine lv_iload_n hx hb dX8_canBeBehind_4 rfl (lv_at hl 1 rfl) ?_
  refine lv_iconst (v := 1) hx hb dX8_canBeBehind_5 rfl ?_
  refine lv_iadd hx hb dX8_canBeBehind_6 ?_
  refine lv_cg (y := nI (i + 1)) (by rw [show (1 : Int32) = nI 1 from rfl]; exact nI_add _ _) ?_
  have tn130_ : nIT i := fun _ => nI_toInt (by omega)
  refine va_aldA hx hb hK.1 hP 1 4 rfl rfl (vp_in_nI (by first | omega | (have t_n0 : (nI i).toInt = (i : Int) := tn130_ (); omega)) (by decide)) dX8_canBeBehind_7 ?_
  refine lv_cgv (y := .ref (ri (i + 1))) (rowref (by first | omega | (have t_n0 : (nI i).toInt = (i : Int) := tn130_ (); omega)) (by decide)) ?_
  refine lv_iload_n hx hb dX8_canBeBehind_8 rfl (lv_at hl 2 rfl) ?_
  refine va_iald hx hb hK.1 (blk_P (j := (i + 1)) hP (by first | omega | (have t_n0 : (nI i).toInt = (i : Int) := tn130_ (); omega))) 0 0 rfl rfl (vp_in_iff.mpr (by have t_n0 : (nI i).toInt = (i : Int) := tn130_ (); constructor <;> omega)) dX8_canBeBehind_9 ?_
  refine lv_if_le (tgt := 30) hx hb dX8_canBeBehind_10 rfl (fun c1 => ?_) (fun c1 => ?_)
  · skip
    refine lv_iconst (v := 0) hx hb dX8_canBeBehind_30 rfl ?_
    have hpost : (0 : Int32) = 0 ∨ (0 : Int32) = 1 := by
      exact Or.inl rfl
    refine W.widen (k := 0) (n := 0) (Nat.le_of_ble_eq_true rfl) (Nat.le_of_ble_eq_true rfl) ?_
    exact W.zret (v := 0) hx hb hr (by first | rfl | decide | exact rfl) (fun t ht hW => ⟨⟨0, (), rfl, ⟨hpost, trivial⟩, trivial⟩, hS.F ht⟩) hS.2.2 dX8_canBeBehind_31
  · skip
    refine lv_aload_n hx hb dX8_canBeBehind_13 rfl (lv_at hl 0 rfl) ?_
    refine va_get (D := (dC, dI)) (ci := 8) (v := .ref to) (C := RX8) (T := TX8) (N := 3) hx hb hg inG8 hown hK.1 hP 0 rfl rfl 2 (Nat.le_of_ble_eq_true rfl) (hg _ wt_261) (fun _ h9 => h9) rfl dX8_canBeBehind_14 ?_
    refine lv_iload_n hx hb dX8_canBeBehind_17 rfl (lv_at hl 1 rfl) ?_
    refine lv_iconst (v := 1) hx hb dX8_canBeBehind_18 rfl ?_
    refine lv_iadd hx hb dX8_canBeBehind_19 ?_
    refine lv_cg (y := nI (i + 1)) (by rw [show (1 : Int32) = nI 1 from rfl]; exact nI_add _ _) ?_
    refine va_aldA hx hb hK.1 hP 2 4 rfl rfl (vp_in_nI (by first | omega | (have t_c1 := nleI c1; have : (0 : Int32).toInt = 0 := qI_0; have t_n0 : (nI i).toInt = (i : Int) := tn130_ (); omega)) (by decide)) dX8_canBeBehind_20 ?_
    refine lv_cgv (y := .ref (ro (i + 1))) (rowref (by first | omega | (have t_c1 := nleI c1; have : (0 : Int32).toInt = 0 := qI_0; have t_n0 : (nI i).toInt = (i : Int) := tn130_ (); omega)) (by decide)) ?_
    refine lv_iload_n hx hb dX8_canBeBehind_21 rfl (lv_at hl 2 rfl) ?_
    refine va_iald hx hb hK.1 (blk_P2 (j := (i + 1)) hP (by first | omega | (have t_c1 := nleI c1; have : (0 : Int32).toInt = 0 := qI_0; have t_n0 : (nI i).toInt = (i : Int) := tn130_ (); omega))) 0 0 rfl rfl (vp_in_iff.mpr (by have t_c1 := nleI c1; have : (0 : Int32).toInt = 0 := qI_0; have t_n0 : (nI i).toInt = (i : Int) := tn130_ (); constructor <;> omega)) dX8_canBeBehind_22 ?_
    refine lv_if_le (tgt := 30) hx hb dX8_canBeBehind_23 rfl (fun c2 => ?_) (fun c2 => ?_)
    · skip
      refine lv_iconst (v := 0) hx hb dX8_canBeBehind_30 rfl ?_
      have hpost : (0 : Int32) = 0 ∨ (0 : Int32) = 1 := by
        exact Or.inl rfl
      refine W.widen (k := 0) (n := 0) (Nat.le_of_ble_eq_true rfl) (Nat.le_of_ble_eq_true rfl) ?_
      exact W.zret (v := 0) hx hb hr (by first | rfl | decide | exact rfl) (fun t ht hW => ⟨⟨0, (), rfl, ⟨hpost, trivial⟩, trivial⟩, hS.F ht⟩) hS.2.2 dX8_canBeBehind_31
    · skip
      refine lv_iconst (v := 1) hx hb dX8_canBeBehind_26 rfl ?_
      refine lv_goto (tgt := 31) hx hb dX8_canBeBehind_27 rfl ?_
      have hpost : (1 : Int32) = 0 ∨ (1 : Int32) = 1 := by
        exact Or.inr rfl
      refine W.widen (k := 0) (n := 0) (Nat.le_of_ble_eq_true rfl) (Nat.le_of_ble_eq_true rfl) ?_
      exact W.zret (v := 1) hx hb hr (by first | rfl | decide | exact rfl) (fun t ht hW => ⟨⟨1, (), rfl, ⟨hpost, trivial⟩, trivial⟩, hS.F ht⟩) hS.2.2 dX8_canBeBehind_31

set_option maxHeartbeats 1000000 in
set_option maxRecDepth 100000 in
theorem c_X8_falling (l : Launch) (dC : Nat → ClassId) (dI : Nat → Nat → Nat) (G : Nat → ClassId) (sz : Nat) (h0 ti to wy a1 a2 a3 a4 a5 a6 N B D i : Nat) (tt : Int32) (f1 f2 f3 f4 f5 f6 : Nat → Int32) (ri ro : Nat → Nat) (F E : Nat → Nat → Int32) (hN_N : N ≤ 10) (hB_B : B ≤ 6) (hD_D : 1 ≤ D ∧ D ≤ 9) (hi : i < 10) : Met l yX8_falling (Cond.code yX8_falling cX8_falling 5 (some .int) :: GT) ({ frames := 4, cells := 0, slots := 0, locals := 88 } : Room) (PcR [.ref h0, .ref wy, .int (nI i)] dC dI G (([(h0, .inr (8, [.int tt, .ref ti, .ref to])), (ti, .inl (G 4, 11, .inr (.inr (.inr (.inr (fun ir => if ir < 11 then some (ri ir) else none)))))), (to, .inl (G 4, 11, .inr (.inr (.inr (.inr (fun ir => if ir < 11 then some (ro ir) else none)))))), (wy, .inr (9, [.int (nI N), .int (nI B), .int (nI D), .ref a1, .ref a2, .ref a3, .ref a4, .ref a5, .ref a6])), (a1, .inl (G 0, 10, .inl f1)), (a2, .inl (G 0, 10, .inl f2)), (a3, .inl (G 0, 10, .inl f3)), (a4, .inl (G 0, 6, .inl f4)), (a5, .inl (G 0, 6, .inl f5)), (a6, .inl (G 0, 6, .inl f6))] : va_W) ++ ((((List.range 11).map (fun iq => (ri iq, .inl (G 0, 10, .inl (F iq))))) : va_W) ++ ((((List.range 11).map (fun iq => (ro iq, .inl (G 0, 10, .inl (E iq))))) : va_W) ++ []))) sz) (va_Qi (fun (r : Int32) (u : Unit) => match u with | _ => (True) ∧ True) (fun _ _ => True) (fun q : Nat => sz ≤ q)) 0 0 (fun q : Nat => sz ≤ q) := by
  have tn131_ : nIT N := fun _ => nI_toInt (by omega)
  have tn132_ : nIT B := fun _ => nI_toInt (by omega)
  have tn133_ : nIT D := fun _ => nI_toInt (by omega)
  refine Met.ofW (cc := cX8_falling) (maxL := 5) (ret := (some .int)) (by decide) rfl ?_
  intro p e s m args below meth c s₁ Bd hml hv
  obtain ⟨rfl, hsz, hP, hK⟩ := hv
  have hx := Bd.exec
  have hb := Bd.bytes
  have hr := Bd.returns
  have hg : ∀ w ∈ GT, w.before ([.ref h0, .ref wy, .int (nI i)] : List Value).toArray s = true := fun w h => atoms_spec (ws := Cond.code yX8_falling cX8_falling 5 (some .int) :: GT) Bd.pre w (List.mem_cons_of_mem _ h)
  have hown : s.vm.findClass RX8 = some m.cls := findClass_of_methodNamed Bd.named
  have hlocks := Bd.notSynchronized
  subst hsz
  have hA : ∀ q : Nat, s.heap.size ≤ q → (fun q : Nat => s.heap.size ≤ q) q := fun _ h => h
  have hS : va_S (fun q : Nat => s.heap.size ≤ q) s.heap s.heap [] := va_S.rf
  have hl := lv_entry ([.ref h0, .ref wy, .int (nI i)]) (n := 5) (Nat.le_of_ble_eq_true rfl)
  rw [lg_entry_eq]
  generalize (lg_sl ([.ref h0, .ref wy, .int (nI i)]) ++ List.replicate (5 - (lg_sl ([.ref h0, .ref wy, .int (nI i)])).length) Slot.unset).toArray = ls at hl ⊢
  have hl : lv_has ls 5 [(0, .ref h0), (1, .ref wy), (2, .int (nI i))] := hl
  refine lv_aload_n hx hb dX8_falling_0 rfl (lv_at hl 1 rfl) ?_
  refine lv_iload_n hx hb dX8_falling_1 rfl (lv_at hl 2 rfl) ?_
  have hPc := hP.sub (ws' := [(wy, .inr (9, [.int (nI N), .int (nI B), .int (nI D), .ref a1, .ref a2, .ref a3, .ref a4, .ref a5, .ref a6])), (a1, .inl (G 0, 10, .inl f1)), (a2, .inl (G 0, 10, .inl f2)), (a3, .inl (G 0, 10, .inl f3)), (a4, .inl (G 0, 6, .inl f4)), (a5, .inl (G 0, 6, .inl f5)), (a6, .inl (G 0, 6, .inl f6))]) [3, 4, 5, 6, 7, 8, 9] rfl
  have tn134_ : nIT i := fun _ => nI_toInt (by omega)
  refine va_calli (va_runVN (As := [.int (nI i)]) (rest := []) ⟨hx, hb, hml, hown, hg⟩ (c_X9_harmInOrder l dC dI G _ wy a1 a2 a3 a4 a5 a6 N B D (nI i) f1 f2 f3 f4 f5 f6 hN_N hB_B hD_D) (kwVN hg hK mfX9_harmInOrder wn_771 ⟨Nat.le_of_ble_eq_true rfl, Nat.le_of_ble_eq_true rfl⟩) (preVR hK hPc (ci := 9) (r := (RX9, TX9, 9)) rfl rfl) rfl rfl hl.1 rfl (lv_room (Nat.le_of_ble_eq_true rfl)) dX8_falling_2 ⟨Nat.le_of_ble_eq_true rfl, Nat.le_of_ble_eq_true rfl⟩) hS (fun q h1 h2 => absurd h2 (Nat.not_le.mpr h1)) (fun q h => hA q (Nat.le_trans hS.1 h)) (fun r1 ur1 t H1 locs ht hvm w2 hB hz1 hk1 hS => ?_)
  have hP := keepR hP hk1
  obtain ⟨w2, w2x⟩ := w2
  subst w2
  refine lv_if_ne (tgt := 10) hx hb dX8_falling_5 rfl (fun c3 => ?_) (fun c3 => ?_)
  · skip
    refine lv_iconst (v := 0) hx hb dX8_falling_10 rfl ?_
    refine lv_istore_n (lv' := [(3, .int 0), (0, .ref h0), (1, .ref wy), (2, .int (nI i))]) hx hb dX8_falling_11 rfl hl (by decide) rfl (fun ls hl => ?_)
    refine lv_iconst (v := 1) hx hb dX8_falling_12 rfl ?_
    refine lv_istore (lv' := [(4, .int 1), (3, .int 0), (0, .ref h0), (1, .ref wy), (2, .int (nI i))]) hx hb dX8_falling_13 hl (by decide) rfl (fun ls hl => ?_)
    have loop15_6 : ∀ (nf j4 : Nat), 10 + 1 ≤ j4 + nf → j4 ≤ 10 → 1 ≤ j4 → ∀ (y5 : Int32) (H : Heap) (locs : List Loc), va_P (dC, dI) vwCl (([(h0, .inr (8, [.int tt, .ref ti, .ref to])), (ti, .inl (G 4, 11, .inr (.inr (.inr (.inr (fun ir => if ir < 11 then some (ri ir) else none)))))), (to, .inl (G 4, 11, .inr (.inr (.inr (.inr (fun ir => if ir < 11 then some (ro ir) else none)))))), (wy, .inr (9, [.int (nI N), .int (nI B), .int (nI D), .ref a1, .ref a2, .ref a3, .ref a4, .ref a5, .ref a6])), (a1, .inl (G 0, 10, .inl f1)), (a2, .inl (G 0, 10, .inl f2)), (a3, .inl (G 0, 10, .inl f3)), (a4, .inl (G 0, 6, .inl f4)), (a5, .inl (G 0, 6, .inl f5)), (a6, .inl (G 0, 6, .inl f6))] : va_W) ++ ((((List.range 11).map (fun iq => (ri iq, .inl (G 0, 10, .inl (F iq))))) : va_W) ++ ((((List.range 11).map (fun iq => (ro iq, .inl (G 0, 10, .inl (E iq))))) : va_W) ++ []))) H → va_S (fun q : Nat => s.heap.size ≤ q) s.heap H locs → ∀ (ls : Array Slot), lv_has ls 5 [(4, .int (nI j4)), (3, .int y5), (0, .ref h0), (1, .ref wy), (2, .int (nI i))] → W p l e (headSpec (Cond.code yX8_falling cX8_falling 5 (some .int) :: GT) ({ frames := 4, cells := 0, slots := 0, locals := 88 } : Room)).room s m ([.ref h0, .ref wy, .int (nI i)] : List Value).toArray below meth c H locs 0 0 (MQ below (va_Qi (fun (r : Int32) (u : Unit) => match u with | _ => (True) ∧ True) (fun _ _ => True) (fun q : Nat => s.heap.size ≤ q)) ([.ref h0, .ref wy, .int (nI i)] : List Value).toArray s 0 0 (fun q : Nat => s.heap.size ≤ q)) (F0 m 15 ls []) := by
      intro nf
      induction nf with
      | zero => intro j4 h1 h2; exact absurd h1 (by omega)
      | succ nf ih15_6 =>
        intro j4 hn7 hj8 hlo_j4 y5 H locs hP hS ls hl
        refine lv_iload hx hb dX8_falling_15 (lv_at hl 0 rfl) ?_
        refine lv_bipush (v := 10) hx hb dX8_falling_17 rfl ?_
        refine lv_icmp_ge (tgt := 54) hx hb dX8_falling_19 rfl (fun c9 => ?_) (fun c9 => ?_)
        · skip
          have tn135_ : nIT j4 := fun _ => nI_toInt (by first | omega | (have t := leI c9; omega))
          have n10 : 10 ≤ j4 := by have t := leI c9; rw [show (nI (j4)).toInt = ((j4 : Nat) : Int) from tn135_ ()] at t; have : (10 : Int32).toInt = 10 := qI_10; omega
          refine lv_iload_n hx hb dX8_falling_54 rfl (lv_at hl 1 rfl) ?_
          have hpost : True := by
            trivial
          refine W.widen (k := 0) (n := 0) (Nat.le_of_ble_eq_true rfl) (Nat.le_of_ble_eq_true rfl) ?_
          exact W.iret (v := y5) hx hb hr (fun t ht hW => ⟨⟨y5, (), rfl, ⟨hpost, trivial⟩, trivial⟩, hS.F ht⟩) hS.2.2 dX8_falling_55
        · skip
          have tn136_ : nIT j4 := fun _ => nI_toInt (by first | omega | (have t := nleI c9; omega))
          have n11 : j4 < 10 := by have t := nleI c9; rw [show (nI (j4)).toInt = ((j4 : Nat) : Int) from tn136_ ()] at t; have : (10 : Int32).toInt = 10 := qI_10; omega
          refine lv_iload_n hx hb dX8_falling_22 rfl (lv_at hl 1 rfl) ?_
          refine lv_aload_n hx hb dX8_falling_23 rfl (lv_at hl 2 rfl) ?_
          refine va_get (D := (dC, dI)) (ci := 8) (v := .ref ti) (C := RX8) (T := TX8) (N := 3) hx hb hg inG8 hown hK.1 hP 0 rfl rfl 1 (Nat.le_of_ble_eq_true rfl) (hg _ wt_260) (fun _ h9 => h9) rfl dX8_falling_24 ?_
          refine lv_iload_n hx hb dX8_falling_27 rfl (lv_at hl 4 rfl) ?_
          refine va_aldA hx hb hK.1 hP 1 4 rfl rfl (vp_in_nI (by first | omega | (have t_c3 := neI c3; have t_hj8 := hj8; have t_hlo_j4 := hlo_j4; have t_n11 := n11; have : (0 : Int32).toInt = 0 := qI_0; have tnb_ := nib5 tn134_ tn131_ tn132_ tn133_ tn136_; omega)) (by decide)) dX8_falling_28 ?_
          refine lv_cgv (y := .ref (ri i)) (rowref (by first | omega | (have t_c3 := neI c3; have t_hj8 := hj8; have t_hlo_j4 := hlo_j4; have t_n11 := n11; have : (0 : Int32).toInt = 0 := qI_0; have tnb_ := nib5 tn134_ tn131_ tn132_ tn133_ tn136_; omega)) (by decide)) ?_
          refine lv_iload hx hb dX8_falling_29 (lv_at hl 0 rfl) ?_
          refine va_iald hx hb hK.1 (blk_P (j := i) hP (by first | omega | (have t_c3 := neI c3; have t_hj8 := hj8; have t_hlo_j4 := hlo_j4; have t_n11 := n11; have : (0 : Int32).toInt = 0 := qI_0; have tnb_ := nib5 tn134_ tn131_ tn132_ tn133_ tn136_; omega))) 0 0 rfl rfl (vp_in_nI (by first | omega | (have t_c3 := neI c3; have t_hj8 := hj8; have t_hlo_j4 := hlo_j4; have t_n11 := n11; have : (0 : Int32).toInt = 0 := qI_0; have tnb_ := nib5 tn134_ tn131_ tn132_ tn133_ tn136_; omega)) (by decide)) dX8_falling_31 ?_
          refine lv_cg (y := F i j4) (by rw [nI_clamp (by first | omega | (have t_c3 := neI c3; have t_hj8 := hj8; have t_hlo_j4 := hlo_j4; have t_n11 := n11; have : (0 : Int32).toInt = 0 := qI_0; have tnb_ := nib5 tn134_ tn131_ tn132_ tn133_ tn136_; omega))]) ?_
          refine lv_aload_n hx hb dX8_falling_32 rfl (lv_at hl 2 rfl) ?_
          refine va_get (D := (dC, dI)) (ci := 8) (v := .ref to) (C := RX8) (T := TX8) (N := 3) hx hb hg inG8 hown hK.1 hP 0 rfl rfl 2 (Nat.le_of_ble_eq_true rfl) (hg _ wt_261) (fun _ h9 => h9) rfl dX8_falling_33 ?_
          refine lv_iload_n hx hb dX8_falling_36 rfl (lv_at hl 4 rfl) ?_
          refine lv_iconst (v := 1) hx hb dX8_falling_37 rfl ?_
          refine lv_iadd hx hb dX8_falling_38 ?_
          refine lv_cg (y := nI (i + 1)) (by rw [show (1 : Int32) = nI 1 from rfl]; exact nI_add _ _) ?_
          refine va_aldA hx hb hK.1 hP 2 4 rfl rfl (vp_in_nI (by first | omega | (have t_c3 := neI c3; have t_hj8 := hj8; have t_hlo_j4 := hlo_j4; have t_n11 := n11; have : (0 : Int32).toInt = 0 := qI_0; have tnb_ := nib5 tn134_ tn131_ tn132_ tn133_ tn136_; omega)) (by decide)) dX8_falling_39 ?_
          refine lv_cgv (y := .ref (ro (i + 1))) (rowref (by first | omega | (have t_c3 := neI c3; have t_hj8 := hj8; have t_hlo_j4 := hlo_j4; have t_n11 := n11; have : (0 : Int32).toInt = 0 := qI_0; have tnb_ := nib5 tn134_ tn131_ tn132_ tn133_ tn136_; omega)) (by decide)) ?_
          refine lv_iload hx hb dX8_falling_40 (lv_at hl 0 rfl) ?_
          refine lv_iconst (v := 1) hx hb dX8_falling_42 rfl ?_
          refine lv_isub hx hb dX8_falling_43 ?_
          refine lv_cg (y := nI (j4 - 1)) (by rw [show (1 : Int32) = nI 1 from rfl]; exact pk_sub (by have t_c3 := neI c3; have t_hj8 := hj8; have t_hlo_j4 := hlo_j4; have t_n11 := n11; have : (0 : Int32).toInt = 0 := qI_0; have tnb_ := nib5 tn134_ tn131_ tn132_ tn133_ tn136_; omega)) ?_
          refine va_iald hx hb hK.1 (blk_P2 (j := (i + 1)) hP (by first | omega | (have t_c3 := neI c3; have t_hj8 := hj8; have t_hlo_j4 := hlo_j4; have t_n11 := n11; have : (0 : Int32).toInt = 0 := qI_0; have tnb_ := nib5 tn134_ tn131_ tn132_ tn133_ tn136_; omega))) 0 0 rfl rfl (vp_in_nI (by first | omega | (have t_c3 := neI c3; have t_hj8 := hj8; have t_hlo_j4 := hlo_j4; have t_n11 := n11; have : (0 : Int32).toInt = 0 := qI_0; have tnb_ := nib5 tn134_ tn131_ tn132_ tn133_ tn136_; omega)) (by decide)) dX8_falling_44 ?_
          refine lv_cg (y := E (i + 1) (j4 - 1)) (by rw [nI_clamp (by first | omega | (have t_c3 := neI c3; have t_hj8 := hj8; have t_hlo_j4 := hlo_j4; have t_n11 := n11; have : (0 : Int32).toInt = 0 := qI_0; have tnb_ := nib5 tn134_ tn131_ tn132_ tn133_ tn136_; omega))]) ?_
          refine lv_imul hx hb dX8_falling_45 ?_
          refine lv_topi (fun v12 ev12 => ?_)
          refine lv_iadd hx hb dX8_falling_46 ?_
          refine lv_istore_n (lv' := [(3, .int (y5 + v12)), (4, .int (nI j4)), (0, .ref h0), (1, .ref wy), (2, .int (nI i))]) hx hb dX8_falling_47 rfl hl (by decide) rfl (fun ls hl => ?_)
          refine lv_iinc (v := nI (j4 + 1)) (lv' := [(4, .int (nI (j4 + 1))), (3, .int (y5 + v12)), (0, .ref h0), (1, .ref wy), (2, .int (nI i))]) hx hb dX8_falling_48 hl (k := 1) rfl (by rw [show Int32.ofInt 1 = nI 1 from by decide]; exact nI_add _ _) (by decide) rfl (fun ls hl => ?_)
          refine lv_goto (tgt := 15) hx hb dX8_falling_51 rfl ?_
          exact ih15_6 (j4 + 1) (by omega) (by omega) (by omega) (y5 + v12) _ _ hP hS ls (lv_sub hl [0, 1, 2, 3, 4] rfl)
    exact loop15_6 (10 + 1) 1 (by omega) (by omega) (by omega) 0 _ _ hP hS ls (lv_sub hl [0, 1, 2, 3, 4] rfl)
  · skip
    refine lv_iconst (v := 0) hx hb dX8_falling_8 rfl ?_
    have hpost : True := by
      trivial
    refine W.widen (k := 0) (n := 0) (Nat.le_of_ble_eq_true rfl) (Nat.le_of_ble_eq_true rfl) ?_
    exact W.iret (v := 0) hx hb hr (fun t ht hW => ⟨⟨0, (), rfl, ⟨hpost, trivial⟩, trivial⟩, hS.F ht⟩) hS.2.2 dX8_falling_9

set_option maxHeartbeats 1000000 in
set_option maxRecDepth 100000 in
theorem c_X8_rising (l : Launch) (dC : Nat → ClassId) (dI : Nat → Nat → Nat) (G : Nat → ClassId) (sz : Nat) (h0 ti to wy a1 a2 a3 a4 a5 a6 N B D i : Nat) (tt : Int32) (f1 f2 f3 f4 f5 f6 : Nat → Int32) (ri ro : Nat → Nat) (F E : Nat → Nat → Int32) (hN_N : N ≤ 10) (hB_B : B ≤ 6) (hD_D : 1 ≤ D ∧ D ≤ 9) (hi : i < 10) : Met l yX8_rising (Cond.code yX8_rising cX8_rising 5 (some .int) :: GT) ({ frames := 4, cells := 0, slots := 0, locals := 88 } : Room) (PcR [.ref h0, .ref wy, .int (nI i)] dC dI G (([(h0, .inr (8, [.int tt, .ref ti, .ref to])), (ti, .inl (G 4, 11, .inr (.inr (.inr (.inr (fun ir => if ir < 11 then some (ri ir) else none)))))), (to, .inl (G 4, 11, .inr (.inr (.inr (.inr (fun ir => if ir < 11 then some (ro ir) else none)))))), (wy, .inr (9, [.int (nI N), .int (nI B), .int (nI D), .ref a1, .ref a2, .ref a3, .ref a4, .ref a5, .ref a6])), (a1, .inl (G 0, 10, .inl f1)), (a2, .inl (G 0, 10, .inl f2)), (a3, .inl (G 0, 10, .inl f3)), (a4, .inl (G 0, 6, .inl f4)), (a5, .inl (G 0, 6, .inl f5)), (a6, .inl (G 0, 6, .inl f6))] : va_W) ++ ((((List.range 11).map (fun iq => (ri iq, .inl (G 0, 10, .inl (F iq))))) : va_W) ++ ((((List.range 11).map (fun iq => (ro iq, .inl (G 0, 10, .inl (E iq))))) : va_W) ++ []))) sz) (va_Qi (fun (r : Int32) (u : Unit) => match u with | _ => (True) ∧ True) (fun _ _ => True) (fun q : Nat => sz ≤ q)) 0 0 (fun q : Nat => sz ≤ q) := by
  have tn137_ : nIT N := fun _ => nI_toInt (by omega)
  have tn138_ : nIT B := fun _ => nI_toInt (by omega)
  have tn139_ : nIT D := fun _ => nI_toInt (by omega)
  refine Met.ofW (cc := cX8_rising) (maxL := 5) (ret := (some .int)) (by decide) rfl ?_
  intro p e s m args below meth c s₁ Bd hml hv
  obtain ⟨rfl, hsz, hP, hK⟩ := hv
  have hx := Bd.exec
  have hb := Bd.bytes
  have hr := Bd.returns
  have hg : ∀ w ∈ GT, w.before ([.ref h0, .ref wy, .int (nI i)] : List Value).toArray s = true := fun w h => atoms_spec (ws := Cond.code yX8_rising cX8_rising 5 (some .int) :: GT) Bd.pre w (List.mem_cons_of_mem _ h)
  have hown : s.vm.findClass RX8 = some m.cls := findClass_of_methodNamed Bd.named
  have hlocks := Bd.notSynchronized
  subst hsz
  have hA : ∀ q : Nat, s.heap.size ≤ q → (fun q : Nat => s.heap.size ≤ q) q := fun _ h => h
  have hS : va_S (fun q : Nat => s.heap.size ≤ q) s.heap s.heap [] := va_S.rf
  have hl := lv_entry ([.ref h0, .ref wy, .int (nI i)]) (n := 5) (Nat.le_of_ble_eq_true rfl)
  rw [lg_entry_eq]
  generalize (lg_sl ([.ref h0, .ref wy, .int (nI i)]) ++ List.replicate (5 - (lg_sl ([.ref h0, .ref wy, .int (nI i)])).length) Slot.unset).toArray = ls at hl ⊢
  have hl : lv_has ls 5 [(0, .ref h0), (1, .ref wy), (2, .int (nI i))] := hl
  refine lv_aload_n hx hb dX8_rising_0 rfl (lv_at hl 1 rfl) ?_
  refine lv_iload_n hx hb dX8_rising_1 rfl (lv_at hl 2 rfl) ?_
  have hPc := hP.sub (ws' := [(wy, .inr (9, [.int (nI N), .int (nI B), .int (nI D), .ref a1, .ref a2, .ref a3, .ref a4, .ref a5, .ref a6])), (a1, .inl (G 0, 10, .inl f1)), (a2, .inl (G 0, 10, .inl f2)), (a3, .inl (G 0, 10, .inl f3)), (a4, .inl (G 0, 6, .inl f4)), (a5, .inl (G 0, 6, .inl f5)), (a6, .inl (G 0, 6, .inl f6))]) [3, 4, 5, 6, 7, 8, 9] rfl
  have tn140_ : nIT i := fun _ => nI_toInt (by omega)
  refine va_calli (va_runVN (As := [.int (nI i)]) (rest := []) ⟨hx, hb, hml, hown, hg⟩ (c_X9_harmInOrder l dC dI G _ wy a1 a2 a3 a4 a5 a6 N B D (nI i) f1 f2 f3 f4 f5 f6 hN_N hB_B hD_D) (kwVN hg hK mfX9_harmInOrder wn_771 ⟨Nat.le_of_ble_eq_true rfl, Nat.le_of_ble_eq_true rfl⟩) (preVR hK hPc (ci := 9) (r := (RX9, TX9, 9)) rfl rfl) rfl rfl hl.1 rfl (lv_room (Nat.le_of_ble_eq_true rfl)) dX8_rising_2 ⟨Nat.le_of_ble_eq_true rfl, Nat.le_of_ble_eq_true rfl⟩) hS (fun q h1 h2 => absurd h2 (Nat.not_le.mpr h1)) (fun q h => hA q (Nat.le_trans hS.1 h)) (fun r1 ur1 t H1 locs ht hvm w2 hB hz1 hk1 hS => ?_)
  have hP := keepR hP hk1
  obtain ⟨w2, w2x⟩ := w2
  subst w2
  refine lv_bipush (v := 20) hx hb dX8_rising_5 rfl ?_
  refine lv_icmp_ne (tgt := 12) hx hb dX8_rising_7 rfl (fun c3 => ?_) (fun c3 => ?_)
  · skip
    refine lv_iconst (v := 0) hx hb dX8_rising_12 rfl ?_
    refine lv_istore_n (lv' := [(3, .int 0), (0, .ref h0), (1, .ref wy), (2, .int (nI i))]) hx hb dX8_rising_13 rfl hl (by decide) rfl (fun ls hl => ?_)
    refine lv_iconst (v := 1) hx hb dX8_rising_14 rfl ?_
    refine lv_istore (lv' := [(4, .int 1), (3, .int 0), (0, .ref h0), (1, .ref wy), (2, .int (nI i))]) hx hb dX8_rising_15 hl (by decide) rfl (fun ls hl => ?_)
    have loop17_6 : ∀ (nf j4 : Nat), 10 + 1 ≤ j4 + nf → j4 ≤ 10 → 1 ≤ j4 → ∀ (y5 : Int32) (H : Heap) (locs : List Loc), va_P (dC, dI) vwCl (([(h0, .inr (8, [.int tt, .ref ti, .ref to])), (ti, .inl (G 4, 11, .inr (.inr (.inr (.inr (fun ir => if ir < 11 then some (ri ir) else none)))))), (to, .inl (G 4, 11, .inr (.inr (.inr (.inr (fun ir => if ir < 11 then some (ro ir) else none)))))), (wy, .inr (9, [.int (nI N), .int (nI B), .int (nI D), .ref a1, .ref a2, .ref a3, .ref a4, .ref a5, .ref a6])), (a1, .inl (G 0, 10, .inl f1)), (a2, .inl (G 0, 10, .inl f2)), (a3, .inl (G 0, 10, .inl f3)), (a4, .inl (G 0, 6, .inl f4)), (a5, .inl (G 0, 6, .inl f5)), (a6, .inl (G 0, 6, .inl f6))] : va_W) ++ ((((List.range 11).map (fun iq => (ri iq, .inl (G 0, 10, .inl (F iq))))) : va_W) ++ ((((List.range 11).map (fun iq => (ro iq, .inl (G 0, 10, .inl (E iq))))) : va_W) ++ []))) H → va_S (fun q : Nat => s.heap.size ≤ q) s.heap H locs → ∀ (ls : Array Slot), lv_has ls 5 [(4, .int (nI j4)), (3, .int y5), (0, .ref h0), (1, .ref wy), (2, .int (nI i))] → W p l e (headSpec (Cond.code yX8_rising cX8_rising 5 (some .int) :: GT) ({ frames := 4, cells := 0, slots := 0, locals := 88 } : Room)).room s m ([.ref h0, .ref wy, .int (nI i)] : List Value).toArray below meth c H locs 0 0 (MQ below (va_Qi (fun (r : Int32) (u : Unit) => match u with | _ => (True) ∧ True) (fun _ _ => True) (fun q : Nat => s.heap.size ≤ q)) ([.ref h0, .ref wy, .int (nI i)] : List Value).toArray s 0 0 (fun q : Nat => s.heap.size ≤ q)) (F0 m 17 ls []) := by
      intro nf
      induction nf with
      | zero => intro j4 h1 h2; exact absurd h1 (by omega)
      | succ nf ih17_6 =>
        intro j4 hn7 hj8 hlo_j4 y5 H locs hP hS ls hl
        refine lv_iload hx hb dX8_rising_17 (lv_at hl 0 rfl) ?_
        refine lv_bipush (v := 10) hx hb dX8_rising_19 rfl ?_
        refine lv_icmp_ge (tgt := 61) hx hb dX8_rising_21 rfl (fun c9 => ?_) (fun c9 => ?_)
        · skip
          have tn141_ : nIT j4 := fun _ => nI_toInt (by first | omega | (have t := leI c9; omega))
          have n10 : 10 ≤ j4 := by have t := leI c9; rw [show (nI (j4)).toInt = ((j4 : Nat) : Int) from tn141_ ()] at t; have : (10 : Int32).toInt = 10 := qI_10; omega
          refine lv_iload_n hx hb dX8_rising_61 rfl (lv_at hl 1 rfl) ?_
          have hpost : True := by
            trivial
          refine W.widen (k := 0) (n := 0) (Nat.le_of_ble_eq_true rfl) (Nat.le_of_ble_eq_true rfl) ?_
          exact W.iret (v := y5) hx hb hr (fun t ht hW => ⟨⟨y5, (), rfl, ⟨hpost, trivial⟩, trivial⟩, hS.F ht⟩) hS.2.2 dX8_rising_62
        · skip
          have tn142_ : nIT j4 := fun _ => nI_toInt (by first | omega | (have t := nleI c9; omega))
          have n11 : j4 < 10 := by have t := nleI c9; rw [show (nI (j4)).toInt = ((j4 : Nat) : Int) from tn142_ ()] at t; have : (10 : Int32).toInt = 10 := qI_10; omega
          refine lv_iload_n hx hb dX8_rising_24 rfl (lv_at hl 1 rfl) ?_
          refine lv_aload_n hx hb dX8_rising_25 rfl (lv_at hl 2 rfl) ?_
          refine va_get (D := (dC, dI)) (ci := 8) (v := .ref ti) (C := RX8) (T := TX8) (N := 3) hx hb hg inG8 hown hK.1 hP 0 rfl rfl 1 (Nat.le_of_ble_eq_true rfl) (hg _ wt_260) (fun _ h9 => h9) rfl dX8_rising_26 ?_
          refine lv_iload_n hx hb dX8_rising_29 rfl (lv_at hl 4 rfl) ?_
          refine va_aldA hx hb hK.1 hP 1 4 rfl rfl (vp_in_nI (by first | omega | (have t_c3 := neI c3; have t_hj8 := hj8; have t_hlo_j4 := hlo_j4; have t_n11 := n11; have : (20 : Int32).toInt = 20 := qI_20; have tnb_ := nib5 tn140_ tn137_ tn138_ tn139_ tn142_; omega)) (by decide)) dX8_rising_30 ?_
          refine lv_cgv (y := .ref (ri i)) (rowref (by first | omega | (have t_c3 := neI c3; have t_hj8 := hj8; have t_hlo_j4 := hlo_j4; have t_n11 := n11; have : (20 : Int32).toInt = 20 := qI_20; have tnb_ := nib5 tn140_ tn137_ tn138_ tn139_ tn142_; omega)) (by decide)) ?_
          refine lv_iload hx hb dX8_rising_31 (lv_at hl 0 rfl) ?_
          refine va_iald hx hb hK.1 (blk_P (j := i) hP (by first | omega | (have t_c3 := neI c3; have t_hj8 := hj8; have t_hlo_j4 := hlo_j4; have t_n11 := n11; have : (20 : Int32).toInt = 20 := qI_20; have tnb_ := nib5 tn140_ tn137_ tn138_ tn139_ tn142_; omega))) 0 0 rfl rfl (vp_in_nI (by first | omega | (have t_c3 := neI c3; have t_hj8 := hj8; have t_hlo_j4 := hlo_j4; have t_n11 := n11; have : (20 : Int32).toInt = 20 := qI_20; have tnb_ := nib5 tn140_ tn137_ tn138_ tn139_ tn142_; omega)) (by decide)) dX8_rising_33 ?_
          refine lv_cg (y := F i j4) (by rw [nI_clamp (by first | omega | (have t_c3 := neI c3; have t_hj8 := hj8; have t_hlo_j4 := hlo_j4; have t_n11 := n11; have : (20 : Int32).toInt = 20 := qI_20; have tnb_ := nib5 tn140_ tn137_ tn138_ tn139_ tn142_; omega))]) ?_
          refine lv_aload_n hx hb dX8_rising_34 rfl (lv_at hl 2 rfl) ?_
          refine va_get (D := (dC, dI)) (ci := 8) (v := .ref to) (C := RX8) (T := TX8) (N := 3) hx hb hg inG8 hown hK.1 hP 0 rfl rfl 2 (Nat.le_of_ble_eq_true rfl) (hg _ wt_261) (fun _ h9 => h9) rfl dX8_rising_35 ?_
          refine lv_iload_n hx hb dX8_rising_38 rfl (lv_at hl 4 rfl) ?_
          refine lv_iconst (v := 1) hx hb dX8_rising_39 rfl ?_
          refine lv_iadd hx hb dX8_rising_40 ?_
          refine lv_cg (y := nI (i + 1)) (by rw [show (1 : Int32) = nI 1 from rfl]; exact nI_add _ _) ?_
          refine va_aldA hx hb hK.1 hP 2 4 rfl rfl (vp_in_nI (by first | omega | (have t_c3 := neI c3; have t_hj8 := hj8; have t_hlo_j4 := hlo_j4; have t_n11 := n11; have : (20 : Int32).toInt = 20 := qI_20; have tnb_ := nib5 tn140_ tn137_ tn138_ tn139_ tn142_; omega)) (by decide)) dX8_rising_41 ?_
          refine lv_cgv (y := .ref (ro (i + 1))) (rowref (by first | omega | (have t_c3 := neI c3; have t_hj8 := hj8; have t_hlo_j4 := hlo_j4; have t_n11 := n11; have : (20 : Int32).toInt = 20 := qI_20; have tnb_ := nib5 tn140_ tn137_ tn138_ tn139_ tn142_; omega)) (by decide)) ?_
          refine lv_bipush (v := 9) hx hb dX8_rising_42 rfl ?_
          refine lv_iload hx hb dX8_rising_44 (lv_at hl 0 rfl) ?_
          refine lv_iconst (v := 1) hx hb dX8_rising_46 rfl ?_
          refine lv_iadd hx hb dX8_rising_47 ?_
          refine lv_cg (y := nI (j4 + 1)) (by rw [show (1 : Int32) = nI 1 from rfl]; exact nI_add _ _) ?_
          have hPc := hP.sub (ws' := []) [] rfl
          refine va_calli (va_runS (As := [.int 9, .int (nI (j4 + 1))]) (rest := [.ref (ro (i + 1)), .int (F i j4), .int y5]) ⟨hx, hb, hml, hown, hg⟩ (c_J9_min l dC dI G _ 9 (nI (j4 + 1))) (kwS hg mfJ9_min_7cf53 wt_776 ⟨Nat.le_of_ble_eq_true rfl, Nat.le_of_ble_eq_true rfl⟩) (preSR hK hPc) rfl rfl hl.1 rfl (lv_room (Nat.le_of_ble_eq_true rfl)) dX8_rising_48 ⟨Nat.le_of_ble_eq_true rfl, Nat.le_of_ble_eq_true rfl⟩) hS (fun q h1 h2 => absurd h2 (Nat.not_le.mpr h1)) (fun q h => hA q (Nat.le_trans hS.1 h)) (fun r12 ur12 t H1 locs ht hvm w13 hB hz1 hk1 hS => ?_)
          have hP := keepR hP hk1
          obtain ⟨w13, w13x⟩ := w13
          have w13 : r12 = nI (min 9 (j4 + 1)) := w13.trans (mn_nI (a := 9) (b := (j4 + 1)) (by omega) (by omega))
          subst w13
          refine va_iald hx hb hK.1 (blk_P2 (j := (i + 1)) hP (by first | omega | (have t_c3 := neI c3; have t_hj8 := hj8; have t_hlo_j4 := hlo_j4; have t_n11 := n11; have : (20 : Int32).toInt = 20 := qI_20; have tnb_ := nib5 tn140_ tn137_ tn138_ tn139_ tn142_; omega))) 0 0 rfl rfl (vp_in_nI (by first | omega | (have t_c3 := neI c3; have t_hj8 := hj8; have t_hlo_j4 := hlo_j4; have t_n11 := n11; have : (20 : Int32).toInt = 20 := qI_20; have tnb_ := nib5 tn140_ tn137_ tn138_ tn139_ tn142_; omega)) (by decide)) dX8_rising_51 ?_
          refine lv_cg (y := E (i + 1) (min 9 (j4 + 1))) (by rw [nI_clamp (by first | omega | (have t_c3 := neI c3; have t_hj8 := hj8; have t_hlo_j4 := hlo_j4; have t_n11 := n11; have : (20 : Int32).toInt = 20 := qI_20; have tnb_ := nib5 tn140_ tn137_ tn138_ tn139_ tn142_; omega))]) ?_
          refine lv_imul hx hb dX8_rising_52 ?_
          refine lv_topi (fun v14 ev14 => ?_)
          refine lv_iadd hx hb dX8_rising_53 ?_
          refine lv_istore_n (lv' := [(3, .int (y5 + v14)), (4, .int (nI j4)), (0, .ref h0), (1, .ref wy), (2, .int (nI i))]) hx hb dX8_rising_54 rfl hl (by decide) rfl (fun ls hl => ?_)
          refine lv_iinc (v := nI (j4 + 1)) (lv' := [(4, .int (nI (j4 + 1))), (3, .int (y5 + v14)), (0, .ref h0), (1, .ref wy), (2, .int (nI i))]) hx hb dX8_rising_55 hl (k := 1) rfl (by rw [show Int32.ofInt 1 = nI 1 from by decide]; exact nI_add _ _) (by decide) rfl (fun ls hl => ?_)
          refine lv_goto (tgt := 17) hx hb dX8_rising_58 rfl ?_
          exact ih17_6 (j4 + 1) (by omega) (by omega) (by omega) (y5 + v14) _ _ hP hS ls (lv_sub hl [0, 1, 2, 3, 4] rfl)
    exact loop17_6 (10 + 1) 1 (by omega) (by omega) (by omega) 0 _ _ hP hS ls (lv_sub hl [0, 1, 2, 3, 4] rfl)
  · skip
    refine lv_iconst (v := 0) hx hb dX8_rising_10 rfl ?_
    have hpost : True := by
      trivial
    refine W.widen (k := 0) (n := 0) (Nat.le_of_ble_eq_true rfl) (Nat.le_of_ble_eq_true rfl) ?_
    exact W.iret (v := 0) hx hb hr (fun t ht hW => ⟨⟨0, (), rfl, ⟨hpost, trivial⟩, trivial⟩, hS.F ht⟩) hS.2.2 dX8_rising_11

set_option maxHeartbeats 1000000 in
set_option maxRecDepth 100000 in
theorem c_X6_isSheet (l : Launch) (dC : Nat → ClassId) (dI : Nat → Nat → Nat) (G : Nat → ClassId) (sz : Nat) (i : Int32)  : Met l yX6_isSheet (Cond.code yX6_isSheet cX6_isSheet 1 (some .boolean) :: GT) ({ frames := 0, cells := 0, slots := 0, locals := 0 } : Room) (PcR [.int i] dC dI G [] sz) (va_Qi (fun (r : Int32) (u : Unit) => match u with | _ => (r = if 0 ≤ i.toInt ∧ i.toInt < 4 then 1 else 0) ∧ True) (fun _ _ => True) (fun q : Nat => sz ≤ q)) 0 0 (fun q : Nat => sz ≤ q) := by
  refine Met.ofW (cc := cX6_isSheet) (maxL := 1) (ret := (some .boolean)) (by decide) rfl ?_
  intro p e s m args below meth c s₁ Bd hml hv
  obtain ⟨rfl, hsz, hP, hK⟩ := hv
  have hx := Bd.exec
  have hb := Bd.bytes
  have hr := Bd.returns
  have hg : ∀ w ∈ GT, w.before ([.int i] : List Value).toArray s = true := fun w h => atoms_spec (ws := Cond.code yX6_isSheet cX6_isSheet 1 (some .boolean) :: GT) Bd.pre w (List.mem_cons_of_mem _ h)
  have hown : s.vm.findClass RX6 = some m.cls := findClass_of_methodNamed Bd.named
  have hlocks := Bd.notSynchronized
  subst hsz
  have hA : ∀ q : Nat, s.heap.size ≤ q → (fun q : Nat => s.heap.size ≤ q) q := fun _ h => h
  have hS : va_S (fun q : Nat => s.heap.size ≤ q) s.heap s.heap [] := va_S.rf
  have hl := lv_entry ([.int i]) (n := 1) (Nat.le_of_ble_eq_true rfl)
  rw [lg_entry_eq]
  generalize (lg_sl ([.int i]) ++ List.replicate (1 - (lg_sl ([.int i])).length) Slot.unset).toArray = ls at hl ⊢
  have hl : lv_has ls 1 [(0, .int i)] := hl
  refine lv_iload_n hx hb dX6_isSheet_0 rfl (lv_at hl 0 rfl) ?_
  refine lv_if_lt (tgt := 13) hx hb dX6_isSheet_1 rfl (fun c1 => ?_) (fun c1 => ?_)
  · skip
    refine lv_iconst (v := 0) hx hb dX6_isSheet_13 rfl ?_
    have hpost : (0 : Int32) = if 0 ≤ i.toInt ∧ i.toInt < 4 then 1 else 0 := by
      have t_c1 := ltI c1
      have : (0 : Int32).toInt = 0 := qI_0
      first | rfl | ((repeat' split) <;> first | rfl | omega)
    refine W.widen (k := 0) (n := 0) (Nat.le_of_ble_eq_true rfl) (Nat.le_of_ble_eq_true rfl) ?_
    exact W.zret (v := 0) hx hb hr (by first | rfl | decide | exact rfl) (fun t ht hW => ⟨⟨0, (), rfl, ⟨hpost, trivial⟩, trivial⟩, hS.F ht⟩) hS.2.2 dX6_isSheet_14
  · skip
    refine lv_iload_n hx hb dX6_isSheet_4 rfl (lv_at hl 0 rfl) ?_
    refine lv_iconst (v := 4) hx hb dX6_isSheet_5 rfl ?_
    refine lv_icmp_ge (tgt := 13) hx hb dX6_isSheet_6 rfl (fun c2 => ?_) (fun c2 => ?_)
    · skip
      refine lv_iconst (v := 0) hx hb dX6_isSheet_13 rfl ?_
      have hpost : (0 : Int32) = if 0 ≤ i.toInt ∧ i.toInt < 4 then 1 else 0 := by
        have t_c1 := nltI c1
        have t_c2 := leI c2
        have : (0 : Int32).toInt = 0 := qI_0
        have : (4 : Int32).toInt = 4 := qI_4
        first | rfl | ((repeat' split) <;> first | rfl | omega)
      refine W.widen (k := 0) (n := 0) (Nat.le_of_ble_eq_true rfl) (Nat.le_of_ble_eq_true rfl) ?_
      exact W.zret (v := 0) hx hb hr (by first | rfl | decide | exact rfl) (fun t ht hW => ⟨⟨0, (), rfl, ⟨hpost, trivial⟩, trivial⟩, hS.F ht⟩) hS.2.2 dX6_isSheet_14
    · skip
      refine lv_iconst (v := 1) hx hb dX6_isSheet_9 rfl ?_
      refine lv_goto (tgt := 14) hx hb dX6_isSheet_10 rfl ?_
      have hpost : (1 : Int32) = if 0 ≤ i.toInt ∧ i.toInt < 4 then 1 else 0 := by
        have t_c1 := nltI c1
        have t_c2 := nleI c2
        have : (0 : Int32).toInt = 0 := qI_0
        have : (4 : Int32).toInt = 4 := qI_4
        first | rfl | ((repeat' split) <;> first | rfl | omega)
      refine W.widen (k := 0) (n := 0) (Nat.le_of_ble_eq_true rfl) (Nat.le_of_ble_eq_true rfl) ?_
      exact W.zret (v := 1) hx hb hr (by first | rfl | decide | exact rfl) (fun t ht hW => ⟨⟨1, (), rfl, ⟨hpost, trivial⟩, trivial⟩, hS.F ht⟩) hS.2.2 dX6_isSheet_14

set_option maxHeartbeats 1000000 in
set_option maxRecDepth 100000 in
theorem c_X6_isLane (l : Launch) (dC : Nat → ClassId) (dI : Nat → Nat → Nat) (G : Nat → ClassId) (sz : Nat) (i : Int32)  : Met l yX6_isLane (Cond.code yX6_isLane cX6_isLane 1 (some .boolean) :: GT) ({ frames := 0, cells := 0, slots := 0, locals := 0 } : Room) (PcR [.int i] dC dI G [] sz) (va_Qi (fun (r : Int32) (u : Unit) => match u with | _ => (r = if 0 ≤ i.toInt ∧ i.toInt ≤ 2 then 1 else 0) ∧ True) (fun _ _ => True) (fun q : Nat => sz ≤ q)) 0 0 (fun q : Nat => sz ≤ q) := by
  refine Met.ofW (cc := cX6_isLane) (maxL := 1) (ret := (some .boolean)) (by decide) rfl ?_
  intro p e s m args below meth c s₁ Bd hml hv
  obtain ⟨rfl, hsz, hP, hK⟩ := hv
  have hx := Bd.exec
  have hb := Bd.bytes
  have hr := Bd.returns
  have hg : ∀ w ∈ GT, w.before ([.int i] : List Value).toArray s = true := fun w h => atoms_spec (ws := Cond.code yX6_isLane cX6_isLane 1 (some .boolean) :: GT) Bd.pre w (List.mem_cons_of_mem _ h)
  have hown : s.vm.findClass RX6 = some m.cls := findClass_of_methodNamed Bd.named
  have hlocks := Bd.notSynchronized
  subst hsz
  have hA : ∀ q : Nat, s.heap.size ≤ q → (fun q : Nat => s.heap.size ≤ q) q := fun _ h => h
  have hS : va_S (fun q : Nat => s.heap.size ≤ q) s.heap s.heap [] := va_S.rf
  have hl := lv_entry ([.int i]) (n := 1) (Nat.le_of_ble_eq_true rfl)
  rw [lg_entry_eq]
  generalize (lg_sl ([.int i]) ++ List.replicate (1 - (lg_sl ([.int i])).length) Slot.unset).toArray = ls at hl ⊢
  have hl : lv_has ls 1 [(0, .int i)] := hl
  refine lv_iload_n hx hb dX6_isLane_0 rfl (lv_at hl 0 rfl) ?_
  refine lv_if_lt (tgt := 13) hx hb dX6_isLane_1 rfl (fun c1 => ?_) (fun c1 => ?_)
  · skip
    refine lv_iconst (v := 0) hx hb dX6_isLane_13 rfl ?_
    have hpost : (0 : Int32) = if 0 ≤ i.toInt ∧ i.toInt ≤ 2 then 1 else 0 := by
      have t_c1 := ltI c1
      have : (0 : Int32).toInt = 0 := qI_0
      first | rfl | ((repeat' split) <;> first | rfl | omega)
    refine W.widen (k := 0) (n := 0) (Nat.le_of_ble_eq_true rfl) (Nat.le_of_ble_eq_true rfl) ?_
    exact W.zret (v := 0) hx hb hr (by first | rfl | decide | exact rfl) (fun t ht hW => ⟨⟨0, (), rfl, ⟨hpost, trivial⟩, trivial⟩, hS.F ht⟩) hS.2.2 dX6_isLane_14
  · skip
    refine lv_iload_n hx hb dX6_isLane_4 rfl (lv_at hl 0 rfl) ?_
    refine lv_iconst (v := 2) hx hb dX6_isLane_5 rfl ?_
    refine lv_icmp_gt (tgt := 13) hx hb dX6_isLane_6 rfl (fun c2 => ?_) (fun c2 => ?_)
    · skip
      refine lv_iconst (v := 0) hx hb dX6_isLane_13 rfl ?_
      have hpost : (0 : Int32) = if 0 ≤ i.toInt ∧ i.toInt ≤ 2 then 1 else 0 := by
        have t_c1 := nltI c1
        have t_c2 := ltI c2
        have : (0 : Int32).toInt = 0 := qI_0
        have : (2 : Int32).toInt = 2 := qI_2
        first | rfl | ((repeat' split) <;> first | rfl | omega)
      refine W.widen (k := 0) (n := 0) (Nat.le_of_ble_eq_true rfl) (Nat.le_of_ble_eq_true rfl) ?_
      exact W.zret (v := 0) hx hb hr (by first | rfl | decide | exact rfl) (fun t ht hW => ⟨⟨0, (), rfl, ⟨hpost, trivial⟩, trivial⟩, hS.F ht⟩) hS.2.2 dX6_isLane_14
    · skip
      refine lv_iconst (v := 1) hx hb dX6_isLane_9 rfl ?_
      refine lv_goto (tgt := 14) hx hb dX6_isLane_10 rfl ?_
      have hpost : (1 : Int32) = if 0 ≤ i.toInt ∧ i.toInt ≤ 2 then 1 else 0 := by
        have t_c1 := nltI c1
        have t_c2 := nltI c2
        have : (0 : Int32).toInt = 0 := qI_0
        have : (2 : Int32).toInt = 2 := qI_2
        first | rfl | ((repeat' split) <;> first | rfl | omega)
      refine W.widen (k := 0) (n := 0) (Nat.le_of_ble_eq_true rfl) (Nat.le_of_ble_eq_true rfl) ?_
      exact W.zret (v := 1) hx hb hr (by first | rfl | decide | exact rfl) (fun t ht hW => ⟨⟨1, (), rfl, ⟨hpost, trivial⟩, trivial⟩, hS.F ht⟩) hS.2.2 dX6_isLane_14

set_option maxHeartbeats 1000000 in
set_option maxRecDepth 100000 in
theorem c_X6_sizeOf (l : Launch) (dC : Nat → ClassId) (dI : Nat → Nat → Nat) (G : Nat → ClassId) (sz : Nat) (h0 la si ce fi se k : Nat) (x8 x9 : Int32) (fl fz : Nat → Int32) (hk : k < 4) : Met l yX6_sizeOf (Cond.code yX6_sizeOf cX6_sizeOf 2 (some .int) :: GT) ({ frames := 0, cells := 0, slots := 0, locals := 0 } : Room) (PcR [.ref h0, .int (nI k)] dC dI G [(h0, .inr (6, [.ref la, .ref si, .ref ce, .int x8, .int x9, .ref fi, .ref se])), (la, .inl (G 0, 4, .inl fl)), (si, .inl (G 0, 4, .inl fz))] sz) (va_Qi (fun (r : Int32) (u : Unit) => match u with | _ => (r = if fl k = -1 then -4 else fz k) ∧ True) (fun _ _ => True) (fun q : Nat => sz ≤ q)) 0 0 (fun q : Nat => sz ≤ q) := by
  refine Met.ofW (cc := cX6_sizeOf) (maxL := 2) (ret := (some .int)) (by decide) rfl ?_
  intro p e s m args below meth c s₁ Bd hml hv
  obtain ⟨rfl, hsz, hP, hK⟩ := hv
  have hx := Bd.exec
  have hb := Bd.bytes
  have hr := Bd.returns
  have hg : ∀ w ∈ GT, w.before ([.ref h0, .int (nI k)] : List Value).toArray s = true := fun w h => atoms_spec (ws := Cond.code yX6_sizeOf cX6_sizeOf 2 (some .int) :: GT) Bd.pre w (List.mem_cons_of_mem _ h)
  have hown : s.vm.findClass RX6 = some m.cls := findClass_of_methodNamed Bd.named
  have hlocks := Bd.notSynchronized
  subst hsz
  have hA : ∀ q : Nat, s.heap.size ≤ q → (fun q : Nat => s.heap.size ≤ q) q := fun _ h => h
  have hS : va_S (fun q : Nat => s.heap.size ≤ q) s.heap s.heap [] := va_S.rf
  have hl := lv_entry ([.ref h0, .int (nI k)]) (n := 2) (Nat.le_of_ble_eq_true rfl)
  rw [lg_entry_eq]
  generalize (lg_sl ([.ref h0, .int (nI k)]) ++ List.replicate (2 - (lg_sl ([.ref h0, .int (nI k)])).length) Slot.unset).toArray = ls at hl ⊢
  have hl : lv_has ls 2 [(0, .ref h0), (1, .int (nI k))] := hl
  refine lv_aload_n hx hb dX6_sizeOf_0 rfl (lv_at hl 0 rfl) ?_
  refine va_get (D := (dC, dI)) (ci := 6) (v := .ref la) (C := RX6) (T := TX6) (N := 7) hx hb hg inG6 hown hK.1 hP 0 rfl rfl 0 (Nat.le_of_ble_eq_true rfl) (hg _ wt_276) (fun _ h9 => h9) rfl dX6_sizeOf_1 ?_
  refine lv_iload_n hx hb dX6_sizeOf_4 rfl (lv_at hl 1 rfl) ?_
  have tn143_ : nIT k := fun _ => nI_toInt (by omega)
  refine va_iald hx hb hK.1 hP 1 0 rfl rfl (vp_in_nI (by first | omega | (have t_n0 : (nI k).toInt = (k : Int) := tn143_ (); omega)) (by decide)) dX6_sizeOf_5 ?_
  refine lv_cg (y := fl k) (by rw [nI_clamp (by omega)]) ?_
  refine lv_iconst (v := (-1)) hx hb dX6_sizeOf_6 rfl ?_
  refine lv_icmp_ne (tgt := 15) hx hb dX6_sizeOf_7 rfl (fun c1 => ?_) (fun c1 => ?_)
  · skip
    refine lv_aload_n hx hb dX6_sizeOf_15 rfl (lv_at hl 0 rfl) ?_
    refine va_get (D := (dC, dI)) (ci := 6) (v := .ref si) (C := RX6) (T := TX6) (N := 7) hx hb hg inG6 hown hK.1 hP 0 rfl rfl 1 (Nat.le_of_ble_eq_true rfl) (hg _ wt_277) (fun _ h9 => h9) rfl dX6_sizeOf_16 ?_
    refine lv_iload_n hx hb dX6_sizeOf_19 rfl (lv_at hl 1 rfl) ?_
    refine va_iald hx hb hK.1 hP 2 0 rfl rfl (vp_in_nI (by first | omega | (have t_c1 := neI c1; have : ((-1) : Int32).toInt = -1 := qI_m1; have t_n0 : (nI k).toInt = (k : Int) := tn143_ (); omega)) (by decide)) dX6_sizeOf_20 ?_
    refine lv_cg (y := fz k) (by rw [nI_clamp (by omega)]) ?_
    have hpost : (fz k : Int32) = if fl k = -1 then -4 else fz k := by
      (split <;> first | rfl | contradiction)
    refine W.widen (k := 0) (n := 0) (Nat.le_of_ble_eq_true rfl) (Nat.le_of_ble_eq_true rfl) ?_
    exact W.iret (v := fz k) hx hb hr (fun t ht hW => ⟨⟨fz k, (), rfl, ⟨hpost, trivial⟩, trivial⟩, hS.F ht⟩) hS.2.2 dX6_sizeOf_21
  · skip
    refine lv_bipush (v := (-4)) hx hb dX6_sizeOf_10 rfl ?_
    refine lv_goto (tgt := 21) hx hb dX6_sizeOf_12 rfl ?_
    have hpost : ((-4) : Int32) = if fl k = -1 then -4 else fz k := by
      (split <;> first | rfl | contradiction)
    refine W.widen (k := 0) (n := 0) (Nat.le_of_ble_eq_true rfl) (Nat.le_of_ble_eq_true rfl) ?_
    exact W.iret (v := (-4)) hx hb hr (fun t ht hW => ⟨⟨(-4), (), rfl, ⟨hpost, trivial⟩, trivial⟩, hS.F ht⟩) hS.2.2 dX6_sizeOf_21

set_option maxHeartbeats 1000000 in
set_option maxRecDepth 100000 in
theorem c_X6_faultAt (l : Launch) (dC : Nat → ClassId) (dI : Nat → Nat → Nat) (G : Nat → ClassId) (sz : Nat) (h0 la si ce fi se k : Nat) (x8 x9 : Int32) (v : Int64) (fl fz : Nat → Int32) (hk : k < 4) : Met l yX6_faultAt (Cond.code yX6_faultAt cX6_faultAt 4 (some .int) :: GT) ({ frames := 0, cells := 0, slots := 0, locals := 0 } : Room) (PcR [.ref h0, .int (nI k), .long v] dC dI G [(h0, .inr (6, [.ref la, .ref si, .ref ce, .int x8, .int x9, .ref fi, .ref se])), (la, .inl (G 0, 4, .inl fl)), (si, .inl (G 0, 4, .inl fz))] sz) (va_Qi (fun (r : Int32) (u : Unit) => match u with | _ => (r = if fl k = -1 then 1 else if v.toInt < 0 ∨ (fz k).toInt ≤ v.toInt then 2 else 0) ∧ True) (fun _ _ => True) (fun q : Nat => sz ≤ q)) 0 0 (fun q : Nat => sz ≤ q) := by
  refine Met.ofW (cc := cX6_faultAt) (maxL := 4) (ret := (some .int)) (by decide) rfl ?_
  intro p e s m args below meth c s₁ Bd hml hv
  obtain ⟨rfl, hsz, hP, hK⟩ := hv
  have hx := Bd.exec
  have hb := Bd.bytes
  have hr := Bd.returns
  have hg : ∀ w ∈ GT, w.before ([.ref h0, .int (nI k), .long v] : List Value).toArray s = true := fun w h => atoms_spec (ws := Cond.code yX6_faultAt cX6_faultAt 4 (some .int) :: GT) Bd.pre w (List.mem_cons_of_mem _ h)
  have hown : s.vm.findClass RX6 = some m.cls := findClass_of_methodNamed Bd.named
  have hlocks := Bd.notSynchronized
  subst hsz
  have hA : ∀ q : Nat, s.heap.size ≤ q → (fun q : Nat => s.heap.size ≤ q) q := fun _ h => h
  have hS : va_S (fun q : Nat => s.heap.size ≤ q) s.heap s.heap [] := va_S.rf
  have hl := lv_entry ([.ref h0, .int (nI k), .long v]) (n := 4) (Nat.le_of_ble_eq_true rfl)
  rw [lg_entry_eq]
  generalize (lg_sl ([.ref h0, .int (nI k), .long v]) ++ List.replicate (4 - (lg_sl ([.ref h0, .int (nI k), .long v])).length) Slot.unset).toArray = ls at hl ⊢
  have hl : lv_has ls 4 [(0, .ref h0), (1, .int (nI k)), (2, .long v)] := hl
  refine lv_aload_n hx hb dX6_faultAt_0 rfl (lv_at hl 0 rfl) ?_
  refine va_get (D := (dC, dI)) (ci := 6) (v := .ref la) (C := RX6) (T := TX6) (N := 7) hx hb hg inG6 hown hK.1 hP 0 rfl rfl 0 (Nat.le_of_ble_eq_true rfl) (hg _ wt_276) (fun _ h9 => h9) rfl dX6_faultAt_1 ?_
  refine lv_iload_n hx hb dX6_faultAt_4 rfl (lv_at hl 1 rfl) ?_
  have tn144_ : nIT k := fun _ => nI_toInt (by omega)
  refine va_iald hx hb hK.1 hP 1 0 rfl rfl (vp_in_nI (by first | omega | (have t_n0 : (nI k).toInt = (k : Int) := tn144_ (); omega)) (by decide)) dX6_faultAt_5 ?_
  refine lv_cg (y := fl k) (by rw [nI_clamp (by omega)]) ?_
  refine lv_iconst (v := (-1)) hx hb dX6_faultAt_6 rfl ?_
  refine lv_icmp_ne (tgt := 12) hx hb dX6_faultAt_7 rfl (fun c1 => ?_) (fun c1 => ?_)
  · skip
    refine lv_lload_n hx hb dX6_faultAt_12 rfl (lv_at hl 2 rfl) ?_
    refine lv_lconst (v := 0) hx hb dX6_faultAt_13 (by decide) ?_
    refine W.lcmp hx hb dX6_faultAt_14 ?_
    refine lv_if_lt (tgt := 30) hx hb dX6_faultAt_15 rfl (fun c2 => ?_) (fun c2 => ?_)
    · skip
      refine lv_iconst (v := 2) hx hb dX6_faultAt_30 rfl ?_
      refine lv_goto (tgt := 35) hx hb dX6_faultAt_31 rfl ?_
      have hpost : (2 : Int32) = if fl k = -1 then 1 else if v.toInt < 0 ∨ (fz k).toInt ≤ v.toInt then 2 else 0 := by
        have t_c1 := neI c1
        have t_c2 := lcm_lt_t c2
        have : ((-1) : Int32).toInt = -1 := qI_m1
        have : (0 : Int64).toInt = 0 := qL_0
        have t_n0 : (nI k).toInt = (k : Int) := tn144_ ()
        try rw [l_ii] at *
        (repeat' split) <;> first | rfl | contradiction | omega
      refine W.widen (k := 0) (n := 0) (Nat.le_of_ble_eq_true rfl) (Nat.le_of_ble_eq_true rfl) ?_
      exact W.iret (v := 2) hx hb hr (fun t ht hW => ⟨⟨2, (), rfl, ⟨hpost, trivial⟩, trivial⟩, hS.F ht⟩) hS.2.2 dX6_faultAt_35
    · skip
      refine lv_lload_n hx hb dX6_faultAt_18 rfl (lv_at hl 2 rfl) ?_
      refine lv_aload_n hx hb dX6_faultAt_19 rfl (lv_at hl 0 rfl) ?_
      refine va_get (D := (dC, dI)) (ci := 6) (v := .ref si) (C := RX6) (T := TX6) (N := 7) hx hb hg inG6 hown hK.1 hP 0 rfl rfl 1 (Nat.le_of_ble_eq_true rfl) (hg _ wt_277) (fun _ h9 => h9) rfl dX6_faultAt_20 ?_
      refine lv_iload_n hx hb dX6_faultAt_23 rfl (lv_at hl 1 rfl) ?_
      refine va_iald hx hb hK.1 hP 2 0 rfl rfl (vp_in_nI (by first | omega | (have t_c1 := neI c1; have t_c2 := lcm_lt_f c2; have tqz_ := qz1_; have t_n0 : (nI k).toInt = (k : Int) := tn144_ (); omega)) (by decide)) dX6_faultAt_24 ?_
      refine lv_cg (y := fz k) (by rw [nI_clamp (by omega)]) ?_
      refine lv_i2l (v := (fz k).toInt64) hx hb dX6_faultAt_25 rfl ?_
      refine W.lcmp hx hb dX6_faultAt_26 ?_
      refine lv_if_lt (tgt := 34) hx hb dX6_faultAt_27 rfl (fun c3 => ?_) (fun c3 => ?_)
      · skip
        refine lv_iconst (v := 0) hx hb dX6_faultAt_34 rfl ?_
        have hpost : (0 : Int32) = if fl k = -1 then 1 else if v.toInt < 0 ∨ (fz k).toInt ≤ v.toInt then 2 else 0 := by
          have t_c1 := neI c1
          have t_c2 := lcm_lt_f c2
          have t_c3 := lcm_lt_t c3
          have : ((-1) : Int32).toInt = -1 := qI_m1
          have : (0 : Int64).toInt = 0 := qL_0
          have t_n0 : (nI k).toInt = (k : Int) := tn144_ ()
          try rw [l_ii] at *
          (repeat' split) <;> first | rfl | contradiction | omega
        refine W.widen (k := 0) (n := 0) (Nat.le_of_ble_eq_true rfl) (Nat.le_of_ble_eq_true rfl) ?_
        exact W.iret (v := 0) hx hb hr (fun t ht hW => ⟨⟨0, (), rfl, ⟨hpost, trivial⟩, trivial⟩, hS.F ht⟩) hS.2.2 dX6_faultAt_35
      · skip
        refine lv_iconst (v := 2) hx hb dX6_faultAt_30 rfl ?_
        refine lv_goto (tgt := 35) hx hb dX6_faultAt_31 rfl ?_
        have hpost : (2 : Int32) = if fl k = -1 then 1 else if v.toInt < 0 ∨ (fz k).toInt ≤ v.toInt then 2 else 0 := by
          have t_c1 := neI c1
          have t_c2 := lcm_lt_f c2
          have t_c3 := lcm_lt_f c3
          have : ((-1) : Int32).toInt = -1 := qI_m1
          have : (0 : Int64).toInt = 0 := qL_0
          have t_n0 : (nI k).toInt = (k : Int) := tn144_ ()
          try rw [l_ii] at *
          (repeat' split) <;> first | rfl | contradiction | omega
        refine W.widen (k := 0) (n := 0) (Nat.le_of_ble_eq_true rfl) (Nat.le_of_ble_eq_true rfl) ?_
        exact W.iret (v := 2) hx hb hr (fun t ht hW => ⟨⟨2, (), rfl, ⟨hpost, trivial⟩, trivial⟩, hS.F ht⟩) hS.2.2 dX6_faultAt_35
  · skip
    refine lv_iconst (v := 1) hx hb dX6_faultAt_10 rfl ?_
    have hpost : (1 : Int32) = if fl k = -1 then 1 else if v.toInt < 0 ∨ (fz k).toInt ≤ v.toInt then 2 else 0 := by
      have t_c1 := eqI c1
      have : ((-1) : Int32).toInt = -1 := qI_m1
      have t_n0 : (nI k).toInt = (k : Int) := tn144_ ()
      try rw [l_ii] at *
      (repeat' split) <;> first | rfl | contradiction | omega
    refine W.widen (k := 0) (n := 0) (Nat.le_of_ble_eq_true rfl) (Nat.le_of_ble_eq_true rfl) ?_
    exact W.iret (v := 1) hx hb hr (fun t ht hW => ⟨⟨1, (), rfl, ⟨hpost, trivial⟩, trivial⟩, hS.F ht⟩) hS.2.2 dX6_faultAt_11

set_option maxHeartbeats 1000000 in
set_option maxRecDepth 100000 in
theorem c_X9_copyOf (l : Launch) (dC : Nat → ClassId) (dI : Nat → Nat → Nat) (G : Nat → ClassId) (sz : Nat) (h0 o0 a1 a2 a3 a4 a5 a6 c1 c2 c3 c4 c5 c6 : Nat) (x1 x2 x3 y1 y2 y3 : Int32) (f1 f2 f3 f4 f5 f6 z1 z2 z3 z4 z5 z6 : Nat → Int32)  : Met l yX9_copyOf (Cond.code yX9_copyOf cX9_copyOf 2 none :: GT) ({ frames := 1, cells := 0, slots := 0, locals := 100 } : Room) (PcW [.ref h0, .ref o0] dC dI G [(h0, .inr (9, [.int x1, .int x2, .int x3, .ref a1, .ref a2, .ref a3, .ref a4, .ref a5, .ref a6])), (a1, .inl (G 0, 10, .inl f1)), (a2, .inl (G 0, 10, .inl f2)), (a3, .inl (G 0, 10, .inl f3)), (a4, .inl (G 0, 6, .inl f4)), (a5, .inl (G 0, 6, .inl f5)), (a6, .inl (G 0, 6, .inl f6)), (o0, .inr (9, [.int y1, .int y2, .int y3, .ref c1, .ref c2, .ref c3, .ref c4, .ref c5, .ref c6])), (c1, .inl (G 0, 10, .inl z1)), (c2, .inl (G 0, 10, .inl z2)), (c3, .inl (G 0, 10, .inl z3)), (c4, .inl (G 0, 6, .inl z4)), (c5, .inl (G 0, 6, .inl z5)), (c6, .inl (G 0, 6, .inl z6))] sz) (va_Qv (fun (u : (Nat → Int32) × (Nat → Int32) × (Nat → Int32) × (Nat → Int32) × (Nat → Int32) × (Nat → Int32)) => match u with | (u1, u2, u3, u4, u5, u6) => True) (fun (u : (Nat → Int32) × (Nat → Int32) × (Nat → Int32) × (Nat → Int32) × (Nat → Int32) × (Nat → Int32)) (t : State) => match u with | (u1, u2, u3, u4, u5, u6) => va_P (dC, dI) vwCl [(h0, .inr (9, [.int y1, .int y2, .int y3, .ref a1, .ref a2, .ref a3, .ref a4, .ref a5, .ref a6])), (a1, .inl (G 0, 10, .inl u1)), (a2, .inl (G 0, 10, .inl u2)), (a3, .inl (G 0, 10, .inl u3)), (a4, .inl (G 0, 6, .inl u4)), (a5, .inl (G 0, 6, .inl u5)), (a6, .inl (G 0, 6, .inl u6)), (o0, .inr (9, [.int y1, .int y2, .int y3, .ref c1, .ref c2, .ref c3, .ref c4, .ref c5, .ref c6])), (c1, .inl (G 0, 10, .inl z1)), (c2, .inl (G 0, 10, .inl z2)), (c3, .inl (G 0, 10, .inl z3)), (c4, .inl (G 0, 6, .inl z4)), (c5, .inl (G 0, 6, .inl z5)), (c6, .inl (G 0, 6, .inl z6))] t.heap ∧ va_D (va_A [(h0, .inr (9, [.int x1, .int x2, .int x3, .ref a1, .ref a2, .ref a3, .ref a4, .ref a5, .ref a6])), (a1, .inl (G 0, 10, .inl f1)), (a2, .inl (G 0, 10, .inl f2)), (a3, .inl (G 0, 10, .inl f3)), (a4, .inl (G 0, 6, .inl f4)), (a5, .inl (G 0, 6, .inl f5)), (a6, .inl (G 0, 6, .inl f6)), (o0, .inr (9, [.int y1, .int y2, .int y3, .ref c1, .ref c2, .ref c3, .ref c4, .ref c5, .ref c6])), (c1, .inl (G 0, 10, .inl z1)), (c2, .inl (G 0, 10, .inl z2)), (c3, .inl (G 0, 10, .inl z3)), (c4, .inl (G 0, 6, .inl z4)), (c5, .inl (G 0, 6, .inl z5)), (c6, .inl (G 0, 6, .inl z6))] sz) [(h0, .inr (9, [.int y1, .int y2, .int y3, .ref a1, .ref a2, .ref a3, .ref a4, .ref a5, .ref a6])), (a1, .inl (G 0, 10, .inl u1)), (a2, .inl (G 0, 10, .inl u2)), (a3, .inl (G 0, 10, .inl u3)), (a4, .inl (G 0, 6, .inl u4)), (a5, .inl (G 0, 6, .inl u5)), (a6, .inl (G 0, 6, .inl u6)), (o0, .inr (9, [.int y1, .int y2, .int y3, .ref c1, .ref c2, .ref c3, .ref c4, .ref c5, .ref c6])), (c1, .inl (G 0, 10, .inl z1)), (c2, .inl (G 0, 10, .inl z2)), (c3, .inl (G 0, 10, .inl z3)), (c4, .inl (G 0, 6, .inl z4)), (c5, .inl (G 0, 6, .inl z5)), (c6, .inl (G 0, 6, .inl z6))]) (va_A [(h0, .inr (9, [.int x1, .int x2, .int x3, .ref a1, .ref a2, .ref a3, .ref a4, .ref a5, .ref a6])), (a1, .inl (G 0, 10, .inl f1)), (a2, .inl (G 0, 10, .inl f2)), (a3, .inl (G 0, 10, .inl f3)), (a4, .inl (G 0, 6, .inl f4)), (a5, .inl (G 0, 6, .inl f5)), (a6, .inl (G 0, 6, .inl f6)), (o0, .inr (9, [.int y1, .int y2, .int y3, .ref c1, .ref c2, .ref c3, .ref c4, .ref c5, .ref c6])), (c1, .inl (G 0, 10, .inl z1)), (c2, .inl (G 0, 10, .inl z2)), (c3, .inl (G 0, 10, .inl z3)), (c4, .inl (G 0, 6, .inl z4)), (c5, .inl (G 0, 6, .inl z5)), (c6, .inl (G 0, 6, .inl z6))] sz)) 0 0 (va_A [(h0, .inr (9, [.int x1, .int x2, .int x3, .ref a1, .ref a2, .ref a3, .ref a4, .ref a5, .ref a6])), (a1, .inl (G 0, 10, .inl f1)), (a2, .inl (G 0, 10, .inl f2)), (a3, .inl (G 0, 10, .inl f3)), (a4, .inl (G 0, 6, .inl f4)), (a5, .inl (G 0, 6, .inl f5)), (a6, .inl (G 0, 6, .inl f6)), (o0, .inr (9, [.int y1, .int y2, .int y3, .ref c1, .ref c2, .ref c3, .ref c4, .ref c5, .ref c6])), (c1, .inl (G 0, 10, .inl z1)), (c2, .inl (G 0, 10, .inl z2)), (c3, .inl (G 0, 10, .inl z3)), (c4, .inl (G 0, 6, .inl z4)), (c5, .inl (G 0, 6, .inl z5)), (c6, .inl (G 0, 6, .inl z6))] sz) := by
  refine Met.ofW (cc := cX9_copyOf) (maxL := 2) (ret := none) (by decide) rfl ?_
  intro p e s m args below meth c s₁ Bd hml hv
  obtain ⟨rfl, hsz, hP, hK, hD0⟩ := hv
  have hx := Bd.exec
  have hb := Bd.bytes
  have hr := Bd.returns
  have hg : ∀ w ∈ GT, w.before ([.ref h0, .ref o0] : List Value).toArray s = true := fun w h => atoms_spec (ws := Cond.code yX9_copyOf cX9_copyOf 2 none :: GT) Bd.pre w (List.mem_cons_of_mem _ h)
  have hown : s.vm.findClass RX9 = some m.cls := findClass_of_methodNamed Bd.named
  have hlocks := Bd.notSynchronized
  subst hsz
  have hD := hD0.self (sz := s.heap.size)
  generalize hAe : va_A [(h0, .inr (9, [.int x1, .int x2, .int x3, .ref a1, .ref a2, .ref a3, .ref a4, .ref a5, .ref a6])), (a1, .inl (G 0, 10, .inl f1)), (a2, .inl (G 0, 10, .inl f2)), (a3, .inl (G 0, 10, .inl f3)), (a4, .inl (G 0, 6, .inl f4)), (a5, .inl (G 0, 6, .inl f5)), (a6, .inl (G 0, 6, .inl f6)), (o0, .inr (9, [.int y1, .int y2, .int y3, .ref c1, .ref c2, .ref c3, .ref c4, .ref c5, .ref c6])), (c1, .inl (G 0, 10, .inl z1)), (c2, .inl (G 0, 10, .inl z2)), (c3, .inl (G 0, 10, .inl z3)), (c4, .inl (G 0, 6, .inl z4)), (c5, .inl (G 0, 6, .inl z5)), (c6, .inl (G 0, 6, .inl z6))] s.heap.size = A at hD ⊢
  have hA : ∀ q : Nat, s.heap.size ≤ q → A q := fun q h => by rw [← hAe]; exact Or.inr h
  have hS : va_S A s.heap s.heap [] := va_S.rf
  have hl := lv_entry ([.ref h0, .ref o0]) (n := 2) (Nat.le_of_ble_eq_true rfl)
  rw [lg_entry_eq]
  generalize (lg_sl ([.ref h0, .ref o0]) ++ List.replicate (2 - (lg_sl ([.ref h0, .ref o0])).length) Slot.unset).toArray = ls at hl ⊢
  have hl : lv_has ls 2 [(0, .ref h0), (1, .ref o0)] := hl
  refine lv_aload_n hx hb dX9_copyOf_0 rfl (lv_at hl 0 rfl) ?_
  refine lv_aload_n hx hb dX9_copyOf_1 rfl (lv_at hl 1 rfl) ?_
  refine va_get (D := (dC, dI)) (ci := 9) (v := .int y1) (C := RX9) (T := TX9) (N := 9) hx hb hg inG9 hown hK.1 hP 7 rfl rfl 0 (Nat.le_of_ble_eq_true rfl) (hg _ wt_56) (fun _ h9 => h9) rfl dX9_copyOf_2 ?_
  refine va_put (D := (dC, dI)) (ci := 9) (v := .int y1) (ty := .int) (C := RX9) (T := TX9) (N := 9) hx hb hg inG9 tyX9 tyX9_ok nmX9 hown hK.1 hP hD hS 0 rfl rfl 0 (Nat.le_of_ble_eq_true rfl) (hg _ wt_56) (fun _ h9 => h9) rfl (by decide +kernel) rfl rfl (Nat.le_of_ble_eq_true rfl) dX9_copyOf_5 (fun H locs hP hD hS => ?_)
  refine lv_aload_n hx hb dX9_copyOf_8 rfl (lv_at hl 0 rfl) ?_
  refine lv_aload_n hx hb dX9_copyOf_9 rfl (lv_at hl 1 rfl) ?_
  refine va_get (D := (dC, dI)) (ci := 9) (v := .int y2) (C := RX9) (T := TX9) (N := 9) hx hb hg inG9 hown hK.1 hP 7 rfl rfl 1 (Nat.le_of_ble_eq_true rfl) (hg _ wt_62) (fun _ h9 => h9) rfl dX9_copyOf_10 ?_
  refine va_put (D := (dC, dI)) (ci := 9) (v := .int y2) (ty := .int) (C := RX9) (T := TX9) (N := 9) hx hb hg inG9 tyX9 tyX9_ok nmX9 hown hK.1 hP hD hS 0 rfl rfl 1 (Nat.le_of_ble_eq_true rfl) (hg _ wt_62) (fun _ h9 => h9) rfl (by decide +kernel) rfl rfl (Nat.le_of_ble_eq_true rfl) dX9_copyOf_13 (fun H locs hP hD hS => ?_)
  refine lv_aload_n hx hb dX9_copyOf_16 rfl (lv_at hl 0 rfl) ?_
  refine lv_aload_n hx hb dX9_copyOf_17 rfl (lv_at hl 1 rfl) ?_
  refine va_get (D := (dC, dI)) (ci := 9) (v := .int y3) (C := RX9) (T := TX9) (N := 9) hx hb hg inG9 hown hK.1 hP 7 rfl rfl 2 (Nat.le_of_ble_eq_true rfl) (hg _ wt_66) (fun _ h9 => h9) rfl dX9_copyOf_18 ?_
  refine va_put (D := (dC, dI)) (ci := 9) (v := .int y3) (ty := .int) (C := RX9) (T := TX9) (N := 9) hx hb hg inG9 tyX9 tyX9_ok nmX9 hown hK.1 hP hD hS 0 rfl rfl 2 (Nat.le_of_ble_eq_true rfl) (hg _ wt_66) (fun _ h9 => h9) rfl (by decide +kernel) rfl rfl (Nat.le_of_ble_eq_true rfl) dX9_copyOf_21 (fun H locs hP hD hS => ?_)
  refine lv_aload_n hx hb dX9_copyOf_24 rfl (lv_at hl 1 rfl) ?_
  refine va_get (D := (dC, dI)) (ci := 9) (v := .ref c1) (C := RX9) (T := TX9) (N := 9) hx hb hg inG9 hown hK.1 hP 7 rfl rfl 3 (Nat.le_of_ble_eq_true rfl) (hg _ wt_73) (fun _ h9 => h9) rfl dX9_copyOf_25 ?_
  refine lv_iconst (v := 0) hx hb dX9_copyOf_28 rfl ?_
  refine lv_aload_n hx hb dX9_copyOf_29 rfl (lv_at hl 0 rfl) ?_
  refine va_get (D := (dC, dI)) (ci := 9) (v := .ref a1) (C := RX9) (T := TX9) (N := 9) hx hb hg inG9 hown hK.1 hP 0 rfl rfl 3 (Nat.le_of_ble_eq_true rfl) (hg _ wt_73) (fun _ h9 => h9) rfl dX9_copyOf_30 ?_
  refine lv_iconst (v := 0) hx hb dX9_copyOf_33 rfl ?_
  refine lv_bipush (v := 10) hx hb dX9_copyOf_34 rfl ?_
  refine va_copyi hx hb (by rw [hml]; exact hl.1.symm) hown (hg _ wt_511) (hg _ wt_513) (hg _ wt_512) (hg _ wt_18) hK.1 hP hD hS 8 1 0 0 rfl rfl rfl rfl rfl (by decide) (by decide) (by decide) (by decide) (by decide) (fun _ _ => rfl) (Nat.le_of_ble_eq_true rfl) (Nat.le_of_ble_eq_true rfl) dX9_copyOf_36 (fun H locs hP hD hS => ?_)
  refine lv_aload_n hx hb dX9_copyOf_39 rfl (lv_at hl 1 rfl) ?_
  refine va_get (D := (dC, dI)) (ci := 9) (v := .ref c2) (C := RX9) (T := TX9) (N := 9) hx hb hg inG9 hown hK.1 hP 7 rfl rfl 4 (Nat.le_of_ble_eq_true rfl) (hg _ wt_75) (fun _ h9 => h9) rfl dX9_copyOf_40 ?_
  refine lv_iconst (v := 0) hx hb dX9_copyOf_43 rfl ?_
  refine lv_aload_n hx hb dX9_copyOf_44 rfl (lv_at hl 0 rfl) ?_
  refine va_get (D := (dC, dI)) (ci := 9) (v := .ref a2) (C := RX9) (T := TX9) (N := 9) hx hb hg inG9 hown hK.1 hP 0 rfl rfl 4 (Nat.le_of_ble_eq_true rfl) (hg _ wt_75) (fun _ h9 => h9) rfl dX9_copyOf_45 ?_
  refine lv_iconst (v := 0) hx hb dX9_copyOf_48 rfl ?_
  refine lv_bipush (v := 10) hx hb dX9_copyOf_49 rfl ?_
  refine va_copyi hx hb (by rw [hml]; exact hl.1.symm) hown (hg _ wt_511) (hg _ wt_513) (hg _ wt_512) (hg _ wt_18) hK.1 hP hD hS 9 2 0 0 rfl rfl rfl rfl rfl (by decide) (by decide) (by decide) (by decide) (by decide) (fun _ _ => rfl) (Nat.le_of_ble_eq_true rfl) (Nat.le_of_ble_eq_true rfl) dX9_copyOf_51 (fun H locs hP hD hS => ?_)
  refine lv_aload_n hx hb dX9_copyOf_54 rfl (lv_at hl 1 rfl) ?_
  refine va_get (D := (dC, dI)) (ci := 9) (v := .ref c3) (C := RX9) (T := TX9) (N := 9) hx hb hg inG9 hown hK.1 hP 7 rfl rfl 5 (Nat.le_of_ble_eq_true rfl) (hg _ wt_77) (fun _ h9 => h9) rfl dX9_copyOf_55 ?_
  refine lv_iconst (v := 0) hx hb dX9_copyOf_58 rfl ?_
  refine lv_aload_n hx hb dX9_copyOf_59 rfl (lv_at hl 0 rfl) ?_
  refine va_get (D := (dC, dI)) (ci := 9) (v := .ref a3) (C := RX9) (T := TX9) (N := 9) hx hb hg inG9 hown hK.1 hP 0 rfl rfl 5 (Nat.le_of_ble_eq_true rfl) (hg _ wt_77) (fun _ h9 => h9) rfl dX9_copyOf_60 ?_
  refine lv_iconst (v := 0) hx hb dX9_copyOf_63 rfl ?_
  refine lv_bipush (v := 10) hx hb dX9_copyOf_64 rfl ?_
  refine va_copyi hx hb (by rw [hml]; exact hl.1.symm) hown (hg _ wt_511) (hg _ wt_513) (hg _ wt_512) (hg _ wt_18) hK.1 hP hD hS 10 3 0 0 rfl rfl rfl rfl rfl (by decide) (by decide) (by decide) (by decide) (by decide) (fun _ _ => rfl) (Nat.le_of_ble_eq_true rfl) (Nat.le_of_ble_eq_true rfl) dX9_copyOf_66 (fun H locs hP hD hS => ?_)
  refine lv_aload_n hx hb dX9_copyOf_69 rfl (lv_at hl 1 rfl) ?_
  refine va_get (D := (dC, dI)) (ci := 9) (v := .ref c4) (C := RX9) (T := TX9) (N := 9) hx hb hg inG9 hown hK.1 hP 7 rfl rfl 6 (Nat.le_of_ble_eq_true rfl) (hg _ wt_80) (fun _ h9 => h9) rfl dX9_copyOf_70 ?_
  refine lv_iconst (v := 0) hx hb dX9_copyOf_73 rfl ?_
  refine lv_aload_n hx hb dX9_copyOf_74 rfl (lv_at hl 0 rfl) ?_
  refine va_get (D := (dC, dI)) (ci := 9) (v := .ref a4) (C := RX9) (T := TX9) (N := 9) hx hb hg inG9 hown hK.1 hP 0 rfl rfl 6 (Nat.le_of_ble_eq_true rfl) (hg _ wt_80) (fun _ h9 => h9) rfl dX9_copyOf_75 ?_
  refine lv_iconst (v := 0) hx hb dX9_copyOf_78 rfl ?_
  refine lv_bipush (v := 6) hx hb dX9_copyOf_79 rfl ?_
  refine va_copyi hx hb (by rw [hml]; exact hl.1.symm) hown (hg _ wt_511) (hg _ wt_513) (hg _ wt_512) (hg _ wt_18) hK.1 hP hD hS 11 4 0 0 rfl rfl rfl rfl rfl (by decide) (by decide) (by decide) (by decide) (by decide) (fun _ _ => rfl) (Nat.le_of_ble_eq_true rfl) (Nat.le_of_ble_eq_true rfl) dX9_copyOf_81 (fun H locs hP hD hS => ?_)
  refine lv_aload_n hx hb dX9_copyOf_84 rfl (lv_at hl 1 rfl) ?_
  refine va_get (D := (dC, dI)) (ci := 9) (v := .ref c5) (C := RX9) (T := TX9) (N := 9) hx hb hg inG9 hown hK.1 hP 7 rfl rfl 7 (Nat.le_of_ble_eq_true rfl) (hg _ wt_82) (fun _ h9 => h9) rfl dX9_copyOf_85 ?_
  refine lv_iconst (v := 0) hx hb dX9_copyOf_88 rfl ?_
  refine lv_aload_n hx hb dX9_copyOf_89 rfl (lv_at hl 0 rfl) ?_
  refine va_get (D := (dC, dI)) (ci := 9) (v := .ref a5) (C := RX9) (T := TX9) (N := 9) hx hb hg inG9 hown hK.1 hP 0 rfl rfl 7 (Nat.le_of_ble_eq_true rfl) (hg _ wt_82) (fun _ h9 => h9) rfl dX9_copyOf_90 ?_
  refine lv_iconst (v := 0) hx hb dX9_copyOf_93 rfl ?_
  refine lv_bipush (v := 6) hx hb dX9_copyOf_94 rfl ?_
  refine va_copyi hx hb (by rw [hml]; exact hl.1.symm) hown (hg _ wt_511) (hg _ wt_513) (hg _ wt_512) (hg _ wt_18) hK.1 hP hD hS 12 5 0 0 rfl rfl rfl rfl rfl (by decide) (by decide) (by decide) (by decide) (by decide) (fun _ _ => rfl) (Nat.le_of_ble_eq_true rfl) (Nat.le_of_ble_eq_true rfl) dX9_copyOf_96 (fun H locs hP hD hS => ?_)
  refine lv_aload_n hx hb dX9_copyOf_99 rfl (lv_at hl 1 rfl) ?_
  refine va_get (D := (dC, dI)) (ci := 9) (v := .ref c6) (C := RX9) (T := TX9) (N := 9) hx hb hg inG9 hown hK.1 hP 7 rfl rfl 8 (Nat.le_of_ble_eq_true rfl) (hg _ wt_84) (fun _ h9 => h9) rfl dX9_copyOf_100 ?_
  refine lv_iconst (v := 0) hx hb dX9_copyOf_103 rfl ?_
  refine lv_aload_n hx hb dX9_copyOf_104 rfl (lv_at hl 0 rfl) ?_
  refine va_get (D := (dC, dI)) (ci := 9) (v := .ref a6) (C := RX9) (T := TX9) (N := 9) hx hb hg inG9 hown hK.1 hP 0 rfl rfl 8 (Nat.le_of_ble_eq_true rfl) (hg _ wt_84) (fun _ h9 => h9) rfl dX9_copyOf_105 ?_
  refine lv_iconst (v := 0) hx hb dX9_copyOf_108 rfl ?_
  refine lv_bipush (v := 6) hx hb dX9_copyOf_109 rfl ?_
  refine va_copyi hx hb (by rw [hml]; exact hl.1.symm) hown (hg _ wt_511) (hg _ wt_513) (hg _ wt_512) (hg _ wt_18) hK.1 hP hD hS 13 6 0 0 rfl rfl rfl rfl rfl (by decide) (by decide) (by decide) (by decide) (by decide) (fun _ _ => rfl) (Nat.le_of_ble_eq_true rfl) (Nat.le_of_ble_eq_true rfl) dX9_copyOf_111 (fun H locs hP hD hS => ?_)
  obtain ⟨hP9, hD9⟩ := va_sub2 (ws' := [(h0, .inr (9, [.int y1, .int y2, .int y3, .ref a1, .ref a2, .ref a3, .ref a4, .ref a5, .ref a6])), (a1, .inl (G 0, 10, .inl (va_cpy z1 f1 0 0 10))), (a2, .inl (G 0, 10, .inl (va_cpy z2 f2 0 0 10))), (a3, .inl (G 0, 10, .inl (va_cpy z3 f3 0 0 10))), (a4, .inl (G 0, 6, .inl (va_cpy z4 f4 0 0 6))), (a5, .inl (G 0, 6, .inl (va_cpy z5 f5 0 0 6))), (a6, .inl (G 0, 6, .inl (va_cpy z6 f6 0 0 6))), (o0, .inr (9, [.int y1, .int y2, .int y3, .ref c1, .ref c2, .ref c3, .ref c4, .ref c5, .ref c6])), (c1, .inl (G 0, 10, .inl z1)), (c2, .inl (G 0, 10, .inl z2)), (c3, .inl (G 0, 10, .inl z3)), (c4, .inl (G 0, 6, .inl z4)), (c5, .inl (G 0, 6, .inl z5)), (c6, .inl (G 0, 6, .inl z6))]) hP hD [0, 1, 2, 3, 4, 5, 6, 7, 8, 9, 10, 11, 12, 13] (by decide +kernel) rfl
  refine W.widen (k := 0) (n := 0) (Nat.le_of_ble_eq_true rfl) (Nat.le_of_ble_eq_true rfl) ?_
  exact W.vret hx hb hr (fun t ht hW => ⟨⟨((va_cpy z1 f1 0 0 10), (va_cpy z2 f2 0 0 10), (va_cpy z3 f3 0 0 10), (va_cpy z4 f4 0 0 6), (va_cpy z5 f5 0 0 6), (va_cpy z6 f6 0 0 6)), rfl, trivial, ⟨by rw [ht]; exact hP9, hD9⟩⟩, hS.F ht⟩) hS.2.2 dX9_copyOf_114

set_option maxHeartbeats 1000000 in
set_option maxRecDepth 100000 in
theorem c_X9_exchange (l : Launch) (dC : Nat → ClassId) (dI : Nat → Nat → Nat) (G : Nat → ClassId) (sz : Nat) (h0 a1 a2 a3 a4 a5 a6 N B D : Nat) (i k : Int32) (f3 : Nat → Int32) (hN_N : N ≤ 10) (hB_B : B ≤ 6) (hD_D : 1 ≤ D ∧ D ≤ 9) : Met l yX9_exchange (Cond.code yX9_exchange cX9_exchange 4 none :: GT) ({ frames := 1, cells := 0, slots := 0, locals := 21 } : Room) (PcW [.ref h0, .int i, .int k] dC dI G [(h0, .inr (9, [.int (nI N), .int (nI B), .int (nI D), .ref a1, .ref a2, .ref a3, .ref a4, .ref a5, .ref a6])), (a3, .inl (G 0, 10, .inl f3))] sz) (va_Qv (fun (u : (Nat → Int32)) => match u with | u0 => True) (fun (u : (Nat → Int32)) (t : State) => match u with | u0 => va_P (dC, dI) vwCl [(h0, .inr (9, [.int (nI N), .int (nI B), .int (nI D), .ref a1, .ref a2, .ref a3, .ref a4, .ref a5, .ref a6])), (a3, .inl (G 0, 10, .inl u0))] t.heap ∧ va_D (va_A [(h0, .inr (9, [.int (nI N), .int (nI B), .int (nI D), .ref a1, .ref a2, .ref a3, .ref a4, .ref a5, .ref a6])), (a3, .inl (G 0, 10, .inl f3))] sz) [(h0, .inr (9, [.int (nI N), .int (nI B), .int (nI D), .ref a1, .ref a2, .ref a3, .ref a4, .ref a5, .ref a6])), (a3, .inl (G 0, 10, .inl u0))]) (va_A [(h0, .inr (9, [.int (nI N), .int (nI B), .int (nI D), .ref a1, .ref a2, .ref a3, .ref a4, .ref a5, .ref a6])), (a3, .inl (G 0, 10, .inl f3))] sz)) 0 0 (va_A [(h0, .inr (9, [.int (nI N), .int (nI B), .int (nI D), .ref a1, .ref a2, .ref a3, .ref a4, .ref a5, .ref a6])), (a3, .inl (G 0, 10, .inl f3))] sz) := by
  have tn153_ : nIT N := fun _ => nI_toInt (by omega)
  have tn154_ : nIT B := fun _ => nI_toInt (by omega)
  have tn155_ : nIT D := fun _ => nI_toInt (by omega)
  refine Met.ofW (cc := cX9_exchange) (maxL := 4) (ret := none) (by decide) rfl ?_
  intro p e s m args below meth c s₁ Bd hml hv
  obtain ⟨rfl, hsz, hP, hK, hD0⟩ := hv
  have hx := Bd.exec
  have hb := Bd.bytes
  have hr := Bd.returns
  have hg : ∀ w ∈ GT, w.before ([.ref h0, .int i, .int k] : List Value).toArray s = true := fun w h => atoms_spec (ws := Cond.code yX9_exchange cX9_exchange 4 none :: GT) Bd.pre w (List.mem_cons_of_mem _ h)
  have hown : s.vm.findClass RX9 = some m.cls := findClass_of_methodNamed Bd.named
  have hlocks := Bd.notSynchronized
  subst hsz
  have hD := hD0.self (sz := s.heap.size)
  generalize hAe : va_A [(h0, .inr (9, [.int (nI N), .int (nI B), .int (nI D), .ref a1, .ref a2, .ref a3, .ref a4, .ref a5, .ref a6])), (a3, .inl (G 0, 10, .inl f3))] s.heap.size = A at hD ⊢
  have hA : ∀ q : Nat, s.heap.size ≤ q → A q := fun q h => by rw [← hAe]; exact Or.inr h
  have hS : va_S A s.heap s.heap [] := va_S.rf
  have hl := lv_entry ([.ref h0, .int i, .int k]) (n := 4) (Nat.le_of_ble_eq_true rfl)
  rw [lg_entry_eq]
  generalize (lg_sl ([.ref h0, .int i, .int k]) ++ List.replicate (4 - (lg_sl ([.ref h0, .int i, .int k])).length) Slot.unset).toArray = ls at hl ⊢
  have hl : lv_has ls 4 [(0, .ref h0), (1, .int i), (2, .int k)] := hl
  refine lv_aload_n hx hb dX9_exchange_0 rfl (lv_at hl 0 rfl) ?_
  refine lv_iload_n hx hb dX9_exchange_1 rfl (lv_at hl 1 rfl) ?_
  have hPc := hP.sub (ws' := [(h0, .inr (9, [.int (nI N), .int (nI B), .int (nI D), .ref a1, .ref a2, .ref a3, .ref a4, .ref a5, .ref a6]))]) [0] rfl
  refine va_calli (va_runV (As := [.int i]) (rest := []) ⟨hx, hb, hml, hown, hg⟩ (c_X9_hasStretch l dC dI G _ h0 a1 a2 a3 a4 a5 a6 N B D i hN_N hB_B hD_D) (kwV hg mfX9_hasStretch wt_574 ⟨Nat.le_of_ble_eq_true rfl, Nat.le_of_ble_eq_true rfl⟩) (preVR hK hPc (ci := 9) (r := (RX9, TX9, 9)) rfl rfl) rfl rfl hl.1 rfl (lv_room (Nat.le_of_ble_eq_true rfl)) dX9_exchange_2 ⟨Nat.le_of_ble_eq_true rfl, Nat.le_of_ble_eq_true rfl⟩) hS (fun q h1 h2 => absurd h2 (Nat.not_le.mpr h1)) (fun q h => hA q (Nat.le_trans hS.1 h)) (fun r1 ur1 t H1 locs ht hvm w2 hB hz1 hk1 hS => ?_)
  have hP := keepR hP hk1
  obtain ⟨w2, w2x⟩ := w2
  try simp only [l_ii, show (0 : Int32).toInt = 0 from by decide] at w2
  try rw [show (nI (N)).toInt = ((N : Nat) : Int) from tn153_ ()] at w2
  subst w2
  refine lv_if_eq (tgt := 42) hx hb dX9_exchange_5 rfl (fun c3 => ?_) (fun c3 => ?_)
  · skip
    have b4 := if10_n c3
    obtain ⟨hP9, hD9⟩ := va_sub2 (ws' := [(h0, .inr (9, [.int (nI N), .int (nI B), .int (nI D), .ref a1, .ref a2, .ref a3, .ref a4, .ref a5, .ref a6])), (a3, .inl (G 0, 10, .inl f3))]) hP hD [0, 1] (by decide +kernel) rfl
    refine W.widen (k := 0) (n := 0) (Nat.le_of_ble_eq_true rfl) (Nat.le_of_ble_eq_true rfl) ?_
    exact W.vret hx hb hr (fun t ht hW => ⟨⟨f3, rfl, trivial, ⟨by rw [ht]; exact hP9, hD9⟩⟩, hS.F ht⟩) hS.2.2 dX9_exchange_42
  · skip
    have b5 := if10_p c3
    refine lv_aload_n hx hb dX9_exchange_8 rfl (lv_at hl 0 rfl) ?_
    refine lv_iload_n hx hb dX9_exchange_9 rfl (lv_at hl 2 rfl) ?_
    have hPc := hP.sub (ws' := [(h0, .inr (9, [.int (nI N), .int (nI B), .int (nI D), .ref a1, .ref a2, .ref a3, .ref a4, .ref a5, .ref a6]))]) [0] rfl
    refine va_calli (va_runV (As := [.int k]) (rest := []) ⟨hx, hb, hml, hown, hg⟩ (c_X9_hasStretch l dC dI G _ h0 a1 a2 a3 a4 a5 a6 N B D k hN_N hB_B hD_D) (kwV hg mfX9_hasStretch wt_574 ⟨Nat.le_of_ble_eq_true rfl, Nat.le_of_ble_eq_true rfl⟩) (preVR hK hPc (ci := 9) (r := (RX9, TX9, 9)) rfl rfl) rfl rfl hl.1 rfl (lv_room (Nat.le_of_ble_eq_true rfl)) dX9_exchange_10 ⟨Nat.le_of_ble_eq_true rfl, Nat.le_of_ble_eq_true rfl⟩) hS (fun q h1 h2 => absurd h2 (Nat.not_le.mpr h1)) (fun q h => hA q (Nat.le_trans hS.1 h)) (fun r6 ur6 t H1 locs ht hvm w7 hB hz1 hk1 hS => ?_)
    have hP := keepR hP hk1
    obtain ⟨w7, w7x⟩ := w7
    try simp only [l_ii, show (0 : Int32).toInt = 0 from by decide] at w7
    try rw [show (nI (N)).toInt = ((N : Nat) : Int) from tn153_ ()] at w7
    subst w7
    refine lv_if_eq (tgt := 42) hx hb dX9_exchange_13 rfl (fun c8 => ?_) (fun c8 => ?_)
    · skip
      have b9 := if10_n c8
      obtain ⟨hP9, hD9⟩ := va_sub2 (ws' := [(h0, .inr (9, [.int (nI N), .int (nI B), .int (nI D), .ref a1, .ref a2, .ref a3, .ref a4, .ref a5, .ref a6])), (a3, .inl (G 0, 10, .inl f3))]) hP hD [0, 1] (by decide +kernel) rfl
      refine W.widen (k := 0) (n := 0) (Nat.le_of_ble_eq_true rfl) (Nat.le_of_ble_eq_true rfl) ?_
      exact W.vret hx hb hr (fun t ht hW => ⟨⟨f3, rfl, trivial, ⟨by rw [ht]; exact hP9, hD9⟩⟩, hS.F ht⟩) hS.2.2 dX9_exchange_42
    · skip
      have b10 := if10_p c8
      refine lv_aload_n hx hb dX9_exchange_16 rfl (lv_at hl 0 rfl) ?_
      refine va_get (D := (dC, dI)) (ci := 9) (v := .ref a3) (C := RX9) (T := TX9) (N := 9) hx hb hg inG9 hown hK.1 hP 0 rfl rfl 5 (Nat.le_of_ble_eq_true rfl) (hg _ wt_77) (fun _ h9 => h9) rfl dX9_exchange_17 ?_
      refine lv_iload_n hx hb dX9_exchange_20 rfl (lv_at hl 1 rfl) ?_
      refine va_iald hx hb hK.1 hP 1 0 rfl rfl (vp_in_iff.mpr (by have t_b5 := b5; have t_b10 := b10; have tnb_ := nib3 tn153_ tn154_ tn155_; constructor <;> omega)) dX9_exchange_21 ?_
      refine lv_istore_n (lv' := [(3, .int (f3 i.toNatClampNeg)), (0, .ref h0), (1, .int i), (2, .int k)]) hx hb dX9_exchange_22 rfl hl (by decide) rfl (fun ls hl => ?_)
      refine lv_aload_n hx hb dX9_exchange_23 rfl (lv_at hl 1 rfl) ?_
      refine va_get (D := (dC, dI)) (ci := 9) (v := .ref a3) (C := RX9) (T := TX9) (N := 9) hx hb hg inG9 hown hK.1 hP 0 rfl rfl 5 (Nat.le_of_ble_eq_true rfl) (hg _ wt_77) (fun _ h9 => h9) rfl dX9_exchange_24 ?_
      refine lv_iload_n hx hb dX9_exchange_27 rfl (lv_at hl 2 rfl) ?_
      refine lv_aload_n hx hb dX9_exchange_28 rfl (lv_at hl 1 rfl) ?_
      refine va_get (D := (dC, dI)) (ci := 9) (v := .ref a3) (C := RX9) (T := TX9) (N := 9) hx hb hg inG9 hown hK.1 hP 0 rfl rfl 5 (Nat.le_of_ble_eq_true rfl) (hg _ wt_77) (fun _ h9 => h9) rfl dX9_exchange_29 ?_
      refine lv_iload_n hx hb dX9_exchange_32 rfl (lv_at hl 3 rfl) ?_
      refine va_iald hx hb hK.1 hP 1 0 rfl rfl (vp_in_iff.mpr (by have t_b5 := b5; have t_b10 := b10; have tnb_ := nib3 tn153_ tn154_ tn155_; constructor <;> omega)) dX9_exchange_33 ?_
      refine va_iast hx hb hK.1 hP hD hS 1 0 rfl rfl (vp_in_iff.mpr (by have t_b5 := b5; have t_b10 := b10; have tnb_ := nib3 tn153_ tn154_ tn155_; constructor <;> omega)) dX9_exchange_34 (fun H locs hP hD hS => ?_)
      refine lv_aload_n hx hb dX9_exchange_35 rfl (lv_at hl 1 rfl) ?_
      refine va_get (D := (dC, dI)) (ci := 9) (v := .ref a3) (C := RX9) (T := TX9) (N := 9) hx hb hg inG9 hown hK.1 hP 0 rfl rfl 5 (Nat.le_of_ble_eq_true rfl) (hg _ wt_77) (fun _ h9 => h9) rfl dX9_exchange_36 ?_
      refine lv_iload_n hx hb dX9_exchange_39 rfl (lv_at hl 3 rfl) ?_
      refine lv_iload_n hx hb dX9_exchange_40 rfl (lv_at hl 0 rfl) ?_
      refine va_iast hx hb hK.1 hP hD hS 1 0 rfl rfl (vp_in_iff.mpr (by have t_b5 := b5; have t_b10 := b10; have tnb_ := nib3 tn153_ tn154_ tn155_; constructor <;> omega)) dX9_exchange_41 (fun H locs hP hD hS => ?_)
      obtain ⟨hP9, hD9⟩ := va_sub2 (ws' := [(h0, .inr (9, [.int (nI N), .int (nI B), .int (nI D), .ref a1, .ref a2, .ref a3, .ref a4, .ref a5, .ref a6])), (a3, .inl (G 0, 10, .inl (upd (upd f3 i.toNatClampNeg (f3 k.toNatClampNeg)) k.toNatClampNeg (f3 i.toNatClampNeg))))]) hP hD [0, 1] (by decide +kernel) rfl
      refine W.widen (k := 0) (n := 0) (Nat.le_of_ble_eq_true rfl) (Nat.le_of_ble_eq_true rfl) ?_
      exact W.vret hx hb hr (fun t ht hW => ⟨⟨(upd (upd f3 i.toNatClampNeg (f3 k.toNatClampNeg)) k.toNatClampNeg (f3 i.toNatClampNeg)), rfl, trivial, ⟨by rw [ht]; exact hP9, hD9⟩⟩, hS.F ht⟩) hS.2.2 dX9_exchange_42

set_option maxHeartbeats 1000000 in
set_option maxRecDepth 100000 in
theorem c_X9_handOvers (l : Launch) (dC : Nat → ClassId) (dI : Nat → Nat → Nat) (G : Nat → ClassId) (sz : Nat) (h0 a1 a2 a3 a4 a5 a6 N B D : Nat) (f3 : Nat → Int32) (hN_N : N ≤ 10) (hB_B : B ≤ 6) (hD_D : 1 ≤ D ∧ D ≤ 9) : Met l yX9_handOvers (Cond.code yX9_handOvers cX9_handOvers 3 (some .int) :: GT) ({ frames := 0, cells := 0, slots := 0, locals := 0 } : Room) (PcR [.ref h0] dC dI G [(h0, .inr (9, [.int (nI N), .int (nI B), .int (nI D), .ref a1, .ref a2, .ref a3, .ref a4, .ref a5, .ref a6])), (a3, .inl (G 0, 10, .inl f3))] sz) (va_Qi (fun (r : Int32) (u : Unit) => match u with | _ => (True) ∧ True) (fun _ _ => True) (fun q : Nat => sz ≤ q)) 0 0 (fun q : Nat => sz ≤ q) := by
  have tn156_ : nIT N := fun _ => nI_toInt (by omega)
  have tn157_ : nIT B := fun _ => nI_toInt (by omega)
  have tn158_ : nIT D := fun _ => nI_toInt (by omega)
  refine Met.ofW (cc := cX9_handOvers) (maxL := 3) (ret := (some .int)) (by decide) rfl ?_
  intro p e s m args below meth c s₁ Bd hml hv
  obtain ⟨rfl, hsz, hP, hK⟩ := hv
  have hx := Bd.exec
  have hb := Bd.bytes
  have hr := Bd.returns
  have hg : ∀ w ∈ GT, w.before ([.ref h0] : List Value).toArray s = true := fun w h => atoms_spec (ws := Cond.code yX9_handOvers cX9_handOvers 3 (some .int) :: GT) Bd.pre w (List.mem_cons_of_mem _ h)
  have hown : s.vm.findClass RX9 = some m.cls := findClass_of_methodNamed Bd.named
  have hlocks := Bd.notSynchronized
  subst hsz
  have hA : ∀ q : Nat, s.heap.size ≤ q → (fun q : Nat => s.heap.size ≤ q) q := fun _ h => h
  have hS : va_S (fun q : Nat => s.heap.size ≤ q) s.heap s.heap [] := va_S.rf
  have hl := lv_entry ([.ref h0]) (n := 3) (Nat.le_of_ble_eq_true rfl)
  rw [lg_entry_eq]
  generalize (lg_sl ([.ref h0]) ++ List.replicate (3 - (lg_sl ([.ref h0])).length) Slot.unset).toArray = ls at hl ⊢
  have hl : lv_has ls 3 [(0, .ref h0)] := hl
  refine lv_iconst (v := 0) hx hb dX9_handOvers_0 rfl ?_
  refine lv_istore_n (lv' := [(1, .int 0), (0, .ref h0)]) hx hb dX9_handOvers_1 rfl hl (by decide) rfl (fun ls hl => ?_)
  refine lv_iconst (v := 1) hx hb dX9_handOvers_2 rfl ?_
  refine lv_istore_n (lv' := [(2, .int 1), (1, .int 0), (0, .ref h0)]) hx hb dX9_handOvers_3 rfl hl (by decide) rfl (fun ls hl => ?_)
  have loop4_3 : ∀ (nf j1 : Nat), 10 + 1 ≤ j1 + nf → j1 ≤ 10 → 1 ≤ j1 → ∀ (y2 : Int32) (H : Heap) (locs : List Loc), va_P (dC, dI) vwCl [(h0, .inr (9, [.int (nI N), .int (nI B), .int (nI D), .ref a1, .ref a2, .ref a3, .ref a4, .ref a5, .ref a6])), (a3, .inl (G 0, 10, .inl f3))] H → va_S (fun q : Nat => s.heap.size ≤ q) s.heap H locs → ∀ (ls : Array Slot), lv_has ls 3 [(2, .int (nI j1)), (1, .int y2), (0, .ref h0)] → W p l e (headSpec (Cond.code yX9_handOvers cX9_handOvers 3 (some .int) :: GT) ({ frames := 0, cells := 0, slots := 0, locals := 0 } : Room)).room s m ([.ref h0] : List Value).toArray below meth c H locs 0 0 (MQ below (va_Qi (fun (r : Int32) (u : Unit) => match u with | _ => (True) ∧ True) (fun _ _ => True) (fun q : Nat => s.heap.size ≤ q)) ([.ref h0] : List Value).toArray s 0 0 (fun q : Nat => s.heap.size ≤ q)) (F0 m 4 ls []) := by
    intro nf
    induction nf with
    | zero => intro j1 h1 h2; exact absurd h1 (by omega)
    | succ nf ih4_3 =>
      intro j1 hn4 hj5 hlo_j1 y2 H locs hP hS ls hl
      refine lv_iload_n hx hb dX9_handOvers_4 rfl (lv_at hl 0 rfl) ?_
      refine lv_aload_n hx hb dX9_handOvers_5 rfl (lv_at hl 2 rfl) ?_
      refine va_get (D := (dC, dI)) (ci := 9) (v := .int (nI N)) (C := RX9) (T := TX9) (N := 9) hx hb hg inG9 hown hK.1 hP 0 rfl rfl 0 (Nat.le_of_ble_eq_true rfl) (hg _ wt_56) (fun _ h9 => h9) rfl dX9_handOvers_6 ?_
      refine lv_icmp_ge (tgt := 38) hx hb dX9_handOvers_9 rfl (fun c6 => ?_) (fun c6 => ?_)
      · skip
        have tn159_ : nIT j1 := fun _ => nI_toInt (by first | omega | (have t := leI c6; omega))
        have n7 : N ≤ j1 := by have t := leI c6; rw [show (nI (j1)).toInt = ((j1 : Nat) : Int) from tn159_ ()] at t; rw [show (nI (N)).toInt = ((N : Nat) : Int) from tn156_ ()] at t; omega
        refine lv_iload_n hx hb dX9_handOvers_38 rfl (lv_at hl 1 rfl) ?_
        have hpost : True := by
          trivial
        refine W.widen (k := 0) (n := 0) (Nat.le_of_ble_eq_true rfl) (Nat.le_of_ble_eq_true rfl) ?_
        exact W.iret (v := y2) hx hb hr (fun t ht hW => ⟨⟨y2, (), rfl, ⟨hpost, trivial⟩, trivial⟩, hS.F ht⟩) hS.2.2 dX9_handOvers_39
      · skip
        have tn160_ : nIT j1 := fun _ => nI_toInt (by first | omega | (have t := nleI c6; omega))
        have n8 : j1 < N := by have t := nleI c6; rw [show (nI (j1)).toInt = ((j1 : Nat) : Int) from tn160_ ()] at t; rw [show (nI (N)).toInt = ((N : Nat) : Int) from tn156_ ()] at t; omega
        refine lv_aload_n hx hb dX9_handOvers_12 rfl (lv_at hl 2 rfl) ?_
        refine va_get (D := (dC, dI)) (ci := 9) (v := .ref a3) (C := RX9) (T := TX9) (N := 9) hx hb hg inG9 hown hK.1 hP 0 rfl rfl 5 (Nat.le_of_ble_eq_true rfl) (hg _ wt_77) (fun _ h9 => h9) rfl dX9_handOvers_13 ?_
        refine lv_iload_n hx hb dX9_handOvers_16 rfl (lv_at hl 0 rfl) ?_
        refine va_iald hx hb hK.1 hP 1 0 rfl rfl (vp_in_nI (by first | omega | (have t_hj5 := hj5; have t_hlo_j1 := hlo_j1; have t_n8 := n8; have tnb_ := nib4 tn156_ tn157_ tn158_ tn160_; omega)) (by decide)) dX9_handOvers_17 ?_
        refine lv_cg (y := f3 j1) (by rw [nI_clamp (by omega)]) ?_
        refine lv_aload_n hx hb dX9_handOvers_18 rfl (lv_at hl 2 rfl) ?_
        refine va_get (D := (dC, dI)) (ci := 9) (v := .ref a3) (C := RX9) (T := TX9) (N := 9) hx hb hg inG9 hown hK.1 hP 0 rfl rfl 5 (Nat.le_of_ble_eq_true rfl) (hg _ wt_77) (fun _ h9 => h9) rfl dX9_handOvers_19 ?_
        refine lv_iload_n hx hb dX9_handOvers_22 rfl (lv_at hl 0 rfl) ?_
        refine lv_iconst (v := 1) hx hb dX9_handOvers_23 rfl ?_
        refine lv_isub hx hb dX9_handOvers_24 ?_
        refine lv_cg (y := nI (j1 - 1)) (by rw [show (1 : Int32) = nI 1 from rfl]; exact pk_sub (by have t_hj5 := hj5; have t_hlo_j1 := hlo_j1; have t_n8 := n8; have tnb_ := nib4 tn156_ tn157_ tn158_ tn160_; omega)) ?_
        refine va_iald hx hb hK.1 hP 1 0 rfl rfl (vp_in_nI (by first | omega | (have t_hj5 := hj5; have t_hlo_j1 := hlo_j1; have t_n8 := n8; have tnb_ := nib4 tn156_ tn157_ tn158_ tn160_; omega)) (by decide)) dX9_handOvers_25 ?_
        refine lv_cg (y := f3 (j1 - 1)) (by rw [nI_clamp (by omega)]) ?_
        have cut32_10 : ∀ (y9 : Int32) (H : Heap) (locs : List Loc), va_P (dC, dI) vwCl [(h0, .inr (9, [.int (nI N), .int (nI B), .int (nI D), .ref a1, .ref a2, .ref a3, .ref a4, .ref a5, .ref a6])), (a3, .inl (G 0, 10, .inl f3))] H → va_S (fun q : Nat => s.heap.size ≤ q) s.heap H locs → ∀ (ls : Array Slot), lv_has ls 3 [(2, .int (nI j1)), (1, .int y9), (0, .ref h0)] → W p l e (headSpec (Cond.code yX9_handOvers cX9_handOvers 3 (some .int) :: GT) ({ frames := 0, cells := 0, slots := 0, locals := 0 } : Room)).room s m ([.ref h0] : List Value).toArray below meth c H locs 0 0 (MQ below (va_Qi (fun (r : Int32) (u : Unit) => match u with | _ => (True) ∧ True) (fun _ _ => True) (fun q : Nat => s.heap.size ≤ q)) ([.ref h0] : List Value).toArray s 0 0 (fun q : Nat => s.heap.size ≤ q)) (F0 m 32 ls []) := by
          intro y9 H locs hP hS ls hl
          refine lv_iinc (v := nI (j1 + 1)) (lv' := [(2, .int (nI (j1 + 1))), (1, .int y9), (0, .ref h0)]) hx hb dX9_handOvers_32 hl (k := 0) rfl (by rw [show Int32.ofInt 1 = nI 1 from by decide]; exact nI_add _ _) (by decide) rfl (fun ls hl => ?_)
          refine lv_goto (tgt := 4) hx hb dX9_handOvers_35 rfl ?_
          exact ih4_3 (j1 + 1) (by omega) (by omega) (by omega) y9 _ _ hP hS ls (lv_sub hl [0, 1, 2] rfl)
        refine lv_icmp_eq (tgt := 32) hx hb dX9_handOvers_26 rfl (fun c11 => ?_) (fun c11 => ?_)
        · skip
          exact cut32_10 y2 _ _ hP hS ls (lv_sub hl [0, 1, 2] rfl)
        · skip
          refine lv_iinc (v := y2 + 1) (lv' := [(1, .int (y2 + 1)), (2, .int (nI j1)), (0, .ref h0)]) hx hb dX9_handOvers_29 hl (k := 1) rfl (rfl) (by decide) rfl (fun ls hl => ?_)
          exact cut32_10 (y2 + 1) _ _ hP hS ls (lv_sub hl [1, 0, 2] rfl)
  exact loop4_3 (10 + 1) 1 (by omega) (by omega) (by omega) 0 _ _ hP hS ls (lv_sub hl [0, 1, 2] rfl)

set_option maxHeartbeats 1000000 in
set_option maxRecDepth 100000 in
theorem c_X6_fill (l : Launch) (dC : Nat → ClassId) (dI : Nat → Nat → Nat) (G : Nat → ClassId) (sz : Nat) (h0 la si ce fi se k : Nat) (x8 x9 i x1 : Int32) (fl fz : Nat → Int32) (rc : Nat → Nat) (F : Nat → Nat → Int32) (hk : k < 4) (hz : ∀ q : Nat, q < 4 → 0 ≤ (fz q).toInt ∧ (fz q).toInt ≤ 40) : Met l yX6_fill (Cond.code yX6_fill cX6_fill 4 none :: GT) ({ frames := 1, cells := 0, slots := 0, locals := 23 } : Room) (PcW [.ref h0, .int (nI k), .int i, .int x1] dC dI G (([(h0, .inr (6, [.ref la, .ref si, .ref ce, .int x8, .int x9, .ref fi, .ref se])), (la, .inl (G 0, 4, .inl fl)), (si, .inl (G 0, 4, .inl fz)), (ce, .inl (G 4, 4, .inr (.inr (.inr (.inr (fun ir => if ir < 4 then some (rc ir) else none))))))] : va_W) ++ ((((List.range 4).map (fun iq => (rc iq, .inl (G 0, 40, .inl (F iq))))) : va_W) ++ [])) sz) (va_Qv (fun (u : (Nat → Nat → Int32)) => match u with | u0 => True) (fun (u : (Nat → Nat → Int32)) (t : State) => match u with | u0 => va_P (dC, dI) vwCl (([(h0, .inr (6, [.ref la, .ref si, .ref ce, .int x8, .int x9, .ref fi, .ref se])), (la, .inl (G 0, 4, .inl fl)), (si, .inl (G 0, 4, .inl fz)), (ce, .inl (G 4, 4, .inr (.inr (.inr (.inr (fun ir => if ir < 4 then some (rc ir) else none))))))] : va_W) ++ ((((List.range 4).map (fun iq => (rc iq, .inl (G 0, 40, .inl (u0 iq))))) : va_W) ++ [])) t.heap ∧ va_D (va_A (([(h0, .inr (6, [.ref la, .ref si, .ref ce, .int x8, .int x9, .ref fi, .ref se])), (la, .inl (G 0, 4, .inl fl)), (si, .inl (G 0, 4, .inl fz)), (ce, .inl (G 4, 4, .inr (.inr (.inr (.inr (fun ir => if ir < 4 then some (rc ir) else none))))))] : va_W) ++ ((((List.range 4).map (fun iq => (rc iq, .inl (G 0, 40, .inl (F iq))))) : va_W) ++ [])) sz) (([(h0, .inr (6, [.ref la, .ref si, .ref ce, .int x8, .int x9, .ref fi, .ref se])), (la, .inl (G 0, 4, .inl fl)), (si, .inl (G 0, 4, .inl fz)), (ce, .inl (G 4, 4, .inr (.inr (.inr (.inr (fun ir => if ir < 4 then some (rc ir) else none))))))] : va_W) ++ ((((List.range 4).map (fun iq => (rc iq, .inl (G 0, 40, .inl (u0 iq))))) : va_W) ++ []))) (va_A (([(h0, .inr (6, [.ref la, .ref si, .ref ce, .int x8, .int x9, .ref fi, .ref se])), (la, .inl (G 0, 4, .inl fl)), (si, .inl (G 0, 4, .inl fz)), (ce, .inl (G 4, 4, .inr (.inr (.inr (.inr (fun ir => if ir < 4 then some (rc ir) else none))))))] : va_W) ++ ((((List.range 4).map (fun iq => (rc iq, .inl (G 0, 40, .inl (F iq))))) : va_W) ++ [])) sz)) 0 0 (va_A (([(h0, .inr (6, [.ref la, .ref si, .ref ce, .int x8, .int x9, .ref fi, .ref se])), (la, .inl (G 0, 4, .inl fl)), (si, .inl (G 0, 4, .inl fz)), (ce, .inl (G 4, 4, .inr (.inr (.inr (.inr (fun ir => if ir < 4 then some (rc ir) else none))))))] : va_W) ++ ((((List.range 4).map (fun iq => (rc iq, .inl (G 0, 40, .inl (F iq))))) : va_W) ++ [])) sz) := by
  refine Met.ofW (cc := cX6_fill) (maxL := 4) (ret := none) (by decide) rfl ?_
  intro p e s m args below meth c s₁ Bd hml hv
  obtain ⟨rfl, hsz, hP, hK, hD0⟩ := hv
  have hx := Bd.exec
  have hb := Bd.bytes
  have hr := Bd.returns
  have hg : ∀ w ∈ GT, w.before ([.ref h0, .int (nI k), .int i, .int x1] : List Value).toArray s = true := fun w h => atoms_spec (ws := Cond.code yX6_fill cX6_fill 4 none :: GT) Bd.pre w (List.mem_cons_of_mem _ h)
  have hown : s.vm.findClass RX6 = some m.cls := findClass_of_methodNamed Bd.named
  have hlocks := Bd.notSynchronized
  subst hsz
  have hD := hD0.self (sz := s.heap.size)
  generalize hAe : va_A (([(h0, .inr (6, [.ref la, .ref si, .ref ce, .int x8, .int x9, .ref fi, .ref se])), (la, .inl (G 0, 4, .inl fl)), (si, .inl (G 0, 4, .inl fz)), (ce, .inl (G 4, 4, .inr (.inr (.inr (.inr (fun ir => if ir < 4 then some (rc ir) else none))))))] : va_W) ++ ((((List.range 4).map (fun iq => (rc iq, .inl (G 0, 40, .inl (F iq))))) : va_W) ++ [])) s.heap.size = A at hD ⊢
  have hA : ∀ q : Nat, s.heap.size ≤ q → A q := fun q h => by rw [← hAe]; exact Or.inr h
  have hS : va_S A s.heap s.heap [] := va_S.rf
  have hl := lv_entry ([.ref h0, .int (nI k), .int i, .int x1]) (n := 4) (Nat.le_of_ble_eq_true rfl)
  rw [lg_entry_eq]
  generalize (lg_sl ([.ref h0, .int (nI k), .int i, .int x1]) ++ List.replicate (4 - (lg_sl ([.ref h0, .int (nI k), .int i, .int x1])).length) Slot.unset).toArray = ls at hl ⊢
  have hl : lv_has ls 4 [(0, .ref h0), (1, .int (nI k)), (2, .int i), (3, .int x1)] := hl
  have hzk := hz k hk
  have lii := l_ii i
  refine lv_aload_n hx hb dX6_fill_0 rfl (lv_at hl 0 rfl) ?_
  refine lv_iload_n hx hb dX6_fill_1 rfl (lv_at hl 1 rfl) ?_
  refine lv_iload_n hx hb dX6_fill_2 rfl (lv_at hl 2 rfl) ?_
  refine lv_i2l (v := i.toInt64) hx hb dX6_fill_3 rfl ?_
  have hPc := hP.sub (ws' := [(h0, .inr (6, [.ref la, .ref si, .ref ce, .int x8, .int x9, .ref fi, .ref se])), (la, .inl (G 0, 4, .inl fl)), (si, .inl (G 0, 4, .inl fz))]) [0, 1, 2] rfl
  have tn161_ : nIT k := fun _ => nI_toInt (by omega)
  refine va_calli (va_runV (As := [.int (nI k), .long i.toInt64]) (rest := []) ⟨hx, hb, hml, hown, hg⟩ (c_X6_faultAt l dC dI G _ h0 la si ce fi se k x8 x9 i.toInt64 fl fz hk) (kwV hg mfX6_faultAt wt_846 ⟨Nat.le_of_ble_eq_true rfl, Nat.le_of_ble_eq_true rfl⟩) (preVR hK hPc (ci := 6) (r := (RX6, TX6, 7)) rfl rfl) rfl rfl hl.1 rfl (lv_room (Nat.le_of_ble_eq_true rfl)) dX6_fill_4 ⟨Nat.le_of_ble_eq_true rfl, Nat.le_of_ble_eq_true rfl⟩) hS (fun q h1 h2 => absurd h2 (Nat.not_le.mpr h1)) (fun q h => hA q (Nat.le_trans hS.1 h)) (fun r1 ur1 t H1 locs ht hvm w2 hB hz1 hk1 hS => ?_)
  have hP := keepR hP hk1
  obtain ⟨w2, w2x⟩ := w2
  have cut48_4 : ∀ (g3 : Nat → Nat → Int32) (H : Heap) (locs : List Loc), va_P (dC, dI) vwCl (([(h0, .inr (6, [.ref la, .ref si, .ref ce, .int x8, .int x9, .ref fi, .ref se])), (la, .inl (G 0, 4, .inl fl)), (si, .inl (G 0, 4, .inl fz)), (ce, .inl (G 4, 4, .inr (.inr (.inr (.inr (fun ir => if ir < 4 then some (rc ir) else none))))))] : va_W) ++ ((((List.range 4).map (fun iq => (rc iq, .inl (G 0, 40, .inl (g3 iq))))) : va_W) ++ [])) H → va_D A (([(h0, .inr (6, [.ref la, .ref si, .ref ce, .int x8, .int x9, .ref fi, .ref se])), (la, .inl (G 0, 4, .inl fl)), (si, .inl (G 0, 4, .inl fz)), (ce, .inl (G 4, 4, .inr (.inr (.inr (.inr (fun ir => if ir < 4 then some (rc ir) else none))))))] : va_W) ++ ((((List.range 4).map (fun iq => (rc iq, .inl (G 0, 40, .inl (g3 iq))))) : va_W) ++ [])) → va_S A s.heap H locs → ∀ (ls : Array Slot), lv_has ls 4 [(0, .ref h0), (1, .int (nI k)), (2, .int i), (3, .int x1)] → W p l e (headSpec (Cond.code yX6_fill cX6_fill 4 none :: GT) ({ frames := 1, cells := 0, slots := 0, locals := 23 } : Room)).room s m ([.ref h0, .int (nI k), .int i, .int x1] : List Value).toArray below meth c H locs 0 0 (MQ below (va_Qv (fun (u : (Nat → Nat → Int32)) => match u with | u0 => True) (fun (u : (Nat → Nat → Int32)) (t : State) => match u with | u0 => va_P (dC, dI) vwCl (([(h0, .inr (6, [.ref la, .ref si, .ref ce, .int x8, .int x9, .ref fi, .ref se])), (la, .inl (G 0, 4, .inl fl)), (si, .inl (G 0, 4, .inl fz)), (ce, .inl (G 4, 4, .inr (.inr (.inr (.inr (fun ir => if ir < 4 then some (rc ir) else none))))))] : va_W) ++ ((((List.range 4).map (fun iq => (rc iq, .inl (G 0, 40, .inl (u0 iq))))) : va_W) ++ [])) t.heap ∧ va_D A (([(h0, .inr (6, [.ref la, .ref si, .ref ce, .int x8, .int x9, .ref fi, .ref se])), (la, .inl (G 0, 4, .inl fl)), (si, .inl (G 0, 4, .inl fz)), (ce, .inl (G 4, 4, .inr (.inr (.inr (.inr (fun ir => if ir < 4 then some (rc ir) else none))))))] : va_W) ++ ((((List.range 4).map (fun iq => (rc iq, .inl (G 0, 40, .inl (u0 iq))))) : va_W) ++ []))) A) ([.ref h0, .int (nI k), .int i, .int x1] : List Value).toArray s 0 0 A) (F0 m 48 ls []) := by
    intro g3 H locs hP hD hS ls hl
    obtain ⟨hP9, hD9⟩ := va_sub2 (ws' := (([(h0, .inr (6, [.ref la, .ref si, .ref ce, .int x8, .int x9, .ref fi, .ref se])), (la, .inl (G 0, 4, .inl fl)), (si, .inl (G 0, 4, .inl fz)), (ce, .inl (G 4, 4, .inr (.inr (.inr (.inr (fun ir => if ir < 4 then some (rc ir) else none))))))] : va_W) ++ ((((List.range 4).map (fun iq => (rc iq, .inl (G 0, 40, .inl (g3 iq))))) : va_W) ++ []))) hP hD [0, 1, 2, 3, 4, 5, 6, 7] (by decide +kernel) rfl
    refine W.widen (k := 0) (n := 0) (Nat.le_of_ble_eq_true rfl) (Nat.le_of_ble_eq_true rfl) ?_
    exact W.vret hx hb hr (fun t ht hW => ⟨⟨g3, rfl, trivial, ⟨by rw [ht]; exact hP9, hD9⟩⟩, hS.F ht⟩) hS.2.2 dX6_fill_48
  refine lv_if_ne (tgt := 48) hx hb dX6_fill_7 rfl (fun c5 => ?_) (fun c5 => ?_)
  · skip
    exact cut48_4 F _ _ hP hD hS ls (lv_sub hl [0, 1, 2, 3] rfl)
  · skip
    have b6 := fz0 w2 c5
    refine lv_aload_n hx hb dX6_fill_10 rfl (lv_at hl 0 rfl) ?_
    refine va_get (D := (dC, dI)) (ci := 6) (v := .ref ce) (C := RX6) (T := TX6) (N := 7) hx hb hg inG6 hown hK.1 hP 0 rfl rfl 2 (Nat.le_of_ble_eq_true rfl) (hg _ wt_278) (fun _ h9 => h9) rfl dX6_fill_11 ?_
    refine lv_iload_n hx hb dX6_fill_14 rfl (lv_at hl 1 rfl) ?_
    refine va_aldA hx hb hK.1 hP 3 4 rfl rfl (vp_in_nI (by first | omega | (have t_b6 := b6; have t_n0 : (nI k).toInt = (k : Int) := tn161_ (); omega)) (by decide)) dX6_fill_15 ?_
    refine lv_cgv (y := .ref (rc k)) (rowref (by first | omega | (have t_b6 := b6; have t_n0 : (nI k).toInt = (k : Int) := tn161_ (); omega)) (by decide)) ?_
    refine lv_iload_n hx hb dX6_fill_16 rfl (lv_at hl 2 rfl) ?_
    refine lv_aload_n hx hb dX6_fill_17 rfl (lv_at hl 0 rfl) ?_
    refine va_get (D := (dC, dI)) (ci := 6) (v := .ref la) (C := RX6) (T := TX6) (N := 7) hx hb hg inG6 hown hK.1 hP 0 rfl rfl 0 (Nat.le_of_ble_eq_true rfl) (hg _ wt_276) (fun _ h9 => h9) rfl dX6_fill_18 ?_
    refine lv_iload_n hx hb dX6_fill_21 rfl (lv_at hl 1 rfl) ?_
    refine va_iald hx hb hK.1 hP 1 0 rfl rfl (vp_in_nI (by first | omega | (have t_b6 := b6; have t_n0 : (nI k).toInt = (k : Int) := tn161_ (); omega)) (by decide)) dX6_fill_22 ?_
    refine lv_cg (y := fl k) (by rw [nI_clamp (by omega)]) ?_
    have cut47_8 : ∀ (y7 : Int32) (H : Heap) (locs : List Loc), va_P (dC, dI) vwCl (([(h0, .inr (6, [.ref la, .ref si, .ref ce, .int x8, .int x9, .ref fi, .ref se])), (la, .inl (G 0, 4, .inl fl)), (si, .inl (G 0, 4, .inl fz)), (ce, .inl (G 4, 4, .inr (.inr (.inr (.inr (fun ir => if ir < 4 then some (rc ir) else none))))))] : va_W) ++ ((((List.range 4).map (fun iq => (rc iq, .inl (G 0, 40, .inl (F iq))))) : va_W) ++ [])) H → va_D A (([(h0, .inr (6, [.ref la, .ref si, .ref ce, .int x8, .int x9, .ref fi, .ref se])), (la, .inl (G 0, 4, .inl fl)), (si, .inl (G 0, 4, .inl fz)), (ce, .inl (G 4, 4, .inr (.inr (.inr (.inr (fun ir => if ir < 4 then some (rc ir) else none))))))] : va_W) ++ ((((List.range 4).map (fun iq => (rc iq, .inl (G 0, 40, .inl (F iq))))) : va_W) ++ [])) → va_S A s.heap H locs → ∀ (ls : Array Slot), lv_has ls 4 [(0, .ref h0), (1, .int (nI k)), (2, .int i), (3, .int x1)] → W p l e (headSpec (Cond.code yX6_fill cX6_fill 4 none :: GT) ({ frames := 1, cells := 0, slots := 0, locals := 23 } : Room)).room s m ([.ref h0, .int (nI k), .int i, .int x1] : List Value).toArray below meth c H locs 0 0 (MQ below (va_Qv (fun (u : (Nat → Nat → Int32)) => match u with | u0 => True) (fun (u : (Nat → Nat → Int32)) (t : State) => match u with | u0 => va_P (dC, dI) vwCl (([(h0, .inr (6, [.ref la, .ref si, .ref ce, .int x8, .int x9, .ref fi, .ref se])), (la, .inl (G 0, 4, .inl fl)), (si, .inl (G 0, 4, .inl fz)), (ce, .inl (G 4, 4, .inr (.inr (.inr (.inr (fun ir => if ir < 4 then some (rc ir) else none))))))] : va_W) ++ ((((List.range 4).map (fun iq => (rc iq, .inl (G 0, 40, .inl (u0 iq))))) : va_W) ++ [])) t.heap ∧ va_D A (([(h0, .inr (6, [.ref la, .ref si, .ref ce, .int x8, .int x9, .ref fi, .ref se])), (la, .inl (G 0, 4, .inl fl)), (si, .inl (G 0, 4, .inl fz)), (ce, .inl (G 4, 4, .inr (.inr (.inr (.inr (fun ir => if ir < 4 then some (rc ir) else none))))))] : va_W) ++ ((((List.range 4).map (fun iq => (rc iq, .inl (G 0, 40, .inl (u0 iq))))) : va_W) ++ []))) A) ([.ref h0, .int (nI k), .int i, .int x1] : List Value).toArray s 0 0 A) (F0 m 47 ls [.int y7, .int i, .ref (rc k)]) := by
      intro y7 H locs hP hD hS ls hl
      refine va_iastB (j := k) hx hb hK.1 hP hD hS 0 (by first | omega | (have t_b6 := b6; have t_n0 : (nI k).toInt = (k : Int) := tn161_ (); omega)) rfl (vp_in_iff.mpr (by have t_b6 := b6; have t_n0 : (nI k).toInt = (k : Int) := tn161_ (); constructor <;> omega)) dX6_fill_47 (fun H locs hP hD hS => ?_)
      obtain ⟨hP, hD⟩ := va_rls (ws' := (([(h0, .inr (6, [.ref la, .ref si, .ref ce, .int x8, .int x9, .ref fi, .ref se])), (la, .inl (G 0, 4, .inl fl)), (si, .inl (G 0, 4, .inl fz)), (ce, .inl (G 4, 4, .inr (.inr (.inr (.inr (fun ir => if ir < 4 then some (rc ir) else none))))))] : va_W) ++ ((((List.range 4).map (fun iq => (rc iq, .inl (G 0, 40, .inl ((va_up F k (upd (F k) i.toNatClampNeg y7)) iq))))) : va_W) ++ []))) hP hD rfl
      exact cut48_4 (va_up F k (upd (F k) i.toNatClampNeg y7)) _ _ hP hD hS ls (lv_sub hl [0, 1, 2, 3] rfl)
    refine lv_if_ne (tgt := 31) hx hb dX6_fill_23 rfl (fun c9 => ?_) (fun c9 => ?_)
    · skip
      refine lv_aload_n hx hb dX6_fill_31 rfl (lv_at hl 0 rfl) ?_
      refine va_get (D := (dC, dI)) (ci := 6) (v := .ref la) (C := RX6) (T := TX6) (N := 7) hx hb hg inG6 hown hK.1 hP 0 rfl rfl 0 (Nat.le_of_ble_eq_true rfl) (hg _ wt_276) (fun _ h9 => h9) rfl dX6_fill_32 ?_
      refine lv_iload_n hx hb dX6_fill_35 rfl (lv_at hl 1 rfl) ?_
      refine va_iald hx hb hK.1 hP 1 0 rfl rfl (vp_in_nI (by first | omega | (have t_b6 := b6; have t_c9 := neI c9; have : (0 : Int32).toInt = 0 := qI_0; have t_n0 : (nI k).toInt = (k : Int) := tn161_ (); omega)) (by decide)) dX6_fill_36 ?_
      refine lv_cg (y := fl k) (by rw [nI_clamp (by omega)]) ?_
      refine lv_iconst (v := 1) hx hb dX6_fill_37 rfl ?_
      refine lv_icmp_ne (tgt := 46) hx hb dX6_fill_38 rfl (fun c10 => ?_) (fun c10 => ?_)
      · skip
        refine lv_iload_n hx hb dX6_fill_46 rfl (lv_at hl 3 rfl) ?_
        exact cut47_8 x1 _ _ hP hD hS ls (lv_sub hl [0, 1, 2, 3] rfl)
      · skip
        refine lv_iload_n hx hb dX6_fill_41 rfl (lv_at hl 3 rfl) ?_
        refine lv_i2s (v := _) hx hb dX6_fill_42 rfl ?_
        refine lv_topi (fun v11 ev11 => ?_)
        refine lv_goto (tgt := 47) hx hb dX6_fill_43 rfl ?_
        exact cut47_8 v11 _ _ hP hD hS ls (lv_sub hl [0, 1, 2, 3] rfl)
    · skip
      refine lv_iload_n hx hb dX6_fill_26 rfl (lv_at hl 3 rfl) ?_
      refine lv_i2b (v := _) hx hb dX6_fill_27 rfl ?_
      refine lv_topi (fun v12 ev12 => ?_)
      refine lv_goto (tgt := 47) hx hb dX6_fill_28 rfl ?_
      exact cut47_8 v12 _ _ hP hD hS ls (lv_sub hl [0, 1, 2, 3] rfl)

set_option maxHeartbeats 1000000 in
set_option maxRecDepth 100000 in
theorem c_X6_renew (l : Launch) (dC : Nat → ClassId) (dI : Nat → Nat → Nat) (G : Nat → ClassId) (sz : Nat) (h0 la si ce fi se k nn : Nat) (x8 x9 x1 : Int32) (fl fz : Nat → Int32) (rc : Nat → Nat) (F : Nat → Nat → Int32) (hk : k < 4) (hnn : nn ≤ 40) : Met l yX6_renew (Cond.code yX6_renew cX6_renew 5 none :: GT) ({ frames := 1, cells := 0, slots := 0, locals := 20 } : Room) (PcW [.ref h0, .int (nI k), .int x1, .int (nI nn)] dC dI G (([(h0, .inr (6, [.ref la, .ref si, .ref ce, .int x8, .int x9, .ref fi, .ref se])), (la, .inl (G 0, 4, .inl fl)), (si, .inl (G 0, 4, .inl fz)), (ce, .inl (G 4, 4, .inr (.inr (.inr (.inr (fun ir => if ir < 4 then some (rc ir) else none))))))] : va_W) ++ ((((List.range 4).map (fun iq => (rc iq, .inl (G 0, 40, .inl (F iq))))) : va_W) ++ [])) sz) (va_Qv (fun (u : (Nat → Nat → Int32) × (Nat → Int32) × (Nat → Int32)) => match u with | (u0, u1, u2) => u1 = upd fl k x1 ∧ u2 = upd fz k (nI nn)) (fun (u : (Nat → Nat → Int32) × (Nat → Int32) × (Nat → Int32)) (t : State) => match u with | (u0, u1, u2) => va_P (dC, dI) vwCl (([(h0, .inr (6, [.ref la, .ref si, .ref ce, .int x8, .int x9, .ref fi, .ref se])), (la, .inl (G 0, 4, .inl u1)), (si, .inl (G 0, 4, .inl u2)), (ce, .inl (G 4, 4, .inr (.inr (.inr (.inr (fun ir => if ir < 4 then some (rc ir) else none))))))] : va_W) ++ ((((List.range 4).map (fun iq => (rc iq, .inl (G 0, 40, .inl (u0 iq))))) : va_W) ++ [])) t.heap ∧ va_D (va_A (([(h0, .inr (6, [.ref la, .ref si, .ref ce, .int x8, .int x9, .ref fi, .ref se])), (la, .inl (G 0, 4, .inl fl)), (si, .inl (G 0, 4, .inl fz)), (ce, .inl (G 4, 4, .inr (.inr (.inr (.inr (fun ir => if ir < 4 then some (rc ir) else none))))))] : va_W) ++ ((((List.range 4).map (fun iq => (rc iq, .inl (G 0, 40, .inl (F iq))))) : va_W) ++ [])) sz) (([(h0, .inr (6, [.ref la, .ref si, .ref ce, .int x8, .int x9, .ref fi, .ref se])), (la, .inl (G 0, 4, .inl u1)), (si, .inl (G 0, 4, .inl u2)), (ce, .inl (G 4, 4, .inr (.inr (.inr (.inr (fun ir => if ir < 4 then some (rc ir) else none))))))] : va_W) ++ ((((List.range 4).map (fun iq => (rc iq, .inl (G 0, 40, .inl (u0 iq))))) : va_W) ++ []))) (va_A (([(h0, .inr (6, [.ref la, .ref si, .ref ce, .int x8, .int x9, .ref fi, .ref se])), (la, .inl (G 0, 4, .inl fl)), (si, .inl (G 0, 4, .inl fz)), (ce, .inl (G 4, 4, .inr (.inr (.inr (.inr (fun ir => if ir < 4 then some (rc ir) else none))))))] : va_W) ++ ((((List.range 4).map (fun iq => (rc iq, .inl (G 0, 40, .inl (F iq))))) : va_W) ++ [])) sz)) 0 0 (va_A (([(h0, .inr (6, [.ref la, .ref si, .ref ce, .int x8, .int x9, .ref fi, .ref se])), (la, .inl (G 0, 4, .inl fl)), (si, .inl (G 0, 4, .inl fz)), (ce, .inl (G 4, 4, .inr (.inr (.inr (.inr (fun ir => if ir < 4 then some (rc ir) else none))))))] : va_W) ++ ((((List.range 4).map (fun iq => (rc iq, .inl (G 0, 40, .inl (F iq))))) : va_W) ++ [])) sz) := by
  refine Met.ofW (cc := cX6_renew) (maxL := 5) (ret := none) (by decide) rfl ?_
  intro p e s m args below meth c s₁ Bd hml hv
  obtain ⟨rfl, hsz, hP, hK, hD0⟩ := hv
  have hx := Bd.exec
  have hb := Bd.bytes
  have hr := Bd.returns
  have hg : ∀ w ∈ GT, w.before ([.ref h0, .int (nI k), .int x1, .int (nI nn)] : List Value).toArray s = true := fun w h => atoms_spec (ws := Cond.code yX6_renew cX6_renew 5 none :: GT) Bd.pre w (List.mem_cons_of_mem _ h)
  have hown : s.vm.findClass RX6 = some m.cls := findClass_of_methodNamed Bd.named
  have hlocks := Bd.notSynchronized
  subst hsz
  have hD := hD0.self (sz := s.heap.size)
  generalize hAe : va_A (([(h0, .inr (6, [.ref la, .ref si, .ref ce, .int x8, .int x9, .ref fi, .ref se])), (la, .inl (G 0, 4, .inl fl)), (si, .inl (G 0, 4, .inl fz)), (ce, .inl (G 4, 4, .inr (.inr (.inr (.inr (fun ir => if ir < 4 then some (rc ir) else none))))))] : va_W) ++ ((((List.range 4).map (fun iq => (rc iq, .inl (G 0, 40, .inl (F iq))))) : va_W) ++ [])) s.heap.size = A at hD ⊢
  have hA : ∀ q : Nat, s.heap.size ≤ q → A q := fun q h => by rw [← hAe]; exact Or.inr h
  have hS : va_S A s.heap s.heap [] := va_S.rf
  have hl := lv_entry ([.ref h0, .int (nI k), .int x1, .int (nI nn)]) (n := 5) (Nat.le_of_ble_eq_true rfl)
  rw [lg_entry_eq]
  generalize (lg_sl ([.ref h0, .int (nI k), .int x1, .int (nI nn)]) ++ List.replicate (5 - (lg_sl ([.ref h0, .int (nI k), .int x1, .int (nI nn)])).length) Slot.unset).toArray = ls at hl ⊢
  have hl : lv_has ls 5 [(0, .ref h0), (1, .int (nI k)), (2, .int x1), (3, .int (nI nn))] := hl
  refine lv_iload_n hx hb dX6_renew_0 rfl (lv_at hl 1 rfl) ?_
  have hPc := hP.sub (ws' := []) [] rfl
  refine va_calli (va_runS (As := [.int (nI k)]) (rest := []) ⟨hx, hb, hml, hown, hg⟩ (c_X6_isSheet l dC dI G _ (nI k)) (kwS hg mfX6_isSheet wt_833 ⟨Nat.le_of_ble_eq_true rfl, Nat.le_of_ble_eq_true rfl⟩) (preSR hK hPc) rfl rfl hl.1 rfl (lv_room (Nat.le_of_ble_eq_true rfl)) dX6_renew_1 ⟨Nat.le_of_ble_eq_true rfl, Nat.le_of_ble_eq_true rfl⟩) hS (fun q h1 h2 => absurd h2 (Nat.not_le.mpr h1)) (fun q h => hA q (Nat.le_trans hS.1 h)) (fun r1 ur1 t H1 locs ht hvm w2 hB hz1 hk1 hS => ?_)
  have hP := keepR hP hk1
  obtain ⟨w2, w2x⟩ := w2
  try simp only [l_ii, show (0 : Int32).toInt = 0 from by decide, show (4 : Int32).toInt = 4 from by decide] at w2
  have tn162_ : nIT k := fun _ => nI_toInt (by omega)
  try rw [show (nI (k)).toInt = ((k : Nat) : Int) from tn162_ ()] at w2
  have tn163_ : nIT nn := fun _ => nI_toInt (by omega)
  have w2 : r1 = 1 := w2.trans (if_pos (by have tnb_ := nib2 tn162_ tn163_; omega))
  subst w2
  refine lv_if_eq (tgt := 17) hx hb dX6_renew_4 rfl (fun c3 => ?_) (fun c3 => ?_)
  · skip
    exact absurd c3 (by decide)
  · skip
    refine lv_iload_n hx hb dX6_renew_7 rfl (lv_at hl 3 rfl) ?_
    refine lv_if_lt (tgt := 17) hx hb dX6_renew_8 rfl (fun c4 => ?_) (fun c4 => ?_)
    · skip
      have t_c3 := neI c3
      have t_c4 := ltI c4
      have : (0 : Int32).toInt = 0 := qI_0
      have : (1 : Int32).toInt = 1 := qI_1
      have t_n0 : (nI k).toInt = (k : Int) := tn162_ ()
      have t_n1 : (nI nn).toInt = (nn : Int) := tn163_ ()
      exfalso; omega
    · skip
      have n5 : 0 ≤ nn := by have t := nltI c4; rw [show (nI (nn)).toInt = ((nn : Nat) : Int) from tn163_ ()] at t; have : (0 : Int32).toInt = 0 := qI_0; omega
      refine lv_iload_n hx hb dX6_renew_11 rfl (lv_at hl 3 rfl) ?_
      refine lv_bipush (v := 40) hx hb dX6_renew_12 rfl ?_
      refine lv_icmp_le (tgt := 18) hx hb dX6_renew_14 rfl (fun c6 => ?_) (fun c6 => ?_)
      · skip
        have n7 : nn ≤ 40 := by have t := leI c6; rw [show (nI (nn)).toInt = ((nn : Nat) : Int) from tn163_ ()] at t; have : (40 : Int32).toInt = 40 := qI_40; omega
        refine lv_aload_n hx hb dX6_renew_18 rfl (lv_at hl 0 rfl) ?_
        refine va_get (D := (dC, dI)) (ci := 6) (v := .ref la) (C := RX6) (T := TX6) (N := 7) hx hb hg inG6 hown hK.1 hP 0 rfl rfl 0 (Nat.le_of_ble_eq_true rfl) (hg _ wt_276) (fun _ h9 => h9) rfl dX6_renew_19 ?_
        refine lv_iload_n hx hb dX6_renew_22 rfl (lv_at hl 1 rfl) ?_
        refine lv_iload_n hx hb dX6_renew_23 rfl (lv_at hl 2 rfl) ?_
        refine va_iast hx hb hK.1 hP hD hS 1 0 rfl rfl (vp_in_nI (by first | omega | (have t_c3 := neI c3; have t_n5 := n5; have t_n7 := n7; have tqz_ := qz2_; have tnb_ := nib2 tn162_ tn163_; omega)) (by decide)) dX6_renew_24 (fun H locs hP hD hS => ?_)
        rw [nI_clamp (by omega)] at hP hD
        obtain ⟨hP, hD⟩ := va_rls (ws' := (([(h0, .inr (6, [.ref la, .ref si, .ref ce, .int x8, .int x9, .ref fi, .ref se])), (la, .inl (G 0, 4, .inl (upd fl k x1))), (si, .inl (G 0, 4, .inl fz)), (ce, .inl (G 4, 4, .inr (.inr (.inr (.inr (fun ir => if ir < 4 then some (rc ir) else none))))))] : va_W) ++ ((((List.range 4).map (fun iq => (rc iq, .inl (G 0, 40, .inl (F iq))))) : va_W) ++ []))) hP hD rfl
        refine lv_aload_n hx hb dX6_renew_25 rfl (lv_at hl 0 rfl) ?_
        refine va_get (D := (dC, dI)) (ci := 6) (v := .ref si) (C := RX6) (T := TX6) (N := 7) hx hb hg inG6 hown hK.1 hP 0 rfl rfl 1 (Nat.le_of_ble_eq_true rfl) (hg _ wt_277) (fun _ h9 => h9) rfl dX6_renew_26 ?_
        refine lv_iload_n hx hb dX6_renew_29 rfl (lv_at hl 1 rfl) ?_
        refine lv_iload_n hx hb dX6_renew_30 rfl (lv_at hl 3 rfl) ?_
        refine va_iast hx hb hK.1 hP hD hS 2 0 rfl rfl (vp_in_nI (by first | omega | (have t_c3 := neI c3; have t_n5 := n5; have t_n7 := n7; have tqz_ := qz2_; have tnb_ := nib2 tn162_ tn163_; omega)) (by decide)) dX6_renew_31 (fun H locs hP hD hS => ?_)
        rw [nI_clamp (by omega)] at hP hD
        obtain ⟨hP, hD⟩ := va_rls (ws' := (([(h0, .inr (6, [.ref la, .ref si, .ref ce, .int x8, .int x9, .ref fi, .ref se])), (la, .inl (G 0, 4, .inl (upd fl k x1))), (si, .inl (G 0, 4, .inl (upd fz k (nI nn)))), (ce, .inl (G 4, 4, .inr (.inr (.inr (.inr (fun ir => if ir < 4 then some (rc ir) else none))))))] : va_W) ++ ((((List.range 4).map (fun iq => (rc iq, .inl (G 0, 40, .inl (F iq))))) : va_W) ++ []))) hP hD rfl
        refine lv_iconst (v := 0) hx hb dX6_renew_32 rfl ?_
        refine lv_istore (lv' := [(4, .int 0), (0, .ref h0), (1, .int (nI k)), (2, .int x1), (3, .int (nI nn))]) hx hb dX6_renew_33 hl (by decide) rfl (fun ls hl => ?_)
        have loop35_10 : ∀ (nf j8 : Nat), nn + 1 ≤ j8 + nf → j8 ≤ nn → ∀ (g9 : Nat → Nat → Int32) (H : Heap) (locs : List Loc), va_P (dC, dI) vwCl (([(h0, .inr (6, [.ref la, .ref si, .ref ce, .int x8, .int x9, .ref fi, .ref se])), (la, .inl (G 0, 4, .inl (upd fl k x1))), (si, .inl (G 0, 4, .inl (upd fz k (nI nn)))), (ce, .inl (G 4, 4, .inr (.inr (.inr (.inr (fun ir => if ir < 4 then some (rc ir) else none))))))] : va_W) ++ ((((List.range 4).map (fun iq => (rc iq, .inl (G 0, 40, .inl (g9 iq))))) : va_W) ++ [])) H → va_D A (([(h0, .inr (6, [.ref la, .ref si, .ref ce, .int x8, .int x9, .ref fi, .ref se])), (la, .inl (G 0, 4, .inl (upd fl k x1))), (si, .inl (G 0, 4, .inl (upd fz k (nI nn)))), (ce, .inl (G 4, 4, .inr (.inr (.inr (.inr (fun ir => if ir < 4 then some (rc ir) else none))))))] : va_W) ++ ((((List.range 4).map (fun iq => (rc iq, .inl (G 0, 40, .inl (g9 iq))))) : va_W) ++ [])) → va_S A s.heap H locs → ∀ (ls : Array Slot), lv_has ls 5 [(4, .int (nI j8)), (0, .ref h0), (1, .int (nI k)), (2, .int x1), (3, .int (nI nn))] → W p l e (headSpec (Cond.code yX6_renew cX6_renew 5 none :: GT) ({ frames := 1, cells := 0, slots := 0, locals := 20 } : Room)).room s m ([.ref h0, .int (nI k), .int x1, .int (nI nn)] : List Value).toArray below meth c H locs 0 0 (MQ below (va_Qv (fun (u : (Nat → Nat → Int32) × (Nat → Int32) × (Nat → Int32)) => match u with | (u0, u1, u2) => u1 = upd fl k x1 ∧ u2 = upd fz k (nI nn)) (fun (u : (Nat → Nat → Int32) × (Nat → Int32) × (Nat → Int32)) (t : State) => match u with | (u0, u1, u2) => va_P (dC, dI) vwCl (([(h0, .inr (6, [.ref la, .ref si, .ref ce, .int x8, .int x9, .ref fi, .ref se])), (la, .inl (G 0, 4, .inl u1)), (si, .inl (G 0, 4, .inl u2)), (ce, .inl (G 4, 4, .inr (.inr (.inr (.inr (fun ir => if ir < 4 then some (rc ir) else none))))))] : va_W) ++ ((((List.range 4).map (fun iq => (rc iq, .inl (G 0, 40, .inl (u0 iq))))) : va_W) ++ [])) t.heap ∧ va_D A (([(h0, .inr (6, [.ref la, .ref si, .ref ce, .int x8, .int x9, .ref fi, .ref se])), (la, .inl (G 0, 4, .inl u1)), (si, .inl (G 0, 4, .inl u2)), (ce, .inl (G 4, 4, .inr (.inr (.inr (.inr (fun ir => if ir < 4 then some (rc ir) else none))))))] : va_W) ++ ((((List.range 4).map (fun iq => (rc iq, .inl (G 0, 40, .inl (u0 iq))))) : va_W) ++ []))) A) ([.ref h0, .int (nI k), .int x1, .int (nI nn)] : List Value).toArray s 0 0 A) (F0 m 35 ls []) := by
          intro nf
          induction nf with
          | zero => intro j8 h1 h2; exact absurd h1 (by omega)
          | succ nf ih35_10 =>
            intro j8 hn11 hj12 g9 H locs hP hD hS ls hl
            refine lv_iload hx hb dX6_renew_35 (lv_at hl 0 rfl) ?_
            refine lv_iload_n hx hb dX6_renew_37 rfl (lv_at hl 4 rfl) ?_
            refine lv_icmp_ge (tgt := 57) hx hb dX6_renew_38 rfl (fun c13 => ?_) (fun c13 => ?_)
            · skip
              have tn164_ : nIT j8 := fun _ => nI_toInt (by first | omega | (have t := leI c13; omega))
              have n14 : nn ≤ j8 := by have t := leI c13; rw [show (nI (j8)).toInt = ((j8 : Nat) : Int) from tn164_ ()] at t; rw [show (nI (nn)).toInt = ((nn : Nat) : Int) from tn163_ ()] at t; omega
              obtain ⟨hP9, hD9⟩ := va_sub2 (ws' := (([(h0, .inr (6, [.ref la, .ref si, .ref ce, .int x8, .int x9, .ref fi, .ref se])), (la, .inl (G 0, 4, .inl (upd fl k x1))), (si, .inl (G 0, 4, .inl (upd fz k (nI nn)))), (ce, .inl (G 4, 4, .inr (.inr (.inr (.inr (fun ir => if ir < 4 then some (rc ir) else none))))))] : va_W) ++ ((((List.range 4).map (fun iq => (rc iq, .inl (G 0, 40, .inl (g9 iq))))) : va_W) ++ []))) hP hD [0, 1, 2, 3, 4, 5, 6, 7] (by decide +kernel) rfl
              refine W.widen (k := 0) (n := 0) (Nat.le_of_ble_eq_true rfl) (Nat.le_of_ble_eq_true rfl) ?_
              exact W.vret hx hb hr (fun t ht hW => ⟨⟨(g9, (upd fl k x1), (upd fz k (nI nn))), rfl, ⟨rfl, rfl⟩, ⟨by rw [ht]; exact hP9, hD9⟩⟩, hS.F ht⟩) hS.2.2 dX6_renew_57
            · skip
              have tn165_ : nIT j8 := fun _ => nI_toInt (by first | omega | (have t := nleI c13; omega))
              have n15 : j8 < nn := by have t := nleI c13; rw [show (nI (j8)).toInt = ((j8 : Nat) : Int) from tn165_ ()] at t; rw [show (nI (nn)).toInt = ((nn : Nat) : Int) from tn163_ ()] at t; omega
              refine lv_aload_n hx hb dX6_renew_41 rfl (lv_at hl 1 rfl) ?_
              refine va_get (D := (dC, dI)) (ci := 6) (v := .ref ce) (C := RX6) (T := TX6) (N := 7) hx hb hg inG6 hown hK.1 hP 0 rfl rfl 2 (Nat.le_of_ble_eq_true rfl) (hg _ wt_278) (fun _ h9 => h9) rfl dX6_renew_42 ?_
              refine lv_iload_n hx hb dX6_renew_45 rfl (lv_at hl 2 rfl) ?_
              refine va_aldA hx hb hK.1 hP 3 4 rfl rfl (vp_in_nI (by first | omega | (have t_c3 := neI c3; have t_n5 := n5; have t_n7 := n7; have t_hj12 := hj12; have t_n15 := n15; have tqz_ := qz2_; have tnb_ := nib3 tn162_ tn163_ tn165_; omega)) (by decide)) dX6_renew_46 ?_
              refine lv_cgv (y := .ref (rc k)) (rowref (by first | omega | (have t_c3 := neI c3; have t_n5 := n5; have t_n7 := n7; have t_hj12 := hj12; have t_n15 := n15; have tqz_ := qz2_; have tnb_ := nib3 tn162_ tn163_ tn165_; omega)) (by decide)) ?_
              refine lv_iload hx hb dX6_renew_47 (lv_at hl 0 rfl) ?_
              refine lv_iconst (v := 0) hx hb dX6_renew_49 rfl ?_
              refine va_iastB (j := k) hx hb hK.1 hP hD hS 0 (by first | omega | (have t_c3 := neI c3; have t_n5 := n5; have t_n7 := n7; have t_hj12 := hj12; have t_n15 := n15; have tqz_ := qz2_; have tnb_ := nib3 tn162_ tn163_ tn165_; omega)) rfl (vp_in_nI (by first | omega | (have t_c3 := neI c3; have t_n5 := n5; have t_n7 := n7; have t_hj12 := hj12; have t_n15 := n15; have tqz_ := qz2_; have tnb_ := nib3 tn162_ tn163_ tn165_; omega)) (by decide)) dX6_renew_50 (fun H locs hP hD hS => ?_)
              rw [nI_clamp (by first | omega | (have t_c3 := neI c3; have t_n5 := n5; have t_n7 := n7; have t_hj12 := hj12; have t_n15 := n15; have tqz_ := qz2_; have tnb_ := nib3 tn162_ tn163_ tn165_; omega))] at hP hD
              obtain ⟨hP, hD⟩ := va_rls (ws' := (([(h0, .inr (6, [.ref la, .ref si, .ref ce, .int x8, .int x9, .ref fi, .ref se])), (la, .inl (G 0, 4, .inl (upd fl k x1))), (si, .inl (G 0, 4, .inl (upd fz k (nI nn)))), (ce, .inl (G 4, 4, .inr (.inr (.inr (.inr (fun ir => if ir < 4 then some (rc ir) else none))))))] : va_W) ++ ((((List.range 4).map (fun iq => (rc iq, .inl (G 0, 40, .inl ((va_up g9 k (upd (g9 k) j8 0)) iq))))) : va_W) ++ []))) hP hD rfl
              refine lv_iinc (v := nI (j8 + 1)) (lv' := [(4, .int (nI (j8 + 1))), (0, .ref h0), (1, .int (nI k)), (2, .int x1), (3, .int (nI nn))]) hx hb dX6_renew_51 hl (k := 0) rfl (by rw [show Int32.ofInt 1 = nI 1 from by decide]; exact nI_add _ _) (by decide) rfl (fun ls hl => ?_)
              refine lv_goto (tgt := 35) hx hb dX6_renew_54 rfl ?_
              exact ih35_10 (j8 + 1) (by omega) (by omega) (va_up g9 k (upd (g9 k) j8 0)) _ _ hP hD hS ls (lv_sub hl [0, 1, 2, 3, 4] rfl)
        exact loop35_10 (nn + 1) 0 (by omega) (by omega) F _ _ hP hD hS ls (lv_sub hl [0, 1, 2, 3, 4] rfl)
      · skip
        have t_c3 := neI c3
        have t_n5 := n5
        have t_c6 := nleI c6
        have : (0 : Int32).toInt = 0 := qI_0
        have : (1 : Int32).toInt = 1 := qI_1
        have : (40 : Int32).toInt = 40 := qI_40
        have t_n0 : (nI k).toInt = (k : Int) := tn162_ ()
        have t_n1 : (nI nn).toInt = (nn : Int) := tn163_ ()
        exfalso; omega

set_option maxHeartbeats 1000000 in
set_option maxRecDepth 100000 in
theorem c_X10_isFractionPart (l : Launch) (dC : Nat → ClassId) (dI : Nat → Nat → Nat) (G : Nat → ClassId) (sz : Nat) (i : Int32)  : Met l yX10_isFractionPart (Cond.code yX10_isFractionPart cX10_isFractionPart 1 (some .boolean) :: GT) ({ frames := 0, cells := 0, slots := 0, locals := 0 } : Room) (PcR [.int i] dC dI G [] sz) (va_Qi (fun (r : Int32) (u : Unit) => match u with | _ => (r = if 0 ≤ i.toInt ∧ i.toInt ≤ 1 then 1 else 0) ∧ True) (fun _ _ => True) (fun q : Nat => sz ≤ q)) 0 0 (fun q : Nat => sz ≤ q) := by
  refine Met.ofW (cc := cX10_isFractionPart) (maxL := 1) (ret := (some .boolean)) (by decide) rfl ?_
  intro p e s m args below meth c s₁ Bd hml hv
  obtain ⟨rfl, hsz, hP, hK⟩ := hv
  have hx := Bd.exec
  have hb := Bd.bytes
  have hr := Bd.returns
  have hg : ∀ w ∈ GT, w.before ([.int i] : List Value).toArray s = true := fun w h => atoms_spec (ws := Cond.code yX10_isFractionPart cX10_isFractionPart 1 (some .boolean) :: GT) Bd.pre w (List.mem_cons_of_mem _ h)
  have hown : s.vm.findClass RX10 = some m.cls := findClass_of_methodNamed Bd.named
  have hlocks := Bd.notSynchronized
  subst hsz
  have hA : ∀ q : Nat, s.heap.size ≤ q → (fun q : Nat => s.heap.size ≤ q) q := fun _ h => h
  have hS : va_S (fun q : Nat => s.heap.size ≤ q) s.heap s.heap [] := va_S.rf
  have hl := lv_entry ([.int i]) (n := 1) (Nat.le_of_ble_eq_true rfl)
  rw [lg_entry_eq]
  generalize (lg_sl ([.int i]) ++ List.replicate (1 - (lg_sl ([.int i])).length) Slot.unset).toArray = ls at hl ⊢
  have hl : lv_has ls 1 [(0, .int i)] := hl
  refine lv_iload_n hx hb dX10_isFractionPart_0 rfl (lv_at hl 0 rfl) ?_
  refine lv_if_eq (tgt := 9) hx hb dX10_isFractionPart_1 rfl (fun c1 => ?_) (fun c1 => ?_)
  · skip
    refine lv_iconst (v := 1) hx hb dX10_isFractionPart_9 rfl ?_
    refine lv_goto (tgt := 14) hx hb dX10_isFractionPart_10 rfl ?_
    have hpost : (1 : Int32) = if 0 ≤ i.toInt ∧ i.toInt ≤ 1 then 1 else 0 := by
      have t_c1 := eqI c1
      have : (0 : Int32).toInt = 0 := qI_0
      first | rfl | ((repeat' split) <;> first | rfl | omega)
    refine W.widen (k := 0) (n := 0) (Nat.le_of_ble_eq_true rfl) (Nat.le_of_ble_eq_true rfl) ?_
    exact W.zret (v := 1) hx hb hr (by first | rfl | decide | exact rfl) (fun t ht hW => ⟨⟨1, (), rfl, ⟨hpost, trivial⟩, trivial⟩, hS.F ht⟩) hS.2.2 dX10_isFractionPart_14
  · skip
    refine lv_iload_n hx hb dX10_isFractionPart_4 rfl (lv_at hl 0 rfl) ?_
    refine lv_iconst (v := 1) hx hb dX10_isFractionPart_5 rfl ?_
    refine lv_icmp_ne (tgt := 13) hx hb dX10_isFractionPart_6 rfl (fun c2 => ?_) (fun c2 => ?_)
    · skip
      refine lv_iconst (v := 0) hx hb dX10_isFractionPart_13 rfl ?_
      have hpost : (0 : Int32) = if 0 ≤ i.toInt ∧ i.toInt ≤ 1 then 1 else 0 := by
        have t_c1 := neI c1
        have t_c2 := neI c2
        have : (0 : Int32).toInt = 0 := qI_0
        have : (1 : Int32).toInt = 1 := qI_1
        first | rfl | ((repeat' split) <;> first | rfl | omega)
      refine W.widen (k := 0) (n := 0) (Nat.le_of_ble_eq_true rfl) (Nat.le_of_ble_eq_true rfl) ?_
      exact W.zret (v := 0) hx hb hr (by first | rfl | decide | exact rfl) (fun t ht hW => ⟨⟨0, (), rfl, ⟨hpost, trivial⟩, trivial⟩, hS.F ht⟩) hS.2.2 dX10_isFractionPart_14
    · skip
      refine lv_iconst (v := 1) hx hb dX10_isFractionPart_9 rfl ?_
      refine lv_goto (tgt := 14) hx hb dX10_isFractionPart_10 rfl ?_
      have hpost : (1 : Int32) = if 0 ≤ i.toInt ∧ i.toInt ≤ 1 then 1 else 0 := by
        have t_c1 := neI c1
        have t_c2 := eqI c2
        have : (0 : Int32).toInt = 0 := qI_0
        have : (1 : Int32).toInt = 1 := qI_1
        first | rfl | ((repeat' split) <;> first | rfl | omega)
      refine W.widen (k := 0) (n := 0) (Nat.le_of_ble_eq_true rfl) (Nat.le_of_ble_eq_true rfl) ?_
      exact W.zret (v := 1) hx hb hr (by first | rfl | decide | exact rfl) (fun t ht hW => ⟨⟨1, (), rfl, ⟨hpost, trivial⟩, trivial⟩, hS.F ht⟩) hS.2.2 dX10_isFractionPart_14

set_option maxHeartbeats 1000000 in
set_option maxRecDepth 100000 in
theorem c_X10_isAnswerPart (l : Launch) (dC : Nat → ClassId) (dI : Nat → Nat → Nat) (G : Nat → ClassId) (sz : Nat) (i : Int32)  : Met l yX10_isAnswerPart (Cond.code yX10_isAnswerPart cX10_isAnswerPart 1 (some .boolean) :: GT) ({ frames := 0, cells := 0, slots := 0, locals := 0 } : Room) (PcR [.int i] dC dI G [] sz) (va_Qi (fun (r : Int32) (u : Unit) => match u with | _ => (r = if 0 ≤ i.toInt ∧ i.toInt ≤ 2 then 1 else 0) ∧ True) (fun _ _ => True) (fun q : Nat => sz ≤ q)) 0 0 (fun q : Nat => sz ≤ q) := by
  refine Met.ofW (cc := cX10_isAnswerPart) (maxL := 1) (ret := (some .boolean)) (by decide) rfl ?_
  intro p e s m args below meth c s₁ Bd hml hv
  obtain ⟨rfl, hsz, hP, hK⟩ := hv
  have hx := Bd.exec
  have hb := Bd.bytes
  have hr := Bd.returns
  have hg : ∀ w ∈ GT, w.before ([.int i] : List Value).toArray s = true := fun w h => atoms_spec (ws := Cond.code yX10_isAnswerPart cX10_isAnswerPart 1 (some .boolean) :: GT) Bd.pre w (List.mem_cons_of_mem _ h)
  have hown : s.vm.findClass RX10 = some m.cls := findClass_of_methodNamed Bd.named
  have hlocks := Bd.notSynchronized
  subst hsz
  have hA : ∀ q : Nat, s.heap.size ≤ q → (fun q : Nat => s.heap.size ≤ q) q := fun _ h => h
  have hS : va_S (fun q : Nat => s.heap.size ≤ q) s.heap s.heap [] := va_S.rf
  have hl := lv_entry ([.int i]) (n := 1) (Nat.le_of_ble_eq_true rfl)
  rw [lg_entry_eq]
  generalize (lg_sl ([.int i]) ++ List.replicate (1 - (lg_sl ([.int i])).length) Slot.unset).toArray = ls at hl ⊢
  have hl : lv_has ls 1 [(0, .int i)] := hl
  refine lv_iload_n hx hb dX10_isAnswerPart_0 rfl (lv_at hl 0 rfl) ?_
  refine lv_if_lt (tgt := 13) hx hb dX10_isAnswerPart_1 rfl (fun c1 => ?_) (fun c1 => ?_)
  · skip
    refine lv_iconst (v := 0) hx hb dX10_isAnswerPart_13 rfl ?_
    have hpost : (0 : Int32) = if 0 ≤ i.toInt ∧ i.toInt ≤ 2 then 1 else 0 := by
      have t_c1 := ltI c1
      have : (0 : Int32).toInt = 0 := qI_0
      first | rfl | ((repeat' split) <;> first | rfl | omega)
    refine W.widen (k := 0) (n := 0) (Nat.le_of_ble_eq_true rfl) (Nat.le_of_ble_eq_true rfl) ?_
    exact W.zret (v := 0) hx hb hr (by first | rfl | decide | exact rfl) (fun t ht hW => ⟨⟨0, (), rfl, ⟨hpost, trivial⟩, trivial⟩, hS.F ht⟩) hS.2.2 dX10_isAnswerPart_14
  · skip
    refine lv_iload_n hx hb dX10_isAnswerPart_4 rfl (lv_at hl 0 rfl) ?_
    refine lv_iconst (v := 2) hx hb dX10_isAnswerPart_5 rfl ?_
    refine lv_icmp_gt (tgt := 13) hx hb dX10_isAnswerPart_6 rfl (fun c2 => ?_) (fun c2 => ?_)
    · skip
      refine lv_iconst (v := 0) hx hb dX10_isAnswerPart_13 rfl ?_
      have hpost : (0 : Int32) = if 0 ≤ i.toInt ∧ i.toInt ≤ 2 then 1 else 0 := by
        have t_c1 := nltI c1
        have t_c2 := ltI c2
        have : (0 : Int32).toInt = 0 := qI_0
        have : (2 : Int32).toInt = 2 := qI_2
        first | rfl | ((repeat' split) <;> first | rfl | omega)
      refine W.widen (k := 0) (n := 0) (Nat.le_of_ble_eq_true rfl) (Nat.le_of_ble_eq_true rfl) ?_
      exact W.zret (v := 0) hx hb hr (by first | rfl | decide | exact rfl) (fun t ht hW => ⟨⟨0, (), rfl, ⟨hpost, trivial⟩, trivial⟩, hS.F ht⟩) hS.2.2 dX10_isAnswerPart_14
    · skip
      refine lv_iconst (v := 1) hx hb dX10_isAnswerPart_9 rfl ?_
      refine lv_goto (tgt := 14) hx hb dX10_isAnswerPart_10 rfl ?_
      have hpost : (1 : Int32) = if 0 ≤ i.toInt ∧ i.toInt ≤ 2 then 1 else 0 := by
        have t_c1 := nltI c1
        have t_c2 := nltI c2
        have : (0 : Int32).toInt = 0 := qI_0
        have : (2 : Int32).toInt = 2 := qI_2
        first | rfl | ((repeat' split) <;> first | rfl | omega)
      refine W.widen (k := 0) (n := 0) (Nat.le_of_ble_eq_true rfl) (Nat.le_of_ble_eq_true rfl) ?_
      exact W.zret (v := 1) hx hb hr (by first | rfl | decide | exact rfl) (fun t ht hW => ⟨⟨1, (), rfl, ⟨hpost, trivial⟩, trivial⟩, hS.F ht⟩) hS.2.2 dX10_isAnswerPart_14

set_option maxHeartbeats 1000000 in
set_option maxRecDepth 100000 in
theorem c_X10_isDepth (l : Launch) (dC : Nat → ClassId) (dI : Nat → Nat → Nat) (G : Nat → ClassId) (sz : Nat) (i : Int32)  : Met l yX10_isDepth (Cond.code yX10_isDepth cX10_isDepth 1 (some .boolean) :: GT) ({ frames := 0, cells := 0, slots := 0, locals := 0 } : Room) (PcR [.int i] dC dI G [] sz) (va_Qi (fun (r : Int32) (u : Unit) => match u with | _ => (r = if 0 ≤ i.toInt ∧ i.toInt ≤ 9 then 1 else 0) ∧ True) (fun _ _ => True) (fun q : Nat => sz ≤ q)) 0 0 (fun q : Nat => sz ≤ q) := by
  refine Met.ofW (cc := cX10_isDepth) (maxL := 1) (ret := (some .boolean)) (by decide) rfl ?_
  intro p e s m args below meth c s₁ Bd hml hv
  obtain ⟨rfl, hsz, hP, hK⟩ := hv
  have hx := Bd.exec
  have hb := Bd.bytes
  have hr := Bd.returns
  have hg : ∀ w ∈ GT, w.before ([.int i] : List Value).toArray s = true := fun w h => atoms_spec (ws := Cond.code yX10_isDepth cX10_isDepth 1 (some .boolean) :: GT) Bd.pre w (List.mem_cons_of_mem _ h)
  have hown : s.vm.findClass RX10 = some m.cls := findClass_of_methodNamed Bd.named
  have hlocks := Bd.notSynchronized
  subst hsz
  have hA : ∀ q : Nat, s.heap.size ≤ q → (fun q : Nat => s.heap.size ≤ q) q := fun _ h => h
  have hS : va_S (fun q : Nat => s.heap.size ≤ q) s.heap s.heap [] := va_S.rf
  have hl := lv_entry ([.int i]) (n := 1) (Nat.le_of_ble_eq_true rfl)
  rw [lg_entry_eq]
  generalize (lg_sl ([.int i]) ++ List.replicate (1 - (lg_sl ([.int i])).length) Slot.unset).toArray = ls at hl ⊢
  have hl : lv_has ls 1 [(0, .int i)] := hl
  refine lv_iload_n hx hb dX10_isDepth_0 rfl (lv_at hl 0 rfl) ?_
  refine lv_if_lt (tgt := 14) hx hb dX10_isDepth_1 rfl (fun c1 => ?_) (fun c1 => ?_)
  · skip
    refine lv_iconst (v := 0) hx hb dX10_isDepth_14 rfl ?_
    have hpost : (0 : Int32) = if 0 ≤ i.toInt ∧ i.toInt ≤ 9 then 1 else 0 := by
      have t_c1 := ltI c1
      have : (0 : Int32).toInt = 0 := qI_0
      first | rfl | ((repeat' split) <;> first | rfl | omega)
    refine W.widen (k := 0) (n := 0) (Nat.le_of_ble_eq_true rfl) (Nat.le_of_ble_eq_true rfl) ?_
    exact W.zret (v := 0) hx hb hr (by first | rfl | decide | exact rfl) (fun t ht hW => ⟨⟨0, (), rfl, ⟨hpost, trivial⟩, trivial⟩, hS.F ht⟩) hS.2.2 dX10_isDepth_15
  · skip
    refine lv_iload_n hx hb dX10_isDepth_4 rfl (lv_at hl 0 rfl) ?_
    refine lv_bipush (v := 9) hx hb dX10_isDepth_5 rfl ?_
    refine lv_icmp_gt (tgt := 14) hx hb dX10_isDepth_7 rfl (fun c2 => ?_) (fun c2 => ?_)
    · skip
      refine lv_iconst (v := 0) hx hb dX10_isDepth_14 rfl ?_
      have hpost : (0 : Int32) = if 0 ≤ i.toInt ∧ i.toInt ≤ 9 then 1 else 0 := by
        have t_c1 := nltI c1
        have t_c2 := ltI c2
        have : (0 : Int32).toInt = 0 := qI_0
        have : (9 : Int32).toInt = 9 := qI_9
        first | rfl | ((repeat' split) <;> first | rfl | omega)
      refine W.widen (k := 0) (n := 0) (Nat.le_of_ble_eq_true rfl) (Nat.le_of_ble_eq_true rfl) ?_
      exact W.zret (v := 0) hx hb hr (by first | rfl | decide | exact rfl) (fun t ht hW => ⟨⟨0, (), rfl, ⟨hpost, trivial⟩, trivial⟩, hS.F ht⟩) hS.2.2 dX10_isDepth_15
    · skip
      refine lv_iconst (v := 1) hx hb dX10_isDepth_10 rfl ?_
      refine lv_goto (tgt := 15) hx hb dX10_isDepth_11 rfl ?_
      have hpost : (1 : Int32) = if 0 ≤ i.toInt ∧ i.toInt ≤ 9 then 1 else 0 := by
        have t_c1 := nltI c1
        have t_c2 := nltI c2
        have : (0 : Int32).toInt = 0 := qI_0
        have : (9 : Int32).toInt = 9 := qI_9
        first | rfl | ((repeat' split) <;> first | rfl | omega)
      refine W.widen (k := 0) (n := 0) (Nat.le_of_ble_eq_true rfl) (Nat.le_of_ble_eq_true rfl) ?_
      exact W.zret (v := 1) hx hb hr (by first | rfl | decide | exact rfl) (fun t ht hW => ⟨⟨1, (), rfl, ⟨hpost, trivial⟩, trivial⟩, hS.F ht⟩) hS.2.2 dX10_isDepth_15

set_option maxHeartbeats 1000000 in
set_option maxRecDepth 100000 in
theorem c_X10_isImage (l : Launch) (dC : Nat → ClassId) (dI : Nat → Nat → Nat) (G : Nat → ClassId) (sz : Nat) (i : Int32)  : Met l yX10_isImage (Cond.code yX10_isImage cX10_isImage 1 (some .boolean) :: GT) ({ frames := 0, cells := 0, slots := 0, locals := 0 } : Room) (PcR [.int i] dC dI G [] sz) (va_Qi (fun (r : Int32) (u : Unit) => match u with | _ => (r = if 0 ≤ i.toInt ∧ i.toInt < 2 then 1 else 0) ∧ True) (fun _ _ => True) (fun q : Nat => sz ≤ q)) 0 0 (fun q : Nat => sz ≤ q) := by
  refine Met.ofW (cc := cX10_isImage) (maxL := 1) (ret := (some .boolean)) (by decide) rfl ?_
  intro p e s m args below meth c s₁ Bd hml hv
  obtain ⟨rfl, hsz, hP, hK⟩ := hv
  have hx := Bd.exec
  have hb := Bd.bytes
  have hr := Bd.returns
  have hg : ∀ w ∈ GT, w.before ([.int i] : List Value).toArray s = true := fun w h => atoms_spec (ws := Cond.code yX10_isImage cX10_isImage 1 (some .boolean) :: GT) Bd.pre w (List.mem_cons_of_mem _ h)
  have hown : s.vm.findClass RX10 = some m.cls := findClass_of_methodNamed Bd.named
  have hlocks := Bd.notSynchronized
  subst hsz
  have hA : ∀ q : Nat, s.heap.size ≤ q → (fun q : Nat => s.heap.size ≤ q) q := fun _ h => h
  have hS : va_S (fun q : Nat => s.heap.size ≤ q) s.heap s.heap [] := va_S.rf
  have hl := lv_entry ([.int i]) (n := 1) (Nat.le_of_ble_eq_true rfl)
  rw [lg_entry_eq]
  generalize (lg_sl ([.int i]) ++ List.replicate (1 - (lg_sl ([.int i])).length) Slot.unset).toArray = ls at hl ⊢
  have hl : lv_has ls 1 [(0, .int i)] := hl
  refine lv_iload_n hx hb dX10_isImage_0 rfl (lv_at hl 0 rfl) ?_
  refine lv_if_lt (tgt := 13) hx hb dX10_isImage_1 rfl (fun c1 => ?_) (fun c1 => ?_)
  · skip
    refine lv_iconst (v := 0) hx hb dX10_isImage_13 rfl ?_
    have hpost : (0 : Int32) = if 0 ≤ i.toInt ∧ i.toInt < 2 then 1 else 0 := by
      have t_c1 := ltI c1
      have : (0 : Int32).toInt = 0 := qI_0
      first | rfl | ((repeat' split) <;> first | rfl | omega)
    refine W.widen (k := 0) (n := 0) (Nat.le_of_ble_eq_true rfl) (Nat.le_of_ble_eq_true rfl) ?_
    exact W.zret (v := 0) hx hb hr (by first | rfl | decide | exact rfl) (fun t ht hW => ⟨⟨0, (), rfl, ⟨hpost, trivial⟩, trivial⟩, hS.F ht⟩) hS.2.2 dX10_isImage_14
  · skip
    refine lv_iload_n hx hb dX10_isImage_4 rfl (lv_at hl 0 rfl) ?_
    refine lv_iconst (v := 2) hx hb dX10_isImage_5 rfl ?_
    refine lv_icmp_ge (tgt := 13) hx hb dX10_isImage_6 rfl (fun c2 => ?_) (fun c2 => ?_)
    · skip
      refine lv_iconst (v := 0) hx hb dX10_isImage_13 rfl ?_
      have hpost : (0 : Int32) = if 0 ≤ i.toInt ∧ i.toInt < 2 then 1 else 0 := by
        have t_c1 := nltI c1
        have t_c2 := leI c2
        have : (0 : Int32).toInt = 0 := qI_0
        have : (2 : Int32).toInt = 2 := qI_2
        first | rfl | ((repeat' split) <;> first | rfl | omega)
      refine W.widen (k := 0) (n := 0) (Nat.le_of_ble_eq_true rfl) (Nat.le_of_ble_eq_true rfl) ?_
      exact W.zret (v := 0) hx hb hr (by first | rfl | decide | exact rfl) (fun t ht hW => ⟨⟨0, (), rfl, ⟨hpost, trivial⟩, trivial⟩, hS.F ht⟩) hS.2.2 dX10_isImage_14
    · skip
      refine lv_iconst (v := 1) hx hb dX10_isImage_9 rfl ?_
      refine lv_goto (tgt := 14) hx hb dX10_isImage_10 rfl ?_
      have hpost : (1 : Int32) = if 0 ≤ i.toInt ∧ i.toInt < 2 then 1 else 0 := by
        have t_c1 := nltI c1
        have t_c2 := nleI c2
        have : (0 : Int32).toInt = 0 := qI_0
        have : (2 : Int32).toInt = 2 := qI_2
        first | rfl | ((repeat' split) <;> first | rfl | omega)
      refine W.widen (k := 0) (n := 0) (Nat.le_of_ble_eq_true rfl) (Nat.le_of_ble_eq_true rfl) ?_
      exact W.zret (v := 1) hx hb hr (by first | rfl | decide | exact rfl) (fun t ht hW => ⟨⟨1, (), rfl, ⟨hpost, trivial⟩, trivial⟩, hS.F ht⟩) hS.2.2 dX10_isImage_14

set_option maxHeartbeats 1000000 in
set_option maxRecDepth 100000 in
theorem c_X10_commonDivisor (l : Launch) (dC : Nat → ClassId) (dI : Nat → Nat → Nat) (G : Nat → ClassId) (sz : Nat) (v q1 : Int64)  : Met l yX10_commonDivisor (Cond.code yX10_commonDivisor cX10_commonDivisor 11 (some .long) :: GT) ({ frames := 0, cells := 0, slots := 0, locals := 0 } : Room) (PcR [.long v, .long q1] dC dI G [] sz) (va_Ql (fun (r : Int64) (u : Unit) => match u with | _ => (True) ∧ True) (fun _ _ => True) (fun q : Nat => sz ≤ q)) 0 0 (fun q : Nat => sz ≤ q) := by
  refine Met.ofW (cc := cX10_commonDivisor) (maxL := 11) (ret := (some .long)) (by decide) rfl ?_
  intro p e s m args below meth c s₁ Bd hml hv
  obtain ⟨rfl, hsz, hP, hK⟩ := hv
  have hx := Bd.exec
  have hb := Bd.bytes
  have hr := Bd.returns
  have hg : ∀ w ∈ GT, w.before ([.long v, .long q1] : List Value).toArray s = true := fun w h => atoms_spec (ws := Cond.code yX10_commonDivisor cX10_commonDivisor 11 (some .long) :: GT) Bd.pre w (List.mem_cons_of_mem _ h)
  have hown : s.vm.findClass RX10 = some m.cls := findClass_of_methodNamed Bd.named
  have hlocks := Bd.notSynchronized
  subst hsz
  have hA : ∀ q : Nat, s.heap.size ≤ q → (fun q : Nat => s.heap.size ≤ q) q := fun _ h => h
  have hS : va_S (fun q : Nat => s.heap.size ≤ q) s.heap s.heap [] := va_S.rf
  have hl := lv_entry ([.long v, .long q1]) (n := 11) (Nat.le_of_ble_eq_true rfl)
  rw [lg_entry_eq]
  generalize (lg_sl ([.long v, .long q1]) ++ List.replicate (11 - (lg_sl ([.long v, .long q1])).length) Slot.unset).toArray = ls at hl ⊢
  have hl : lv_has ls 11 [(0, .long v), (2, .long q1)] := hl
  refine lv_lload_n hx hb dX10_commonDivisor_0 rfl (lv_at hl 0 rfl) ?_
  refine lv_lstore (lv' := [(4, .long v), (0, .long v), (2, .long q1)]) hx hb dX10_commonDivisor_1 hl (by decide) rfl (fun ls hl => ?_)
  refine lv_lload_n hx hb dX10_commonDivisor_3 rfl (lv_at hl 2 rfl) ?_
  refine lv_lstore (lv' := [(6, .long q1), (4, .long v), (0, .long v), (2, .long q1)]) hx hb dX10_commonDivisor_4 hl (by decide) rfl (fun ls hl => ?_)
  refine lv_iconst (v := 0) hx hb dX10_commonDivisor_6 rfl ?_
  refine lv_istore (lv' := [(8, .int 0), (6, .long q1), (4, .long v), (0, .long v), (2, .long q1)]) hx hb dX10_commonDivisor_7 hl (by decide) rfl (fun ls hl => ?_)
  have loop9_4 : ∀ (nf j1 : Nat), 200 + 1 ≤ j1 + nf → j1 ≤ 200 → ∀ (y2 : Int64) (y3 : Int64) (H : Heap) (locs : List Loc), va_P (dC, dI) vwCl [] H → va_S (fun q : Nat => s.heap.size ≤ q) s.heap H locs → ∀ (ls : Array Slot), lv_has ls 11 [(8, .int (nI j1)), (6, .long y2), (4, .long y3), (0, .long v), (2, .long q1)] → W p l e (headSpec (Cond.code yX10_commonDivisor cX10_commonDivisor 11 (some .long) :: GT) ({ frames := 0, cells := 0, slots := 0, locals := 0 } : Room)).room s m ([.long v, .long q1] : List Value).toArray below meth c H locs 0 0 (MQ below (va_Ql (fun (r : Int64) (u : Unit) => match u with | _ => (True) ∧ True) (fun _ _ => True) (fun q : Nat => s.heap.size ≤ q)) ([.long v, .long q1] : List Value).toArray s 0 0 (fun q : Nat => s.heap.size ≤ q)) (F0 m 9 ls []) := by
    intro nf
    induction nf with
    | zero => intro j1 h1 h2; exact absurd h1 (by omega)
    | succ nf ih9_4 =>
      intro j1 hn5 hj6 y2 y3 H locs hP hS ls hl
      refine lv_iload hx hb dX10_commonDivisor_9 (lv_at hl 0 rfl) ?_
      refine lv_sipush (v := 200) hx hb dX10_commonDivisor_11 rfl ?_
      refine lv_icmp_ge (tgt := 45) hx hb dX10_commonDivisor_14 rfl (fun c7 => ?_) (fun c7 => ?_)
      · skip
        have tn168_ : nIT j1 := fun _ => nI_toInt (by first | omega | (have t := leI c7; omega))
        have n8 : 200 ≤ j1 := by have t := leI c7; rw [show (nI (j1)).toInt = ((j1 : Nat) : Int) from tn168_ ()] at t; have : (200 : Int32).toInt = 200 := qI_200; omega
        refine lv_lload hx hb dX10_commonDivisor_45 (lv_at hl 2 rfl) ?_
        have hpost : True := by
          trivial
        refine W.widen (k := 0) (n := 0) (Nat.le_of_ble_eq_true rfl) (Nat.le_of_ble_eq_true rfl) ?_
        exact W.lret (v := y3) hx hb hr (fun t ht hW => ⟨⟨y3, (), rfl, ⟨hpost, trivial⟩, trivial⟩, hS.F ht⟩) hS.2.2 dX10_commonDivisor_47
      · skip
        have tn169_ : nIT j1 := fun _ => nI_toInt (by first | omega | (have t := nleI c7; omega))
        have n9 : j1 < 200 := by have t := nleI c7; rw [show (nI (j1)).toInt = ((j1 : Nat) : Int) from tn169_ ()] at t; have : (200 : Int32).toInt = 200 := qI_200; omega
        refine lv_lload hx hb dX10_commonDivisor_17 (lv_at hl 1 rfl) ?_
        refine lv_lconst (v := 0) hx hb dX10_commonDivisor_19 (by decide) ?_
        refine W.lcmp hx hb dX10_commonDivisor_20 ?_
        refine lv_if_eq (tgt := 45) hx hb dX10_commonDivisor_21 rfl (fun c10 => ?_) (fun c10 => ?_)
        · skip
          refine lv_lload hx hb dX10_commonDivisor_45 (lv_at hl 2 rfl) ?_
          have hpost : True := by
            trivial
          refine W.widen (k := 0) (n := 0) (Nat.le_of_ble_eq_true rfl) (Nat.le_of_ble_eq_true rfl) ?_
          exact W.lret (v := y3) hx hb hr (fun t ht hW => ⟨⟨y3, (), rfl, ⟨hpost, trivial⟩, trivial⟩, hS.F ht⟩) hS.2.2 dX10_commonDivisor_47
        · skip
          refine lv_lload hx hb dX10_commonDivisor_24 (lv_at hl 2 rfl) ?_
          refine lv_lload hx hb dX10_commonDivisor_26 (lv_at hl 1 rfl) ?_
          refine lv_lrem hx hb dX10_commonDivisor_28 (by intro h0; have t0 := congrArg Int64.toInt h0; have z0 : (0 : Int64).toInt = 0 := qL_0; have t_hj6 := hj6; have t_n9 := n9; have t_c10 := lcm_eq_f c10; have : (0 : Int64).toInt = 0 := qL_0; have t_n0 : (nI j1).toInt = (j1 : Int) := tn169_ (); omega) ?_
          refine lv_lstore (lv' := [(9, .long (y3 - y3 / y2 * y2)), (8, .int (nI j1)), (6, .long y2), (4, .long y3), (0, .long v), (2, .long q1)]) hx hb dX10_commonDivisor_29 hl (by decide) rfl (fun ls hl => ?_)
          refine lv_lload hx hb dX10_commonDivisor_31 (lv_at hl 2 rfl) ?_
          refine lv_lstore (lv' := [(4, .long y2), (9, .long (y3 - y3 / y2 * y2)), (8, .int (nI j1)), (6, .long y2), (0, .long v), (2, .long q1)]) hx hb dX10_commonDivisor_33 hl (by decide) rfl (fun ls hl => ?_)
          refine lv_lload hx hb dX10_commonDivisor_35 (lv_at hl 1 rfl) ?_
          refine lv_lstore (lv' := [(6, .long (y3 - y3 / y2 * y2)), (4, .long y2), (9, .long (y3 - y3 / y2 * y2)), (8, .int (nI j1)), (0, .long v), (2, .long q1)]) hx hb dX10_commonDivisor_37 hl (by decide) rfl (fun ls hl => ?_)
          refine lv_iinc (v := nI (j1 + 1)) (lv' := [(8, .int (nI (j1 + 1))), (6, .long (y3 - y3 / y2 * y2)), (4, .long y2), (9, .long (y3 - y3 / y2 * y2)), (0, .long v), (2, .long q1)]) hx hb dX10_commonDivisor_39 hl (k := 3) rfl (by rw [show Int32.ofInt 1 = nI 1 from by decide]; exact nI_add _ _) (by decide) rfl (fun ls hl => ?_)
          refine lv_goto (tgt := 9) hx hb dX10_commonDivisor_42 rfl ?_
          exact ih9_4 (j1 + 1) (by omega) (by omega) (y3 - y3 / y2 * y2) y2 _ _ hP hS ls (lv_sub hl [0, 1, 2, 4, 5] rfl)
  exact loop9_4 (200 + 1) 0 (by omega) (by omega) q1 v _ _ hP hS ls (lv_sub hl [0, 1, 2, 3, 4] rfl)

set_option maxHeartbeats 1000000 in
set_option maxRecDepth 100000 in
theorem c_X10_fraction (l : Launch) (dC : Nat → ClassId) (dI : Nat → Nat → Nat) (G : Nat → ClassId) (sz : Nat) (i : Int32) (v q1 : Int64)  : Met l yX10_fraction (Cond.code yX10_fraction cX10_fraction 7 (some .long) :: GT) ({ frames := 1, cells := 0, slots := 0, locals := 30 } : Room) (PcR [.long v, .long q1, .int i] dC dI G [] sz) (va_Ql (fun (r : Int64) (u : Unit) => match u with | _ => (True) ∧ True) (fun _ _ => True) (fun q : Nat => sz ≤ q)) 0 0 (fun q : Nat => sz ≤ q) := by
  refine Met.ofW (cc := cX10_fraction) (maxL := 7) (ret := (some .long)) (by decide) rfl ?_
  intro p e s m args below meth c s₁ Bd hml hv
  obtain ⟨rfl, hsz, hP, hK⟩ := hv
  have hx := Bd.exec
  have hb := Bd.bytes
  have hr := Bd.returns
  have hg : ∀ w ∈ GT, w.before ([.long v, .long q1, .int i] : List Value).toArray s = true := fun w h => atoms_spec (ws := Cond.code yX10_fraction cX10_fraction 7 (some .long) :: GT) Bd.pre w (List.mem_cons_of_mem _ h)
  have hown : s.vm.findClass RX10 = some m.cls := findClass_of_methodNamed Bd.named
  have hlocks := Bd.notSynchronized
  subst hsz
  have hA : ∀ q : Nat, s.heap.size ≤ q → (fun q : Nat => s.heap.size ≤ q) q := fun _ h => h
  have hS : va_S (fun q : Nat => s.heap.size ≤ q) s.heap s.heap [] := va_S.rf
  have hl := lv_entry ([.long v, .long q1, .int i]) (n := 7) (Nat.le_of_ble_eq_true rfl)
  rw [lg_entry_eq]
  generalize (lg_sl ([.long v, .long q1, .int i]) ++ List.replicate (7 - (lg_sl ([.long v, .long q1, .int i])).length) Slot.unset).toArray = ls at hl ⊢
  have hl : lv_has ls 7 [(0, .long v), (2, .long q1), (4, .int i)] := hl
  refine lv_lload_n hx hb dX10_fraction_0 rfl (lv_at hl 0 rfl) ?_
  refine lv_lload_n hx hb dX10_fraction_1 rfl (lv_at hl 1 rfl) ?_
  have hPc := hP.sub (ws' := []) [] rfl
  refine va_calll (va_runS (As := [.long v, .long q1]) (rest := []) ⟨hx, hb, hml, hown, hg⟩ (c_X10_commonDivisor l dC dI G _ v q1) (kwS hg mfX10_commonDivisor wt_638 ⟨Nat.le_of_ble_eq_true rfl, Nat.le_of_ble_eq_true rfl⟩) (preSR hK hPc) rfl rfl hl.1 rfl (lv_room (Nat.le_of_ble_eq_true rfl)) dX10_fraction_2 ⟨Nat.le_of_ble_eq_true rfl, Nat.le_of_ble_eq_true rfl⟩) hS (fun q h1 h2 => absurd h2 (Nat.not_le.mpr h1)) (fun q h => hA q (Nat.le_trans hS.1 h)) (fun r1 ur1 t H1 locs ht hvm w2 hB hz1 hk1 hS => ?_)
  have hP := keepR hP hk1
  obtain ⟨w2, w2x⟩ := w2
  refine lv_lstore (lv' := [(5, .long r1), (0, .long v), (2, .long q1), (4, .int i)]) hx hb dX10_fraction_5 hl (by decide) rfl (fun ls hl => ?_)
  refine lv_lload hx hb dX10_fraction_7 (lv_at hl 0 rfl) ?_
  refine lv_lconst (v := 0) hx hb dX10_fraction_9 (by decide) ?_
  refine W.lcmp hx hb dX10_fraction_10 ?_
  refine lv_if_ne (tgt := 18) hx hb dX10_fraction_11 rfl (fun c3 => ?_) (fun c3 => ?_)
  · skip
    refine lv_iload hx hb dX10_fraction_18 (lv_at hl 3 rfl) ?_
    refine lv_if_ne (tgt := 27) hx hb dX10_fraction_20 rfl (fun c4 => ?_) (fun c4 => ?_)
    · skip
      refine lv_lload_n hx hb dX10_fraction_27 rfl (lv_at hl 2 rfl) ?_
      refine lv_lload hx hb dX10_fraction_28 (lv_at hl 0 rfl) ?_
      refine lv_ldiv hx hb dX10_fraction_30 (by intro h0; have t0 := congrArg Int64.toInt h0; have z0 : (0 : Int64).toInt = 0 := qL_0; have t_c3 := lcm_ne_t c3; have t_c4 := neI c4; have tqz_ := qz4_; omega) ?_
      have hpost : True := by
        trivial
      refine W.widen (k := 0) (n := 0) (Nat.le_of_ble_eq_true rfl) (Nat.le_of_ble_eq_true rfl) ?_
      exact W.lret (v := q1 / r1) hx hb hr (fun t ht hW => ⟨⟨q1 / r1, (), rfl, ⟨hpost, trivial⟩, trivial⟩, hS.F ht⟩) hS.2.2 dX10_fraction_31
    · skip
      refine lv_lload_n hx hb dX10_fraction_23 rfl (lv_at hl 1 rfl) ?_
      refine lv_goto (tgt := 28) hx hb dX10_fraction_24 rfl ?_
      refine lv_lload hx hb dX10_fraction_28 (lv_at hl 0 rfl) ?_
      refine lv_ldiv hx hb dX10_fraction_30 (by intro h0; have t0 := congrArg Int64.toInt h0; have z0 : (0 : Int64).toInt = 0 := qL_0; have t_c3 := lcm_ne_t c3; have t_c4 := eqI c4; have tqz_ := qz4_; omega) ?_
      have hpost : True := by
        trivial
      refine W.widen (k := 0) (n := 0) (Nat.le_of_ble_eq_true rfl) (Nat.le_of_ble_eq_true rfl) ?_
      exact W.lret (v := v / r1) hx hb hr (fun t ht hW => ⟨⟨v / r1, (), rfl, ⟨hpost, trivial⟩, trivial⟩, hS.F ht⟩) hS.2.2 dX10_fraction_31
  · skip
    refine lv_ldc2 (v := (-1)) hx hb hown (hg _ wt_607) dX10_fraction_14 ?_
    have hpost : True := by
      trivial
    refine W.widen (k := 0) (n := 0) (Nat.le_of_ble_eq_true rfl) (Nat.le_of_ble_eq_true rfl) ?_
    exact W.lret (v := (-1)) hx hb hr (fun t ht hW => ⟨⟨(-1), (), rfl, ⟨hpost, trivial⟩, trivial⟩, hS.F ht⟩) hS.2.2 dX10_fraction_17

set_option maxHeartbeats 1000000 in
set_option maxRecDepth 100000 in
theorem c_X10_torn (l : Launch) (dC : Nat → ClassId) (dI : Nat → Nat → Nat) (G : Nat → ClassId) (sz : Nat) (h0 rd wy tr im kp od ch cr le mk tl sh : Nat) (tf rf : Int32)  : Met l yX10_torn (Cond.code yX10_torn cX10_torn 1 (some .int) :: GT) ({ frames := 0, cells := 0, slots := 0, locals := 0 } : Room) (PcR [.ref h0] dC dI G [(h0, .inr (10, [.ref rd, .ref wy, .ref tr, .ref im, .ref kp, .ref od, .ref ch, .ref cr, .ref le, .ref mk, .ref tl, .ref sh, .int tf, .int rf]))] sz) (va_Qi (fun (r : Int32) (u : Unit) => match u with | _ => (True) ∧ True) (fun _ _ => True) (fun q : Nat => sz ≤ q)) 0 0 (fun q : Nat => sz ≤ q) := by
  refine Met.ofW (cc := cX10_torn) (maxL := 1) (ret := (some .int)) (by decide) rfl ?_
  intro p e s m args below meth c s₁ Bd hml hv
  obtain ⟨rfl, hsz, hP, hK⟩ := hv
  have hx := Bd.exec
  have hb := Bd.bytes
  have hr := Bd.returns
  have hg : ∀ w ∈ GT, w.before ([.ref h0] : List Value).toArray s = true := fun w h => atoms_spec (ws := Cond.code yX10_torn cX10_torn 1 (some .int) :: GT) Bd.pre w (List.mem_cons_of_mem _ h)
  have hown : s.vm.findClass RX10 = some m.cls := findClass_of_methodNamed Bd.named
  have hlocks := Bd.notSynchronized
  subst hsz
  have hA : ∀ q : Nat, s.heap.size ≤ q → (fun q : Nat => s.heap.size ≤ q) q := fun _ h => h
  have hS : va_S (fun q : Nat => s.heap.size ≤ q) s.heap s.heap [] := va_S.rf
  have hl := lv_entry ([.ref h0]) (n := 1) (Nat.le_of_ble_eq_true rfl)
  rw [lg_entry_eq]
  generalize (lg_sl ([.ref h0]) ++ List.replicate (1 - (lg_sl ([.ref h0])).length) Slot.unset).toArray = ls at hl ⊢
  have hl : lv_has ls 1 [(0, .ref h0)] := hl
  refine lv_aload_n hx hb dX10_torn_0 rfl (lv_at hl 0 rfl) ?_
  refine va_get (D := (dC, dI)) (ci := 10) (v := .int rf) (C := RX10) (T := TX10) (N := 14) hx hb hg inG10 hown hK.1 hP 0 rfl rfl 13 (Nat.le_of_ble_eq_true rfl) (hg _ wt_315) (fun _ h9 => h9) rfl dX10_torn_1 ?_
  have hpost : True := by
    trivial
  refine W.widen (k := 0) (n := 0) (Nat.le_of_ble_eq_true rfl) (Nat.le_of_ble_eq_true rfl) ?_
  exact W.iret (v := rf) hx hb hr (fun t ht hW => ⟨⟨rf, (), rfl, ⟨hpost, trivial⟩, trivial⟩, hS.F ht⟩) hS.2.2 dX10_torn_4

set_option maxHeartbeats 1000000 in
set_option maxRecDepth 100000 in
theorem c_X10_stretch (l : Launch) (dC : Nat → ClassId) (dI : Nat → Nat → Nat) (G : Nat → ClassId) (sz : Nat) (h0 rd wy tr im kp od ch cr le mk tl sh a1 a2 a3 a4 a5 a6 N B D : Nat) (tf rf i what : Int32) (f1 f2 f3 : Nat → Int32) (hN_N : N ≤ 10) (hB_B : B ≤ 6) (hD_D : 1 ≤ D ∧ D ≤ 9) : Met l yX10_stretch (Cond.code yX10_stretch cX10_stretch 3 (some .int) :: GT) ({ frames := 1, cells := 0, slots := 0, locals := 21 } : Room) (PcR [.ref h0, .int i, .int what] dC dI G [(h0, .inr (10, [.ref rd, .ref wy, .ref tr, .ref im, .ref kp, .ref od, .ref ch, .ref cr, .ref le, .ref mk, .ref tl, .ref sh, .int tf, .int rf])), (wy, .inr (9, [.int (nI N), .int (nI B), .int (nI D), .ref a1, .ref a2, .ref a3, .ref a4, .ref a5, .ref a6])), (a1, .inl (G 0, 10, .inl f1)), (a2, .inl (G 0, 10, .inl f2)), (a3, .inl (G 0, 10, .inl f3))] sz) (va_Qi (fun (r : Int32) (u : Unit) => match u with | _ => (True) ∧ True) (fun _ _ => True) (fun q : Nat => sz ≤ q)) 0 0 (fun q : Nat => sz ≤ q) := by
  have tn173_ : nIT N := fun _ => nI_toInt (by omega)
  have tn174_ : nIT B := fun _ => nI_toInt (by omega)
  have tn175_ : nIT D := fun _ => nI_toInt (by omega)
  refine Met.ofW (cc := cX10_stretch) (maxL := 3) (ret := (some .int)) (by decide) rfl ?_
  intro p e s m args below meth c s₁ Bd hml hv
  obtain ⟨rfl, hsz, hP, hK⟩ := hv
  have hx := Bd.exec
  have hb := Bd.bytes
  have hr := Bd.returns
  have hg : ∀ w ∈ GT, w.before ([.ref h0, .int i, .int what] : List Value).toArray s = true := fun w h => atoms_spec (ws := Cond.code yX10_stretch cX10_stretch 3 (some .int) :: GT) Bd.pre w (List.mem_cons_of_mem _ h)
  have hown : s.vm.findClass RX10 = some m.cls := findClass_of_methodNamed Bd.named
  have hlocks := Bd.notSynchronized
  subst hsz
  have hA : ∀ q : Nat, s.heap.size ≤ q → (fun q : Nat => s.heap.size ≤ q) q := fun _ h => h
  have hS : va_S (fun q : Nat => s.heap.size ≤ q) s.heap s.heap [] := va_S.rf
  have hl := lv_entry ([.ref h0, .int i, .int what]) (n := 3) (Nat.le_of_ble_eq_true rfl)
  rw [lg_entry_eq]
  generalize (lg_sl ([.ref h0, .int i, .int what]) ++ List.replicate (3 - (lg_sl ([.ref h0, .int i, .int what])).length) Slot.unset).toArray = ls at hl ⊢
  have hl : lv_has ls 3 [(0, .ref h0), (1, .int i), (2, .int what)] := hl
  refine lv_aload_n hx hb dX10_stretch_0 rfl (lv_at hl 0 rfl) ?_
  refine va_get (D := (dC, dI)) (ci := 10) (v := .ref wy) (C := RX10) (T := TX10) (N := 14) hx hb hg inG10 hown hK.1 hP 0 rfl rfl 1 (Nat.le_of_ble_eq_true rfl) (hg _ wt_303) (fun _ h9 => h9) rfl dX10_stretch_1 ?_
  refine lv_iload_n hx hb dX10_stretch_4 rfl (lv_at hl 1 rfl) ?_
  have hPc := hP.sub (ws' := [(wy, .inr (9, [.int (nI N), .int (nI B), .int (nI D), .ref a1, .ref a2, .ref a3, .ref a4, .ref a5, .ref a6]))]) [1] rfl
  refine va_calli (va_runVN (As := [.int i]) (rest := []) ⟨hx, hb, hml, hown, hg⟩ (c_X9_hasStretch l dC dI G _ wy a1 a2 a3 a4 a5 a6 N B D i hN_N hB_B hD_D) (kwVN hg hK mfX9_hasStretch wn_527 ⟨Nat.le_of_ble_eq_true rfl, Nat.le_of_ble_eq_true rfl⟩) (preVR hK hPc (ci := 9) (r := (RX9, TX9, 9)) rfl rfl) rfl rfl hl.1 rfl (lv_room (Nat.le_of_ble_eq_true rfl)) dX10_stretch_5 ⟨Nat.le_of_ble_eq_true rfl, Nat.le_of_ble_eq_true rfl⟩) hS (fun q h1 h2 => absurd h2 (Nat.not_le.mpr h1)) (fun q h => hA q (Nat.le_trans hS.1 h)) (fun r1 ur1 t H1 locs ht hvm w2 hB hz1 hk1 hS => ?_)
  have hP := keepR hP hk1
  obtain ⟨w2, w2x⟩ := w2
  try simp only [l_ii, show (0 : Int32).toInt = 0 from by decide] at w2
  try rw [show (nI (N)).toInt = ((N : Nat) : Int) from tn173_ ()] at w2
  subst w2
  refine lv_if_ne (tgt := 13) hx hb dX10_stretch_8 rfl (fun c3 => ?_) (fun c3 => ?_)
  · skip
    have b4 := if10_p c3
    refine lv_iload_n hx hb dX10_stretch_13 rfl (lv_at hl 2 rfl) ?_
    by_cases c5 : what = 0
    · skip
      refine lv_cg c5 ?_
      refine lv_tableIn (tgt := 40) hx hb dX10_stretch_14 (by decide) (by decide) rfl (by decide) ?_
      refine lv_aload_n hx hb dX10_stretch_40 rfl (lv_at hl 0 rfl) ?_
      refine va_get (D := (dC, dI)) (ci := 10) (v := .ref wy) (C := RX10) (T := TX10) (N := 14) hx hb hg inG10 hown hK.1 hP 0 rfl rfl 1 (Nat.le_of_ble_eq_true rfl) (hg _ wt_303) (fun _ h9 => h9) rfl dX10_stretch_41 ?_
      refine va_getN (D := (dC, dI)) (ci := 9) (v := .ref a1) (C := RX9) (T := TX9) (N := 9) hx hb hg inG9 hown hK.1 hP 1 rfl rfl 3 (Nat.le_of_ble_eq_true rfl) (hK.nest wn_74) (fun _ h9 => h9) rfl dX10_stretch_44 ?_
      refine lv_iload_n hx hb dX10_stretch_47 rfl (lv_at hl 1 rfl) ?_
      refine va_iald hx hb hK.1 hP 2 0 rfl rfl (vp_in_iff.mpr (by have t_b4 := b4; have t_c5 := eqI c5; have : (0 : Int32).toInt = 0 := qI_0; have tnb_ := nib3 tn173_ tn174_ tn175_; constructor <;> omega)) dX10_stretch_48 ?_
      have hpost : True := by
        trivial
      refine W.widen (k := 0) (n := 0) (Nat.le_of_ble_eq_true rfl) (Nat.le_of_ble_eq_true rfl) ?_
      exact W.iret (v := f1 i.toNatClampNeg) hx hb hr (fun t ht hW => ⟨⟨f1 i.toNatClampNeg, (), rfl, ⟨hpost, trivial⟩, trivial⟩, hS.F ht⟩) hS.2.2 dX10_stretch_49
    · skip
      by_cases c6 : what = 1
      · skip
        refine lv_cg c6 ?_
        refine lv_tableIn (tgt := 50) hx hb dX10_stretch_14 (by decide) (by decide) rfl (by decide) ?_
        refine lv_aload_n hx hb dX10_stretch_50 rfl (lv_at hl 0 rfl) ?_
        refine va_get (D := (dC, dI)) (ci := 10) (v := .ref wy) (C := RX10) (T := TX10) (N := 14) hx hb hg inG10 hown hK.1 hP 0 rfl rfl 1 (Nat.le_of_ble_eq_true rfl) (hg _ wt_303) (fun _ h9 => h9) rfl dX10_stretch_51 ?_
        refine va_getN (D := (dC, dI)) (ci := 9) (v := .ref a2) (C := RX9) (T := TX9) (N := 9) hx hb hg inG9 hown hK.1 hP 1 rfl rfl 4 (Nat.le_of_ble_eq_true rfl) (hK.nest wn_76) (fun _ h9 => h9) rfl dX10_stretch_54 ?_
        refine lv_iload_n hx hb dX10_stretch_57 rfl (lv_at hl 1 rfl) ?_
        refine va_iald hx hb hK.1 hP 3 0 rfl rfl (vp_in_iff.mpr (by have t_b4 := b4; have t_c5 := neI c5; have t_c6 := eqI c6; have tqz_ := qz2_; have tnb_ := nib3 tn173_ tn174_ tn175_; constructor <;> omega)) dX10_stretch_58 ?_
        have hpost : True := by
          trivial
        refine W.widen (k := 0) (n := 0) (Nat.le_of_ble_eq_true rfl) (Nat.le_of_ble_eq_true rfl) ?_
        exact W.iret (v := f2 i.toNatClampNeg) hx hb hr (fun t ht hW => ⟨⟨f2 i.toNatClampNeg, (), rfl, ⟨hpost, trivial⟩, trivial⟩, hS.F ht⟩) hS.2.2 dX10_stretch_59
      · skip
        by_cases c7 : what = 2
        · skip
          refine lv_cg c7 ?_
          refine lv_tableIn (tgt := 60) hx hb dX10_stretch_14 (by decide) (by decide) rfl (by decide) ?_
          refine lv_aload_n hx hb dX10_stretch_60 rfl (lv_at hl 0 rfl) ?_
          refine va_get (D := (dC, dI)) (ci := 10) (v := .ref wy) (C := RX10) (T := TX10) (N := 14) hx hb hg inG10 hown hK.1 hP 0 rfl rfl 1 (Nat.le_of_ble_eq_true rfl) (hg _ wt_303) (fun _ h9 => h9) rfl dX10_stretch_61 ?_
          refine va_getN (D := (dC, dI)) (ci := 9) (v := .ref a3) (C := RX9) (T := TX9) (N := 9) hx hb hg inG9 hown hK.1 hP 1 rfl rfl 5 (Nat.le_of_ble_eq_true rfl) (hK.nest wn_78) (fun _ h9 => h9) rfl dX10_stretch_64 ?_
          refine lv_iload_n hx hb dX10_stretch_67 rfl (lv_at hl 1 rfl) ?_
          refine va_iald hx hb hK.1 hP 4 0 rfl rfl (vp_in_iff.mpr (by have t_b4 := b4; have t_c5 := neI c5; have t_c6 := neI c6; have t_c7 := eqI c7; have tqz_ := qz5_; have tnb_ := nib3 tn173_ tn174_ tn175_; constructor <;> omega)) dX10_stretch_68 ?_
          have hpost : True := by
            trivial
          refine W.widen (k := 0) (n := 0) (Nat.le_of_ble_eq_true rfl) (Nat.le_of_ble_eq_true rfl) ?_
          exact W.iret (v := f3 i.toNatClampNeg) hx hb hr (fun t ht hW => ⟨⟨f3 i.toNatClampNeg, (), rfl, ⟨hpost, trivial⟩, trivial⟩, hS.F ht⟩) hS.2.2 dX10_stretch_69
        · skip
          refine lv_tableOut (tgt := 70) hx hb dX10_stretch_14 (by have t_b4 := b4; have t_c5 := neI c5; have t_c6 := neI c6; have t_c7 := neI c7; have tqz_ := qz5_; have tnb_ := nib3 tn173_ tn174_ tn175_; omega) (by decide) ?_
          refine lv_iconst (v := (-1)) hx hb dX10_stretch_70 rfl ?_
          have hpost : True := by
            trivial
          refine W.widen (k := 0) (n := 0) (Nat.le_of_ble_eq_true rfl) (Nat.le_of_ble_eq_true rfl) ?_
          exact W.iret (v := (-1)) hx hb hr (fun t ht hW => ⟨⟨(-1), (), rfl, ⟨hpost, trivial⟩, trivial⟩, hS.F ht⟩) hS.2.2 dX10_stretch_71
  · skip
    have b8 := if10_n c3
    refine lv_iconst (v := (-1)) hx hb dX10_stretch_11 rfl ?_
    have hpost : True := by
      trivial
    refine W.widen (k := 0) (n := 0) (Nat.le_of_ble_eq_true rfl) (Nat.le_of_ble_eq_true rfl) ?_
    exact W.iret (v := (-1)) hx hb hr (fun t ht hW => ⟨⟨(-1), (), rfl, ⟨hpost, trivial⟩, trivial⟩, hS.F ht⟩) hS.2.2 dX10_stretch_12

set_option maxHeartbeats 1000000 in
set_option maxRecDepth 100000 in
theorem c_X10_put (l : Launch) (dC : Nat → ClassId) (dI : Nat → Nat → Nat) (G : Nat → ClassId) (sz : Nat) (h0 rd wy tr im kp od ch cr le mk tl sh a1 a2 a3 a4 a5 a6 N B D : Nat) (tf rf i k : Int32) (f3 : Nat → Int32) (hN_N : N ≤ 10) (hB_B : B ≤ 6) (hD_D : 1 ≤ D ∧ D ≤ 9) : Met l yX10_put (Cond.code yX10_put cX10_put 4 (some .int) :: GT) ({ frames := 1, cells := 0, slots := 0, locals := 21 } : Room) (PcW [.ref h0, .int i, .int k] dC dI G [(h0, .inr (10, [.ref rd, .ref wy, .ref tr, .ref im, .ref kp, .ref od, .ref ch, .ref cr, .ref le, .ref mk, .ref tl, .ref sh, .int tf, .int rf])), (wy, .inr (9, [.int (nI N), .int (nI B), .int (nI D), .ref a1, .ref a2, .ref a3, .ref a4, .ref a5, .ref a6])), (a3, .inl (G 0, 10, .inl f3))] sz) (va_Qi (fun (r : Int32) (u : (Nat → Int32)) => match u with | u0 => (True) ∧ True) (fun (u : (Nat → Int32)) (t : State) => match u with | u0 => va_P (dC, dI) vwCl [(h0, .inr (10, [.ref rd, .ref wy, .ref tr, .ref im, .ref kp, .ref od, .ref ch, .ref cr, .ref le, .ref mk, .ref tl, .ref sh, .int tf, .int rf])), (wy, .inr (9, [.int (nI N), .int (nI B), .int (nI D), .ref a1, .ref a2, .ref a3, .ref a4, .ref a5, .ref a6])), (a3, .inl (G 0, 10, .inl u0))] t.heap ∧ va_D (va_A [(h0, .inr (10, [.ref rd, .ref wy, .ref tr, .ref im, .ref kp, .ref od, .ref ch, .ref cr, .ref le, .ref mk, .ref tl, .ref sh, .int tf, .int rf])), (wy, .inr (9, [.int (nI N), .int (nI B), .int (nI D), .ref a1, .ref a2, .ref a3, .ref a4, .ref a5, .ref a6])), (a3, .inl (G 0, 10, .inl f3))] sz) [(h0, .inr (10, [.ref rd, .ref wy, .ref tr, .ref im, .ref kp, .ref od, .ref ch, .ref cr, .ref le, .ref mk, .ref tl, .ref sh, .int tf, .int rf])), (wy, .inr (9, [.int (nI N), .int (nI B), .int (nI D), .ref a1, .ref a2, .ref a3, .ref a4, .ref a5, .ref a6])), (a3, .inl (G 0, 10, .inl u0))]) (va_A [(h0, .inr (10, [.ref rd, .ref wy, .ref tr, .ref im, .ref kp, .ref od, .ref ch, .ref cr, .ref le, .ref mk, .ref tl, .ref sh, .int tf, .int rf])), (wy, .inr (9, [.int (nI N), .int (nI B), .int (nI D), .ref a1, .ref a2, .ref a3, .ref a4, .ref a5, .ref a6])), (a3, .inl (G 0, 10, .inl f3))] sz)) 0 0 (va_A [(h0, .inr (10, [.ref rd, .ref wy, .ref tr, .ref im, .ref kp, .ref od, .ref ch, .ref cr, .ref le, .ref mk, .ref tl, .ref sh, .int tf, .int rf])), (wy, .inr (9, [.int (nI N), .int (nI B), .int (nI D), .ref a1, .ref a2, .ref a3, .ref a4, .ref a5, .ref a6])), (a3, .inl (G 0, 10, .inl f3))] sz) := by
  have tn182_ : nIT N := fun _ => nI_toInt (by omega)
  have tn183_ : nIT B := fun _ => nI_toInt (by omega)
  have tn184_ : nIT D := fun _ => nI_toInt (by omega)
  refine Met.ofW (cc := cX10_put) (maxL := 4) (ret := (some .int)) (by decide) rfl ?_
  intro p e s m args below meth c s₁ Bd hml hv
  obtain ⟨rfl, hsz, hP, hK, hD0⟩ := hv
  have hx := Bd.exec
  have hb := Bd.bytes
  have hr := Bd.returns
  have hg : ∀ w ∈ GT, w.before ([.ref h0, .int i, .int k] : List Value).toArray s = true := fun w h => atoms_spec (ws := Cond.code yX10_put cX10_put 4 (some .int) :: GT) Bd.pre w (List.mem_cons_of_mem _ h)
  have hown : s.vm.findClass RX10 = some m.cls := findClass_of_methodNamed Bd.named
  have hlocks := Bd.notSynchronized
  subst hsz
  have hD := hD0.self (sz := s.heap.size)
  generalize hAe : va_A [(h0, .inr (10, [.ref rd, .ref wy, .ref tr, .ref im, .ref kp, .ref od, .ref ch, .ref cr, .ref le, .ref mk, .ref tl, .ref sh, .int tf, .int rf])), (wy, .inr (9, [.int (nI N), .int (nI B), .int (nI D), .ref a1, .ref a2, .ref a3, .ref a4, .ref a5, .ref a6])), (a3, .inl (G 0, 10, .inl f3))] s.heap.size = A at hD ⊢
  have hA : ∀ q : Nat, s.heap.size ≤ q → A q := fun q h => by rw [← hAe]; exact Or.inr h
  have hS : va_S A s.heap s.heap [] := va_S.rf
  have hl := lv_entry ([.ref h0, .int i, .int k]) (n := 4) (Nat.le_of_ble_eq_true rfl)
  rw [lg_entry_eq]
  generalize (lg_sl ([.ref h0, .int i, .int k]) ++ List.replicate (4 - (lg_sl ([.ref h0, .int i, .int k])).length) Slot.unset).toArray = ls at hl ⊢
  have hl : lv_has ls 4 [(0, .ref h0), (1, .int i), (2, .int k)] := hl
  refine lv_aload_n hx hb dX10_put_0 rfl (lv_at hl 0 rfl) ?_
  refine va_get (D := (dC, dI)) (ci := 10) (v := .ref wy) (C := RX10) (T := TX10) (N := 14) hx hb hg inG10 hown hK.1 hP 0 rfl rfl 1 (Nat.le_of_ble_eq_true rfl) (hg _ wt_303) (fun _ h9 => h9) rfl dX10_put_1 ?_
  refine lv_iload_n hx hb dX10_put_4 rfl (lv_at hl 1 rfl) ?_
  have hPc := hP.sub (ws' := [(wy, .inr (9, [.int (nI N), .int (nI B), .int (nI D), .ref a1, .ref a2, .ref a3, .ref a4, .ref a5, .ref a6]))]) [1] rfl
  refine va_calli (va_runVN (As := [.int i]) (rest := []) ⟨hx, hb, hml, hown, hg⟩ (c_X9_hasStretch l dC dI G _ wy a1 a2 a3 a4 a5 a6 N B D i hN_N hB_B hD_D) (kwVN hg hK mfX9_hasStretch wn_527 ⟨Nat.le_of_ble_eq_true rfl, Nat.le_of_ble_eq_true rfl⟩) (preVR hK hPc (ci := 9) (r := (RX9, TX9, 9)) rfl rfl) rfl rfl hl.1 rfl (lv_room (Nat.le_of_ble_eq_true rfl)) dX10_put_5 ⟨Nat.le_of_ble_eq_true rfl, Nat.le_of_ble_eq_true rfl⟩) hS (fun q h1 h2 => absurd h2 (Nat.not_le.mpr h1)) (fun q h => hA q (Nat.le_trans hS.1 h)) (fun r1 ur1 t H1 locs ht hvm w2 hB hz1 hk1 hS => ?_)
  have hP := keepR hP hk1
  obtain ⟨w2, w2x⟩ := w2
  try simp only [l_ii, show (0 : Int32).toInt = 0 from by decide] at w2
  try rw [show (nI (N)).toInt = ((N : Nat) : Int) from tn182_ ()] at w2
  subst w2
  refine lv_if_eq (tgt := 22) hx hb dX10_put_8 rfl (fun c3 => ?_) (fun c3 => ?_)
  · skip
    have b4 := if10_n c3
    refine lv_iconst (v := (-1)) hx hb dX10_put_22 rfl ?_
    have hpost : True := by
      trivial
    obtain ⟨hP9, hD9⟩ := va_sub2 (ws' := [(h0, .inr (10, [.ref rd, .ref wy, .ref tr, .ref im, .ref kp, .ref od, .ref ch, .ref cr, .ref le, .ref mk, .ref tl, .ref sh, .int tf, .int rf])), (wy, .inr (9, [.int (nI N), .int (nI B), .int (nI D), .ref a1, .ref a2, .ref a3, .ref a4, .ref a5, .ref a6])), (a3, .inl (G 0, 10, .inl f3))]) hP hD [0, 1, 2] (by decide +kernel) rfl
    refine W.widen (k := 0) (n := 0) (Nat.le_of_ble_eq_true rfl) (Nat.le_of_ble_eq_true rfl) ?_
    exact W.iret (v := (-1)) hx hb hr (fun t ht hW => ⟨⟨(-1), f3, rfl, ⟨hpost, trivial⟩, ⟨by rw [ht]; exact hP9, hD9⟩⟩, hS.F ht⟩) hS.2.2 dX10_put_23
  · skip
    have b5 := if10_p c3
    refine lv_aload_n hx hb dX10_put_11 rfl (lv_at hl 0 rfl) ?_
    refine va_get (D := (dC, dI)) (ci := 10) (v := .ref wy) (C := RX10) (T := TX10) (N := 14) hx hb hg inG10 hown hK.1 hP 0 rfl rfl 1 (Nat.le_of_ble_eq_true rfl) (hg _ wt_303) (fun _ h9 => h9) rfl dX10_put_12 ?_
    refine lv_iload_n hx hb dX10_put_15 rfl (lv_at hl 2 rfl) ?_
    have hPc := hP.sub (ws' := [(wy, .inr (9, [.int (nI N), .int (nI B), .int (nI D), .ref a1, .ref a2, .ref a3, .ref a4, .ref a5, .ref a6]))]) [1] rfl
    refine va_calli (va_runVN (As := [.int k]) (rest := []) ⟨hx, hb, hml, hown, hg⟩ (c_X9_hasBearer l dC dI G _ wy a1 a2 a3 a4 a5 a6 N B D k hN_N hB_B hD_D) (kwVN hg hK mfX9_hasBearer wn_535 ⟨Nat.le_of_ble_eq_true rfl, Nat.le_of_ble_eq_true rfl⟩) (preVR hK hPc (ci := 9) (r := (RX9, TX9, 9)) rfl rfl) rfl rfl hl.1 rfl (lv_room (Nat.le_of_ble_eq_true rfl)) dX10_put_16 ⟨Nat.le_of_ble_eq_true rfl, Nat.le_of_ble_eq_true rfl⟩) hS (fun q h1 h2 => absurd h2 (Nat.not_le.mpr h1)) (fun q h => hA q (Nat.le_trans hS.1 h)) (fun r6 ur6 t H1 locs ht hvm w7 hB hz1 hk1 hS => ?_)
    have hP := keepR hP hk1
    obtain ⟨w7, w7x⟩ := w7
    try simp only [l_ii, show (0 : Int32).toInt = 0 from by decide] at w7
    try rw [show (nI (B)).toInt = ((B : Nat) : Int) from tn183_ ()] at w7
    subst w7
    refine lv_if_ne (tgt := 24) hx hb dX10_put_19 rfl (fun c8 => ?_) (fun c8 => ?_)
    · skip
      have b9 := if10_p c8
      refine lv_aload_n hx hb dX10_put_24 rfl (lv_at hl 0 rfl) ?_
      refine va_get (D := (dC, dI)) (ci := 10) (v := .ref wy) (C := RX10) (T := TX10) (N := 14) hx hb hg inG10 hown hK.1 hP 0 rfl rfl 1 (Nat.le_of_ble_eq_true rfl) (hg _ wt_303) (fun _ h9 => h9) rfl dX10_put_25 ?_
      refine va_getN (D := (dC, dI)) (ci := 9) (v := .ref a3) (C := RX9) (T := TX9) (N := 9) hx hb hg inG9 hown hK.1 hP 1 rfl rfl 5 (Nat.le_of_ble_eq_true rfl) (hK.nest wn_78) (fun _ h9 => h9) rfl dX10_put_28 ?_
      refine lv_iload_n hx hb dX10_put_31 rfl (lv_at hl 1 rfl) ?_
      refine va_iald hx hb hK.1 hP 2 0 rfl rfl (vp_in_iff.mpr (by have t_b5 := b5; have t_b9 := b9; have tnb_ := nib3 tn182_ tn183_ tn184_; constructor <;> omega)) dX10_put_32 ?_
      refine lv_istore_n (lv' := [(3, .int (f3 i.toNatClampNeg)), (0, .ref h0), (1, .int i), (2, .int k)]) hx hb dX10_put_33 rfl hl (by decide) rfl (fun ls hl => ?_)
      refine lv_aload_n hx hb dX10_put_34 rfl (lv_at hl 1 rfl) ?_
      refine va_get (D := (dC, dI)) (ci := 10) (v := .ref wy) (C := RX10) (T := TX10) (N := 14) hx hb hg inG10 hown hK.1 hP 0 rfl rfl 1 (Nat.le_of_ble_eq_true rfl) (hg _ wt_303) (fun _ h9 => h9) rfl dX10_put_35 ?_
      refine va_getN (D := (dC, dI)) (ci := 9) (v := .ref a3) (C := RX9) (T := TX9) (N := 9) hx hb hg inG9 hown hK.1 hP 1 rfl rfl 5 (Nat.le_of_ble_eq_true rfl) (hK.nest wn_78) (fun _ h9 => h9) rfl dX10_put_38 ?_
      refine lv_iload_n hx hb dX10_put_41 rfl (lv_at hl 2 rfl) ?_
      refine lv_iload_n hx hb dX10_put_42 rfl (lv_at hl 3 rfl) ?_
      refine va_iast hx hb hK.1 hP hD hS 2 0 rfl rfl (vp_in_iff.mpr (by have t_b5 := b5; have t_b9 := b9; have tnb_ := nib3 tn182_ tn183_ tn184_; constructor <;> omega)) dX10_put_43 (fun H locs hP hD hS => ?_)
      refine lv_iload_n hx hb dX10_put_44 rfl (lv_at hl 0 rfl) ?_
      have hpost : True := by
        trivial
      obtain ⟨hP9, hD9⟩ := va_sub2 (ws' := [(h0, .inr (10, [.ref rd, .ref wy, .ref tr, .ref im, .ref kp, .ref od, .ref ch, .ref cr, .ref le, .ref mk, .ref tl, .ref sh, .int tf, .int rf])), (wy, .inr (9, [.int (nI N), .int (nI B), .int (nI D), .ref a1, .ref a2, .ref a3, .ref a4, .ref a5, .ref a6])), (a3, .inl (G 0, 10, .inl (upd f3 i.toNatClampNeg k)))]) hP hD [0, 1, 2] (by decide +kernel) rfl
      refine W.widen (k := 0) (n := 0) (Nat.le_of_ble_eq_true rfl) (Nat.le_of_ble_eq_true rfl) ?_
      exact W.iret (v := f3 i.toNatClampNeg) hx hb hr (fun t ht hW => ⟨⟨f3 i.toNatClampNeg, (upd f3 i.toNatClampNeg k), rfl, ⟨hpost, trivial⟩, ⟨by rw [ht]; exact hP9, hD9⟩⟩, hS.F ht⟩) hS.2.2 dX10_put_45
    · skip
      have b10 := if10_n c8
      refine lv_iconst (v := (-1)) hx hb dX10_put_22 rfl ?_
      have hpost : True := by
        trivial
      obtain ⟨hP9, hD9⟩ := va_sub2 (ws' := [(h0, .inr (10, [.ref rd, .ref wy, .ref tr, .ref im, .ref kp, .ref od, .ref ch, .ref cr, .ref le, .ref mk, .ref tl, .ref sh, .int tf, .int rf])), (wy, .inr (9, [.int (nI N), .int (nI B), .int (nI D), .ref a1, .ref a2, .ref a3, .ref a4, .ref a5, .ref a6])), (a3, .inl (G 0, 10, .inl f3))]) hP hD [0, 1, 2] (by decide +kernel) rfl
      refine W.widen (k := 0) (n := 0) (Nat.le_of_ble_eq_true rfl) (Nat.le_of_ble_eq_true rfl) ?_
      exact W.iret (v := (-1)) hx hb hr (fun t ht hW => ⟨⟨(-1), f3, rfl, ⟨hpost, trivial⟩, ⟨by rw [ht]; exact hP9, hD9⟩⟩, hS.F ht⟩) hS.2.2 dX10_put_23

set_option maxHeartbeats 1000000 in
set_option maxRecDepth 100000 in
theorem c_X10_wakes (l : Launch) (dC : Nat → ClassId) (dI : Nat → Nat → Nat) (G : Nat → ClassId) (sz : Nat) (h0 rd wy tr im kp od ch cr le mk tl sh sa aa a1 a2 a3 a4 a5 a6 N B D : Nat) (tf rf what : Int32) (w0 : Int64) (f1 f2 f3 f4 f5 f6 : Nat → Int32) (f g : Nat → Int64) (hN_N : N ≤ 10) (hB_B : B ≤ 6) (hD_D : 1 ≤ D ∧ D ≤ 9) : Met l yX10_wakes (Cond.code yX10_wakes cX10_wakes 2 (some .long) :: GT) ({ frames := 5, cells := 0, slots := 0, locals := 112 } : Room) (PcW [.ref h0, .int what] dC dI G [(h0, .inr (10, [.ref rd, .ref wy, .ref tr, .ref im, .ref kp, .ref od, .ref ch, .ref cr, .ref le, .ref mk, .ref tl, .ref sh, .int tf, .int rf])), (od, .inr (4, [.long w0, .ref sa, .ref aa])), (sa, .inl (G 1, 10, .inr (.inl f))), (aa, .inl (G 1, 10, .inr (.inl g))), (wy, .inr (9, [.int (nI N), .int (nI B), .int (nI D), .ref a1, .ref a2, .ref a3, .ref a4, .ref a5, .ref a6])), (a1, .inl (G 0, 10, .inl f1)), (a2, .inl (G 0, 10, .inl f2)), (a3, .inl (G 0, 10, .inl f3)), (a4, .inl (G 0, 6, .inl f4)), (a5, .inl (G 0, 6, .inl f5)), (a6, .inl (G 0, 6, .inl f6))] sz) (va_Ql (fun (r : Int64) (u : Int64 × (Nat → Int64) × (Nat → Int64)) => match u with | (u0, u1, u2) => (True) ∧ True) (fun (u : Int64 × (Nat → Int64) × (Nat → Int64)) (t : State) => match u with | (u0, u1, u2) => va_P (dC, dI) vwCl [(h0, .inr (10, [.ref rd, .ref wy, .ref tr, .ref im, .ref kp, .ref od, .ref ch, .ref cr, .ref le, .ref mk, .ref tl, .ref sh, .int tf, .int rf])), (od, .inr (4, [.long u0, .ref sa, .ref aa])), (sa, .inl (G 1, 10, .inr (.inl u1))), (aa, .inl (G 1, 10, .inr (.inl u2))), (wy, .inr (9, [.int (nI N), .int (nI B), .int (nI D), .ref a1, .ref a2, .ref a3, .ref a4, .ref a5, .ref a6])), (a1, .inl (G 0, 10, .inl f1)), (a2, .inl (G 0, 10, .inl f2)), (a3, .inl (G 0, 10, .inl f3)), (a4, .inl (G 0, 6, .inl f4)), (a5, .inl (G 0, 6, .inl f5)), (a6, .inl (G 0, 6, .inl f6))] t.heap ∧ va_D (va_A [(h0, .inr (10, [.ref rd, .ref wy, .ref tr, .ref im, .ref kp, .ref od, .ref ch, .ref cr, .ref le, .ref mk, .ref tl, .ref sh, .int tf, .int rf])), (od, .inr (4, [.long w0, .ref sa, .ref aa])), (sa, .inl (G 1, 10, .inr (.inl f))), (aa, .inl (G 1, 10, .inr (.inl g))), (wy, .inr (9, [.int (nI N), .int (nI B), .int (nI D), .ref a1, .ref a2, .ref a3, .ref a4, .ref a5, .ref a6])), (a1, .inl (G 0, 10, .inl f1)), (a2, .inl (G 0, 10, .inl f2)), (a3, .inl (G 0, 10, .inl f3)), (a4, .inl (G 0, 6, .inl f4)), (a5, .inl (G 0, 6, .inl f5)), (a6, .inl (G 0, 6, .inl f6))] sz) [(h0, .inr (10, [.ref rd, .ref wy, .ref tr, .ref im, .ref kp, .ref od, .ref ch, .ref cr, .ref le, .ref mk, .ref tl, .ref sh, .int tf, .int rf])), (od, .inr (4, [.long u0, .ref sa, .ref aa])), (sa, .inl (G 1, 10, .inr (.inl u1))), (aa, .inl (G 1, 10, .inr (.inl u2))), (wy, .inr (9, [.int (nI N), .int (nI B), .int (nI D), .ref a1, .ref a2, .ref a3, .ref a4, .ref a5, .ref a6])), (a1, .inl (G 0, 10, .inl f1)), (a2, .inl (G 0, 10, .inl f2)), (a3, .inl (G 0, 10, .inl f3)), (a4, .inl (G 0, 6, .inl f4)), (a5, .inl (G 0, 6, .inl f5)), (a6, .inl (G 0, 6, .inl f6))]) (va_A [(h0, .inr (10, [.ref rd, .ref wy, .ref tr, .ref im, .ref kp, .ref od, .ref ch, .ref cr, .ref le, .ref mk, .ref tl, .ref sh, .int tf, .int rf])), (od, .inr (4, [.long w0, .ref sa, .ref aa])), (sa, .inl (G 1, 10, .inr (.inl f))), (aa, .inl (G 1, 10, .inr (.inl g))), (wy, .inr (9, [.int (nI N), .int (nI B), .int (nI D), .ref a1, .ref a2, .ref a3, .ref a4, .ref a5, .ref a6])), (a1, .inl (G 0, 10, .inl f1)), (a2, .inl (G 0, 10, .inl f2)), (a3, .inl (G 0, 10, .inl f3)), (a4, .inl (G 0, 6, .inl f4)), (a5, .inl (G 0, 6, .inl f5)), (a6, .inl (G 0, 6, .inl f6))] sz)) 0 0 (va_A [(h0, .inr (10, [.ref rd, .ref wy, .ref tr, .ref im, .ref kp, .ref od, .ref ch, .ref cr, .ref le, .ref mk, .ref tl, .ref sh, .int tf, .int rf])), (od, .inr (4, [.long w0, .ref sa, .ref aa])), (sa, .inl (G 1, 10, .inr (.inl f))), (aa, .inl (G 1, 10, .inr (.inl g))), (wy, .inr (9, [.int (nI N), .int (nI B), .int (nI D), .ref a1, .ref a2, .ref a3, .ref a4, .ref a5, .ref a6])), (a1, .inl (G 0, 10, .inl f1)), (a2, .inl (G 0, 10, .inl f2)), (a3, .inl (G 0, 10, .inl f3)), (a4, .inl (G 0, 6, .inl f4)), (a5, .inl (G 0, 6, .inl f5)), (a6, .inl (G 0, 6, .inl f6))] sz) := by
  have tn185_ : nIT N := fun _ => nI_toInt (by omega)
  have tn186_ : nIT B := fun _ => nI_toInt (by omega)
  have tn187_ : nIT D := fun _ => nI_toInt (by omega)
  refine Met.ofW (cc := cX10_wakes) (maxL := 2) (ret := (some .long)) (by decide) rfl ?_
  intro p e s m args below meth c s₁ Bd hml hv
  obtain ⟨rfl, hsz, hP, hK, hD0⟩ := hv
  have hx := Bd.exec
  have hb := Bd.bytes
  have hr := Bd.returns
  have hg : ∀ w ∈ GT, w.before ([.ref h0, .int what] : List Value).toArray s = true := fun w h => atoms_spec (ws := Cond.code yX10_wakes cX10_wakes 2 (some .long) :: GT) Bd.pre w (List.mem_cons_of_mem _ h)
  have hown : s.vm.findClass RX10 = some m.cls := findClass_of_methodNamed Bd.named
  have hlocks := Bd.notSynchronized
  subst hsz
  have hD := hD0.self (sz := s.heap.size)
  generalize hAe : va_A [(h0, .inr (10, [.ref rd, .ref wy, .ref tr, .ref im, .ref kp, .ref od, .ref ch, .ref cr, .ref le, .ref mk, .ref tl, .ref sh, .int tf, .int rf])), (od, .inr (4, [.long w0, .ref sa, .ref aa])), (sa, .inl (G 1, 10, .inr (.inl f))), (aa, .inl (G 1, 10, .inr (.inl g))), (wy, .inr (9, [.int (nI N), .int (nI B), .int (nI D), .ref a1, .ref a2, .ref a3, .ref a4, .ref a5, .ref a6])), (a1, .inl (G 0, 10, .inl f1)), (a2, .inl (G 0, 10, .inl f2)), (a3, .inl (G 0, 10, .inl f3)), (a4, .inl (G 0, 6, .inl f4)), (a5, .inl (G 0, 6, .inl f5)), (a6, .inl (G 0, 6, .inl f6))] s.heap.size = A at hD ⊢
  have hA : ∀ q : Nat, s.heap.size ≤ q → A q := fun q h => by rw [← hAe]; exact Or.inr h
  have hS : va_S A s.heap s.heap [] := va_S.rf
  have hl := lv_entry ([.ref h0, .int what]) (n := 2) (Nat.le_of_ble_eq_true rfl)
  rw [lg_entry_eq]
  generalize (lg_sl ([.ref h0, .int what]) ++ List.replicate (2 - (lg_sl ([.ref h0, .int what])).length) Slot.unset).toArray = ls at hl ⊢
  have hl : lv_has ls 2 [(0, .ref h0), (1, .int what)] := hl
  refine lv_iload_n hx hb dX10_wakes_0 rfl (lv_at hl 1 rfl) ?_
  have hPc := hP.sub (ws' := []) [] rfl
  refine va_calli (va_runS (As := [.int what]) (rest := []) ⟨hx, hb, hml, hown, hg⟩ (c_X10_isFractionPart l dC dI G _ what) (kwS hg mfX10_isFractionPart wt_604 ⟨Nat.le_of_ble_eq_true rfl, Nat.le_of_ble_eq_true rfl⟩) (preSR hK hPc) rfl rfl hl.1 rfl (lv_room (Nat.le_of_ble_eq_true rfl)) dX10_wakes_1 ⟨Nat.le_of_ble_eq_true rfl, Nat.le_of_ble_eq_true rfl⟩) hS (fun q h1 h2 => absurd h2 (Nat.not_le.mpr h1)) (fun q h => hA q (Nat.le_trans hS.1 h)) (fun r1 ur1 t H1 locs ht hvm w2 hB hz1 hk1 hS => ?_)
  have hP := keepR hP hk1
  obtain ⟨w2, w2x⟩ := w2
  try simp only [l_ii, show (0 : Int32).toInt = 0 from by decide, show (1 : Int32).toInt = 1 from by decide] at w2
  subst w2
  refine lv_if_ne (tgt := 11) hx hb dX10_wakes_4 rfl (fun c3 => ?_) (fun c3 => ?_)
  · skip
    have b4 := if10_p c3
    refine lv_aload_n hx hb dX10_wakes_11 rfl (lv_at hl 0 rfl) ?_
    refine va_get (D := (dC, dI)) (ci := 10) (v := .ref od) (C := RX10) (T := TX10) (N := 14) hx hb hg inG10 hown hK.1 hP 0 rfl rfl 5 (Nat.le_of_ble_eq_true rfl) (hg _ wt_307) (fun _ h9 => h9) rfl dX10_wakes_12 ?_
    refine lv_aload_n hx hb dX10_wakes_15 rfl (lv_at hl 0 rfl) ?_
    refine va_get (D := (dC, dI)) (ci := 10) (v := .ref wy) (C := RX10) (T := TX10) (N := 14) hx hb hg inG10 hown hK.1 hP 0 rfl rfl 1 (Nat.le_of_ble_eq_true rfl) (hg _ wt_303) (fun _ h9 => h9) rfl dX10_wakes_16 ?_
    refine lv_aload_n hx hb dX10_wakes_19 rfl (lv_at hl 0 rfl) ?_
    refine va_get (D := (dC, dI)) (ci := 10) (v := .ref wy) (C := RX10) (T := TX10) (N := 14) hx hb hg inG10 hown hK.1 hP 0 rfl rfl 1 (Nat.le_of_ble_eq_true rfl) (hg _ wt_303) (fun _ h9 => h9) rfl dX10_wakes_20 ?_
    refine va_getN (D := (dC, dI)) (ci := 9) (v := .int (nI N)) (C := RX9) (T := TX9) (N := 9) hx hb hg inG9 hown hK.1 hP 4 rfl rfl 0 (Nat.le_of_ble_eq_true rfl) (hK.nest wn_60) (fun _ h9 => h9) rfl dX10_wakes_23 ?_
    refine lv_bipush (v := (-4)) hx hb dX10_wakes_26 rfl ?_
    obtain ⟨hPc, hDc, hFc⟩ := va_sub3 (ws' := [(od, .inr (4, [.long w0, .ref sa, .ref aa])), (sa, .inl (G 1, 10, .inr (.inl f))), (aa, .inl (G 1, 10, .inr (.inl g))), (wy, .inr (9, [.int (nI N), .int (nI B), .int (nI D), .ref a1, .ref a2, .ref a3, .ref a4, .ref a5, .ref a6])), (a1, .inl (G 0, 10, .inl f1)), (a2, .inl (G 0, 10, .inl f2)), (a3, .inl (G 0, 10, .inl f3)), (a4, .inl (G 0, 6, .inl f4)), (a5, .inl (G 0, 6, .inl f5)), (a6, .inl (G 0, 6, .inl f6))]) hP hD hS hA [1, 2, 3, 4, 5, 6, 7, 8, 9, 10] (by decide +kernel) rfl
    refine va_calll (va_runVN (As := [.ref wy, .int (nI N), .int (-4)]) (rest := []) ⟨hx, hb, hml, hown, hg⟩ (c_X4_waking l dC dI G _ od sa aa wy a1 a2 a3 a4 a5 a6 N B D N (-4) w0 f1 f2 f3 f4 f5 f6 f g hN_N hB_B hD_D hN_N) (kwVN hg hK mfX4_waking wn_608 ⟨Nat.le_of_ble_eq_true rfl, Nat.le_of_ble_eq_true rfl⟩) (preVW hK hPc hDc (ci := 4) (r := (RX4, TX4, 3)) rfl rfl) rfl rfl hl.1 rfl (lv_room (Nat.le_of_ble_eq_true rfl)) dX10_wakes_28 ⟨Nat.le_of_ble_eq_true rfl, Nat.le_of_ble_eq_true rfl⟩) hS (fun q _ h => hFc q h) hFc (fun r5 ur5 t H1 locs ht hvm w6 hB hz1 hk1 hS => ?_)
    obtain ⟨u7, u8, u9⟩ := ur5
    obtain ⟨hP1, hD1⟩ := hB
    rw [ht] at hP1
    obtain ⟨hP, hD⟩ := va_join (wr := [(h0, .inr (10, [.ref rd, .ref wy, .ref tr, .ref im, .ref kp, .ref od, .ref ch, .ref cr, .ref le, .ref mk, .ref tl, .ref sh, .int tf, .int rf]))]) (w1 := [(od, .inr (4, [.long u7, .ref sa, .ref aa])), (sa, .inl (G 1, 10, .inr (.inl u8))), (aa, .inl (G 1, 10, .inr (.inl u9))), (wy, .inr (9, [.int (nI N), .int (nI B), .int (nI D), .ref a1, .ref a2, .ref a3, .ref a4, .ref a5, .ref a6])), (a1, .inl (G 0, 10, .inl f1)), (a2, .inl (G 0, 10, .inl f2)), (a3, .inl (G 0, 10, .inl f3)), (a4, .inl (G 0, 6, .inl f4)), (a5, .inl (G 0, 6, .inl f5)), (a6, .inl (G 0, 6, .inl f6))]) hP hD [1, 2, 3, 4, 5, 6, 7, 8, 9, 10] [0] rfl rfl (by decide +kernel) (by decide +kernel) hk1 hFc hP1 hD1
    generalize H1 = H at hP hS ⊢
    obtain ⟨w6, w6x⟩ := w6
    refine lv_aload_n hx hb dX10_wakes_31 rfl (lv_at hl 0 rfl) ?_
    refine va_get (D := (dC, dI)) (ci := 10) (v := .ref od) (C := RX10) (T := TX10) (N := 14) hx hb hg inG10 hown hK.1 hP 0 rfl rfl 5 (Nat.le_of_ble_eq_true rfl) (hg _ wt_307) (fun _ h9 => h9) rfl dX10_wakes_32 ?_
    refine va_getN (D := (dC, dI)) (ci := 4) (v := .long u7) (C := RX4) (T := TX4) (N := 3) hx hb hg inG4 hown hK.1 hP 1 rfl rfl 0 (Nat.le_of_ble_eq_true rfl) (hK.nest wn_157) (fun _ h9 => h9) rfl dX10_wakes_35 ?_
    refine lv_iload_n hx hb dX10_wakes_38 rfl (lv_at hl 1 rfl) ?_
    have hPc := hP.sub (ws' := []) [] rfl
    refine va_calll (va_runS (As := [.long r5, .long u7, .int what]) (rest := []) ⟨hx, hb, hml, hown, hg⟩ (c_X10_fraction l dC dI G _ what r5 u7) (kwS hg mfX10_fraction wt_635 ⟨Nat.le_of_ble_eq_true rfl, Nat.le_of_ble_eq_true rfl⟩) (preSR hK hPc) rfl rfl hl.1 rfl (lv_room (Nat.le_of_ble_eq_true rfl)) dX10_wakes_39 ⟨Nat.le_of_ble_eq_true rfl, Nat.le_of_ble_eq_true rfl⟩) hS (fun q h1 h2 => absurd h2 (Nat.not_le.mpr h1)) (fun q h => hA q (Nat.le_trans hS.1 h)) (fun r10 ur10 t H1 locs ht hvm w11 hB hz1 hk1 hS => ?_)
    have hP := keepR hP hk1
    obtain ⟨w11, w11x⟩ := w11
    have hpost : True := by
      trivial
    obtain ⟨hP9, hD9⟩ := va_sub2 (ws' := [(h0, .inr (10, [.ref rd, .ref wy, .ref tr, .ref im, .ref kp, .ref od, .ref ch, .ref cr, .ref le, .ref mk, .ref tl, .ref sh, .int tf, .int rf])), (od, .inr (4, [.long u7, .ref sa, .ref aa])), (sa, .inl (G 1, 10, .inr (.inl u8))), (aa, .inl (G 1, 10, .inr (.inl u9))), (wy, .inr (9, [.int (nI N), .int (nI B), .int (nI D), .ref a1, .ref a2, .ref a3, .ref a4, .ref a5, .ref a6])), (a1, .inl (G 0, 10, .inl f1)), (a2, .inl (G 0, 10, .inl f2)), (a3, .inl (G 0, 10, .inl f3)), (a4, .inl (G 0, 6, .inl f4)), (a5, .inl (G 0, 6, .inl f5)), (a6, .inl (G 0, 6, .inl f6))]) hP hD [0, 1, 2, 3, 4, 5, 6, 7, 8, 9, 10] (by decide +kernel) rfl
    refine W.widen (k := 0) (n := 0) (Nat.le_of_ble_eq_true rfl) (Nat.le_of_ble_eq_true rfl) ?_
    exact W.lret (v := r10) hx hb hr (fun t ht hW => ⟨⟨r10, (u7, u8, u9), rfl, ⟨hpost, trivial⟩, ⟨by rw [ht]; exact hP9, hD9⟩⟩, hS.F ht⟩) hS.2.2 dX10_wakes_42
  · skip
    have b12 := if10_n c3
    refine lv_ldc2 (v := (-1)) hx hb hown (hg _ wt_607) dX10_wakes_7 ?_
    have hpost : True := by
      trivial
    obtain ⟨hP9, hD9⟩ := va_sub2 (ws' := [(h0, .inr (10, [.ref rd, .ref wy, .ref tr, .ref im, .ref kp, .ref od, .ref ch, .ref cr, .ref le, .ref mk, .ref tl, .ref sh, .int tf, .int rf])), (od, .inr (4, [.long w0, .ref sa, .ref aa])), (sa, .inl (G 1, 10, .inr (.inl f))), (aa, .inl (G 1, 10, .inr (.inl g))), (wy, .inr (9, [.int (nI N), .int (nI B), .int (nI D), .ref a1, .ref a2, .ref a3, .ref a4, .ref a5, .ref a6])), (a1, .inl (G 0, 10, .inl f1)), (a2, .inl (G 0, 10, .inl f2)), (a3, .inl (G 0, 10, .inl f3)), (a4, .inl (G 0, 6, .inl f4)), (a5, .inl (G 0, 6, .inl f5)), (a6, .inl (G 0, 6, .inl f6))]) hP hD [0, 1, 2, 3, 4, 5, 6, 7, 8, 9, 10] (by decide +kernel) rfl
    refine W.widen (k := 0) (n := 0) (Nat.le_of_ble_eq_true rfl) (Nat.le_of_ble_eq_true rfl) ?_
    exact W.lret (v := (-1)) hx hb hr (fun t ht hW => ⟨⟨(-1), (w0, f, g), rfl, ⟨hpost, trivial⟩, ⟨by rw [ht]; exact hP9, hD9⟩⟩, hS.F ht⟩) hS.2.2 dX10_wakes_10

set_option maxHeartbeats 1000000 in
set_option maxRecDepth 100000 in
theorem c_X10_depth (l : Launch) (dC : Nat → ClassId) (dI : Nat → Nat → Nat) (G : Nat → ClassId) (sz : Nat) (h0 rd wy tr im kp od ch cr le mk tl sh sa aa a1 a2 a3 a4 a5 a6 N B D : Nat) (tf rf i d what : Int32) (w0 : Int64) (f1 f2 f3 f4 f5 f6 : Nat → Int32) (f g : Nat → Int64) (hN_N : N ≤ 10) (hB_B : B ≤ 6) (hD_D : 1 ≤ D ∧ D ≤ 9) : Met l yX10_depth (Cond.code yX10_depth cX10_depth 4 (some .long) :: GT) ({ frames := 5, cells := 0, slots := 0, locals := 112 } : Room) (PcW [.ref h0, .int i, .int d, .int what] dC dI G [(h0, .inr (10, [.ref rd, .ref wy, .ref tr, .ref im, .ref kp, .ref od, .ref ch, .ref cr, .ref le, .ref mk, .ref tl, .ref sh, .int tf, .int rf])), (od, .inr (4, [.long w0, .ref sa, .ref aa])), (sa, .inl (G 1, 10, .inr (.inl f))), (aa, .inl (G 1, 10, .inr (.inl g))), (wy, .inr (9, [.int (nI N), .int (nI B), .int (nI D), .ref a1, .ref a2, .ref a3, .ref a4, .ref a5, .ref a6])), (a1, .inl (G 0, 10, .inl f1)), (a2, .inl (G 0, 10, .inl f2)), (a3, .inl (G 0, 10, .inl f3)), (a4, .inl (G 0, 6, .inl f4)), (a5, .inl (G 0, 6, .inl f5)), (a6, .inl (G 0, 6, .inl f6))] sz) (va_Ql (fun (r : Int64) (u : Int64 × (Nat → Int64) × (Nat → Int64)) => match u with | (u0, u1, u2) => (True) ∧ True) (fun (u : Int64 × (Nat → Int64) × (Nat → Int64)) (t : State) => match u with | (u0, u1, u2) => va_P (dC, dI) vwCl [(h0, .inr (10, [.ref rd, .ref wy, .ref tr, .ref im, .ref kp, .ref od, .ref ch, .ref cr, .ref le, .ref mk, .ref tl, .ref sh, .int tf, .int rf])), (od, .inr (4, [.long u0, .ref sa, .ref aa])), (sa, .inl (G 1, 10, .inr (.inl u1))), (aa, .inl (G 1, 10, .inr (.inl u2))), (wy, .inr (9, [.int (nI N), .int (nI B), .int (nI D), .ref a1, .ref a2, .ref a3, .ref a4, .ref a5, .ref a6])), (a1, .inl (G 0, 10, .inl f1)), (a2, .inl (G 0, 10, .inl f2)), (a3, .inl (G 0, 10, .inl f3)), (a4, .inl (G 0, 6, .inl f4)), (a5, .inl (G 0, 6, .inl f5)), (a6, .inl (G 0, 6, .inl f6))] t.heap ∧ va_D (va_A [(h0, .inr (10, [.ref rd, .ref wy, .ref tr, .ref im, .ref kp, .ref od, .ref ch, .ref cr, .ref le, .ref mk, .ref tl, .ref sh, .int tf, .int rf])), (od, .inr (4, [.long w0, .ref sa, .ref aa])), (sa, .inl (G 1, 10, .inr (.inl f))), (aa, .inl (G 1, 10, .inr (.inl g))), (wy, .inr (9, [.int (nI N), .int (nI B), .int (nI D), .ref a1, .ref a2, .ref a3, .ref a4, .ref a5, .ref a6])), (a1, .inl (G 0, 10, .inl f1)), (a2, .inl (G 0, 10, .inl f2)), (a3, .inl (G 0, 10, .inl f3)), (a4, .inl (G 0, 6, .inl f4)), (a5, .inl (G 0, 6, .inl f5)), (a6, .inl (G 0, 6, .inl f6))] sz) [(h0, .inr (10, [.ref rd, .ref wy, .ref tr, .ref im, .ref kp, .ref od, .ref ch, .ref cr, .ref le, .ref mk, .ref tl, .ref sh, .int tf, .int rf])), (od, .inr (4, [.long u0, .ref sa, .ref aa])), (sa, .inl (G 1, 10, .inr (.inl u1))), (aa, .inl (G 1, 10, .inr (.inl u2))), (wy, .inr (9, [.int (nI N), .int (nI B), .int (nI D), .ref a1, .ref a2, .ref a3, .ref a4, .ref a5, .ref a6])), (a1, .inl (G 0, 10, .inl f1)), (a2, .inl (G 0, 10, .inl f2)), (a3, .inl (G 0, 10, .inl f3)), (a4, .inl (G 0, 6, .inl f4)), (a5, .inl (G 0, 6, .inl f5)), (a6, .inl (G 0, 6, .inl f6))]) (va_A [(h0, .inr (10, [.ref rd, .ref wy, .ref tr, .ref im, .ref kp, .ref od, .ref ch, .ref cr, .ref le, .ref mk, .ref tl, .ref sh, .int tf, .int rf])), (od, .inr (4, [.long w0, .ref sa, .ref aa])), (sa, .inl (G 1, 10, .inr (.inl f))), (aa, .inl (G 1, 10, .inr (.inl g))), (wy, .inr (9, [.int (nI N), .int (nI B), .int (nI D), .ref a1, .ref a2, .ref a3, .ref a4, .ref a5, .ref a6])), (a1, .inl (G 0, 10, .inl f1)), (a2, .inl (G 0, 10, .inl f2)), (a3, .inl (G 0, 10, .inl f3)), (a4, .inl (G 0, 6, .inl f4)), (a5, .inl (G 0, 6, .inl f5)), (a6, .inl (G 0, 6, .inl f6))] sz)) 0 0 (va_A [(h0, .inr (10, [.ref rd, .ref wy, .ref tr, .ref im, .ref kp, .ref od, .ref ch, .ref cr, .ref le, .ref mk, .ref tl, .ref sh, .int tf, .int rf])), (od, .inr (4, [.long w0, .ref sa, .ref aa])), (sa, .inl (G 1, 10, .inr (.inl f))), (aa, .inl (G 1, 10, .inr (.inl g))), (wy, .inr (9, [.int (nI N), .int (nI B), .int (nI D), .ref a1, .ref a2, .ref a3, .ref a4, .ref a5, .ref a6])), (a1, .inl (G 0, 10, .inl f1)), (a2, .inl (G 0, 10, .inl f2)), (a3, .inl (G 0, 10, .inl f3)), (a4, .inl (G 0, 6, .inl f4)), (a5, .inl (G 0, 6, .inl f5)), (a6, .inl (G 0, 6, .inl f6))] sz) := by
  have tn188_ : nIT N := fun _ => nI_toInt (by omega)
  have tn189_ : nIT B := fun _ => nI_toInt (by omega)
  have tn190_ : nIT D := fun _ => nI_toInt (by omega)
  refine Met.ofW (cc := cX10_depth) (maxL := 4) (ret := (some .long)) (by decide) rfl ?_
  intro p e s m args below meth c s₁ Bd hml hv
  obtain ⟨rfl, hsz, hP, hK, hD0⟩ := hv
  have hx := Bd.exec
  have hb := Bd.bytes
  have hr := Bd.returns
  have hg : ∀ w ∈ GT, w.before ([.ref h0, .int i, .int d, .int what] : List Value).toArray s = true := fun w h => atoms_spec (ws := Cond.code yX10_depth cX10_depth 4 (some .long) :: GT) Bd.pre w (List.mem_cons_of_mem _ h)
  have hown : s.vm.findClass RX10 = some m.cls := findClass_of_methodNamed Bd.named
  have hlocks := Bd.notSynchronized
  subst hsz
  have hD := hD0.self (sz := s.heap.size)
  generalize hAe : va_A [(h0, .inr (10, [.ref rd, .ref wy, .ref tr, .ref im, .ref kp, .ref od, .ref ch, .ref cr, .ref le, .ref mk, .ref tl, .ref sh, .int tf, .int rf])), (od, .inr (4, [.long w0, .ref sa, .ref aa])), (sa, .inl (G 1, 10, .inr (.inl f))), (aa, .inl (G 1, 10, .inr (.inl g))), (wy, .inr (9, [.int (nI N), .int (nI B), .int (nI D), .ref a1, .ref a2, .ref a3, .ref a4, .ref a5, .ref a6])), (a1, .inl (G 0, 10, .inl f1)), (a2, .inl (G 0, 10, .inl f2)), (a3, .inl (G 0, 10, .inl f3)), (a4, .inl (G 0, 6, .inl f4)), (a5, .inl (G 0, 6, .inl f5)), (a6, .inl (G 0, 6, .inl f6))] s.heap.size = A at hD ⊢
  have hA : ∀ q : Nat, s.heap.size ≤ q → A q := fun q h => by rw [← hAe]; exact Or.inr h
  have hS : va_S A s.heap s.heap [] := va_S.rf
  have hl := lv_entry ([.ref h0, .int i, .int d, .int what]) (n := 4) (Nat.le_of_ble_eq_true rfl)
  rw [lg_entry_eq]
  generalize (lg_sl ([.ref h0, .int i, .int d, .int what]) ++ List.replicate (4 - (lg_sl ([.ref h0, .int i, .int d, .int what])).length) Slot.unset).toArray = ls at hl ⊢
  have hl : lv_has ls 4 [(0, .ref h0), (1, .int i), (2, .int d), (3, .int what)] := hl
  refine lv_aload_n hx hb dX10_depth_0 rfl (lv_at hl 0 rfl) ?_
  refine va_get (D := (dC, dI)) (ci := 10) (v := .ref wy) (C := RX10) (T := TX10) (N := 14) hx hb hg inG10 hown hK.1 hP 0 rfl rfl 1 (Nat.le_of_ble_eq_true rfl) (hg _ wt_303) (fun _ h9 => h9) rfl dX10_depth_1 ?_
  refine lv_iload_n hx hb dX10_depth_4 rfl (lv_at hl 1 rfl) ?_
  have hPc := hP.sub (ws' := [(wy, .inr (9, [.int (nI N), .int (nI B), .int (nI D), .ref a1, .ref a2, .ref a3, .ref a4, .ref a5, .ref a6]))]) [4] rfl
  refine va_calli (va_runVN (As := [.int i]) (rest := []) ⟨hx, hb, hml, hown, hg⟩ (c_X9_hasStretch l dC dI G _ wy a1 a2 a3 a4 a5 a6 N B D i hN_N hB_B hD_D) (kwVN hg hK mfX9_hasStretch wn_527 ⟨Nat.le_of_ble_eq_true rfl, Nat.le_of_ble_eq_true rfl⟩) (preVR hK hPc (ci := 9) (r := (RX9, TX9, 9)) rfl rfl) rfl rfl hl.1 rfl (lv_room (Nat.le_of_ble_eq_true rfl)) dX10_depth_5 ⟨Nat.le_of_ble_eq_true rfl, Nat.le_of_ble_eq_true rfl⟩) hS (fun q h1 h2 => absurd h2 (Nat.not_le.mpr h1)) (fun q h => hA q (Nat.le_trans hS.1 h)) (fun r1 ur1 t H1 locs ht hvm w2 hB hz1 hk1 hS => ?_)
  have hP := keepR hP hk1
  obtain ⟨w2, w2x⟩ := w2
  try simp only [l_ii, show (0 : Int32).toInt = 0 from by decide] at w2
  try rw [show (nI (N)).toInt = ((N : Nat) : Int) from tn188_ ()] at w2
  subst w2
  refine lv_if_eq (tgt := 25) hx hb dX10_depth_8 rfl (fun c3 => ?_) (fun c3 => ?_)
  · skip
    have b4 := if10_n c3
    refine lv_ldc2 (v := (-1)) hx hb hown (hg _ wt_607) dX10_depth_25 ?_
    have hpost : True := by
      trivial
    obtain ⟨hP9, hD9⟩ := va_sub2 (ws' := [(h0, .inr (10, [.ref rd, .ref wy, .ref tr, .ref im, .ref kp, .ref od, .ref ch, .ref cr, .ref le, .ref mk, .ref tl, .ref sh, .int tf, .int rf])), (od, .inr (4, [.long w0, .ref sa, .ref aa])), (sa, .inl (G 1, 10, .inr (.inl f))), (aa, .inl (G 1, 10, .inr (.inl g))), (wy, .inr (9, [.int (nI N), .int (nI B), .int (nI D), .ref a1, .ref a2, .ref a3, .ref a4, .ref a5, .ref a6])), (a1, .inl (G 0, 10, .inl f1)), (a2, .inl (G 0, 10, .inl f2)), (a3, .inl (G 0, 10, .inl f3)), (a4, .inl (G 0, 6, .inl f4)), (a5, .inl (G 0, 6, .inl f5)), (a6, .inl (G 0, 6, .inl f6))]) hP hD [0, 1, 2, 3, 4, 5, 6, 7, 8, 9, 10] (by decide +kernel) rfl
    refine W.widen (k := 0) (n := 0) (Nat.le_of_ble_eq_true rfl) (Nat.le_of_ble_eq_true rfl) ?_
    exact W.lret (v := (-1)) hx hb hr (fun t ht hW => ⟨⟨(-1), (w0, f, g), rfl, ⟨hpost, trivial⟩, ⟨by rw [ht]; exact hP9, hD9⟩⟩, hS.F ht⟩) hS.2.2 dX10_depth_28
  · skip
    have b5 := if10_p c3
    refine lv_iload_n hx hb dX10_depth_11 rfl (lv_at hl 2 rfl) ?_
    have hPc := hP.sub (ws' := []) [] rfl
    refine va_calli (va_runS (As := [.int d]) (rest := []) ⟨hx, hb, hml, hown, hg⟩ (c_X10_isDepth l dC dI G _ d) (kwS hg mfX10_isDepth wt_649 ⟨Nat.le_of_ble_eq_true rfl, Nat.le_of_ble_eq_true rfl⟩) (preSR hK hPc) rfl rfl hl.1 rfl (lv_room (Nat.le_of_ble_eq_true rfl)) dX10_depth_12 ⟨Nat.le_of_ble_eq_true rfl, Nat.le_of_ble_eq_true rfl⟩) hS (fun q h1 h2 => absurd h2 (Nat.not_le.mpr h1)) (fun q h => hA q (Nat.le_trans hS.1 h)) (fun r6 ur6 t H1 locs ht hvm w7 hB hz1 hk1 hS => ?_)
    have hP := keepR hP hk1
    obtain ⟨w7, w7x⟩ := w7
    try simp only [l_ii, show (0 : Int32).toInt = 0 from by decide, show (9 : Int32).toInt = 9 from by decide] at w7
    subst w7
    refine lv_if_eq (tgt := 25) hx hb dX10_depth_15 rfl (fun c8 => ?_) (fun c8 => ?_)
    · skip
      have b9 := if10_n c8
      refine lv_ldc2 (v := (-1)) hx hb hown (hg _ wt_607) dX10_depth_25 ?_
      have hpost : True := by
        trivial
      obtain ⟨hP9, hD9⟩ := va_sub2 (ws' := [(h0, .inr (10, [.ref rd, .ref wy, .ref tr, .ref im, .ref kp, .ref od, .ref ch, .ref cr, .ref le, .ref mk, .ref tl, .ref sh, .int tf, .int rf])), (od, .inr (4, [.long w0, .ref sa, .ref aa])), (sa, .inl (G 1, 10, .inr (.inl f))), (aa, .inl (G 1, 10, .inr (.inl g))), (wy, .inr (9, [.int (nI N), .int (nI B), .int (nI D), .ref a1, .ref a2, .ref a3, .ref a4, .ref a5, .ref a6])), (a1, .inl (G 0, 10, .inl f1)), (a2, .inl (G 0, 10, .inl f2)), (a3, .inl (G 0, 10, .inl f3)), (a4, .inl (G 0, 6, .inl f4)), (a5, .inl (G 0, 6, .inl f5)), (a6, .inl (G 0, 6, .inl f6))]) hP hD [0, 1, 2, 3, 4, 5, 6, 7, 8, 9, 10] (by decide +kernel) rfl
      refine W.widen (k := 0) (n := 0) (Nat.le_of_ble_eq_true rfl) (Nat.le_of_ble_eq_true rfl) ?_
      exact W.lret (v := (-1)) hx hb hr (fun t ht hW => ⟨⟨(-1), (w0, f, g), rfl, ⟨hpost, trivial⟩, ⟨by rw [ht]; exact hP9, hD9⟩⟩, hS.F ht⟩) hS.2.2 dX10_depth_28
    · skip
      have b10 := if10_p c8
      refine lv_iload_n hx hb dX10_depth_18 rfl (lv_at hl 3 rfl) ?_
      have hPc := hP.sub (ws' := []) [] rfl
      refine va_calli (va_runS (As := [.int what]) (rest := []) ⟨hx, hb, hml, hown, hg⟩ (c_X10_isFractionPart l dC dI G _ what) (kwS hg mfX10_isFractionPart wt_604 ⟨Nat.le_of_ble_eq_true rfl, Nat.le_of_ble_eq_true rfl⟩) (preSR hK hPc) rfl rfl hl.1 rfl (lv_room (Nat.le_of_ble_eq_true rfl)) dX10_depth_19 ⟨Nat.le_of_ble_eq_true rfl, Nat.le_of_ble_eq_true rfl⟩) hS (fun q h1 h2 => absurd h2 (Nat.not_le.mpr h1)) (fun q h => hA q (Nat.le_trans hS.1 h)) (fun r11 ur11 t H1 locs ht hvm w12 hB hz1 hk1 hS => ?_)
      have hP := keepR hP hk1
      obtain ⟨w12, w12x⟩ := w12
      try simp only [l_ii, show (0 : Int32).toInt = 0 from by decide, show (1 : Int32).toInt = 1 from by decide] at w12
      subst w12
      refine lv_if_ne (tgt := 29) hx hb dX10_depth_22 rfl (fun c13 => ?_) (fun c13 => ?_)
      · skip
        have b14 := if10_p c13
        obtain ⟨ii, hii, rfl⟩ : ∃ j : Nat, j < N ∧ i = nI j := by
          have t_b5 := b5
          have t_b10 := b10
          have t_b14 := b14
          have t_n0 : (nI N).toInt = (N : Int) := tn188_ ()
          have t_n1 : (nI B).toInt = (B : Int) := tn189_ ()
          have t_n2 : (nI D).toInt = (D : Int) := tn190_ ()
          exact i32_nat (by omega) (by omega)
        refine lv_aload_n hx hb dX10_depth_29 rfl (lv_at hl 0 rfl) ?_
        refine va_get (D := (dC, dI)) (ci := 10) (v := .ref od) (C := RX10) (T := TX10) (N := 14) hx hb hg inG10 hown hK.1 hP 0 rfl rfl 5 (Nat.le_of_ble_eq_true rfl) (hg _ wt_307) (fun _ h9 => h9) rfl dX10_depth_30 ?_
        refine lv_aload_n hx hb dX10_depth_33 rfl (lv_at hl 0 rfl) ?_
        refine va_get (D := (dC, dI)) (ci := 10) (v := .ref wy) (C := RX10) (T := TX10) (N := 14) hx hb hg inG10 hown hK.1 hP 0 rfl rfl 1 (Nat.le_of_ble_eq_true rfl) (hg _ wt_303) (fun _ h9 => h9) rfl dX10_depth_34 ?_
        refine lv_iload_n hx hb dX10_depth_37 rfl (lv_at hl 1 rfl) ?_
        refine lv_iconst (v := 1) hx hb dX10_depth_38 rfl ?_
        refine lv_iadd hx hb dX10_depth_39 ?_
        refine lv_cg (y := nI (ii + 1)) (by rw [show (1 : Int32) = nI 1 from rfl]; exact nI_add _ _) ?_
        refine lv_bipush (v := (-4)) hx hb dX10_depth_40 rfl ?_
        obtain ⟨hPc, hDc, hFc⟩ := va_sub3 (ws' := [(od, .inr (4, [.long w0, .ref sa, .ref aa])), (sa, .inl (G 1, 10, .inr (.inl f))), (aa, .inl (G 1, 10, .inr (.inl g))), (wy, .inr (9, [.int (nI N), .int (nI B), .int (nI D), .ref a1, .ref a2, .ref a3, .ref a4, .ref a5, .ref a6])), (a1, .inl (G 0, 10, .inl f1)), (a2, .inl (G 0, 10, .inl f2)), (a3, .inl (G 0, 10, .inl f3)), (a4, .inl (G 0, 6, .inl f4)), (a5, .inl (G 0, 6, .inl f5)), (a6, .inl (G 0, 6, .inl f6))]) hP hD hS hA [1, 2, 3, 4, 5, 6, 7, 8, 9, 10] (by decide +kernel) rfl
        have tn191_ : nIT ii := fun _ => nI_toInt (by first | omega | (have t_b5 := b5; have t_b10 := b10; have t_b14 := b14; have t_hii := hii; omega))
        refine va_calll (va_runVN (As := [.ref wy, .int (nI (ii + 1)), .int (-4)]) (rest := []) ⟨hx, hb, hml, hown, hg⟩ (c_X4_waking l dC dI G _ od sa aa wy a1 a2 a3 a4 a5 a6 N B D (ii + 1) (-4) w0 f1 f2 f3 f4 f5 f6 f g hN_N hB_B hD_D (by first | omega | (have t_b5 := b5; have t_b10 := b10; have t_b14 := b14; have t_hii := hii; have tnb_ := nib4 tn188_ tn189_ tn190_ tn191_; have : ((-4) : Int32).toInt = -4 := qI_m4; omega))) (kwVN hg hK mfX4_waking wn_608 ⟨Nat.le_of_ble_eq_true rfl, Nat.le_of_ble_eq_true rfl⟩) (preVW hK hPc hDc (ci := 4) (r := (RX4, TX4, 3)) rfl rfl) rfl rfl hl.1 rfl (lv_room (Nat.le_of_ble_eq_true rfl)) dX10_depth_42 ⟨Nat.le_of_ble_eq_true rfl, Nat.le_of_ble_eq_true rfl⟩) hS (fun q _ h => hFc q h) hFc (fun r15 ur15 t H1 locs ht hvm w16 hB hz1 hk1 hS => ?_)
        obtain ⟨u17, u18, u19⟩ := ur15
        obtain ⟨hP1, hD1⟩ := hB
        rw [ht] at hP1
        obtain ⟨hP, hD⟩ := va_join (wr := [(h0, .inr (10, [.ref rd, .ref wy, .ref tr, .ref im, .ref kp, .ref od, .ref ch, .ref cr, .ref le, .ref mk, .ref tl, .ref sh, .int tf, .int rf]))]) (w1 := [(od, .inr (4, [.long u17, .ref sa, .ref aa])), (sa, .inl (G 1, 10, .inr (.inl u18))), (aa, .inl (G 1, 10, .inr (.inl u19))), (wy, .inr (9, [.int (nI N), .int (nI B), .int (nI D), .ref a1, .ref a2, .ref a3, .ref a4, .ref a5, .ref a6])), (a1, .inl (G 0, 10, .inl f1)), (a2, .inl (G 0, 10, .inl f2)), (a3, .inl (G 0, 10, .inl f3)), (a4, .inl (G 0, 6, .inl f4)), (a5, .inl (G 0, 6, .inl f5)), (a6, .inl (G 0, 6, .inl f6))]) hP hD [1, 2, 3, 4, 5, 6, 7, 8, 9, 10] [0] rfl rfl (by decide +kernel) (by decide +kernel) hk1 hFc hP1 hD1
        generalize H1 = H at hP hS ⊢
        obtain ⟨w16, w16x⟩ := w16
        refine lv_pop2_2 hx hb dX10_depth_45 rfl ?_
        refine lv_aload_n hx hb dX10_depth_46 rfl (lv_at hl 0 rfl) ?_
        refine va_get (D := (dC, dI)) (ci := 10) (v := .ref od) (C := RX10) (T := TX10) (N := 14) hx hb hg inG10 hown hK.1 hP 0 rfl rfl 5 (Nat.le_of_ble_eq_true rfl) (hg _ wt_307) (fun _ h9 => h9) rfl dX10_depth_47 ?_
        refine va_getN (D := (dC, dI)) (ci := 4) (v := .ref sa) (C := RX4) (T := TX4) (N := 3) hx hb hg inG4 hown hK.1 hP 1 rfl rfl 1 (Nat.le_of_ble_eq_true rfl) (hK.nest wn_159) (fun _ h9 => h9) rfl dX10_depth_50 ?_
        refine lv_iload_n hx hb dX10_depth_53 rfl (lv_at hl 2 rfl) ?_
        refine va_lald hx hb hK.1 hP 2 1 rfl rfl (vp_in_iff.mpr (by have t_b5 := b5; have t_b10 := b10; have t_b14 := b14; have t_hii := hii; have tnb_ := nib4 tn188_ tn189_ tn190_ tn191_; constructor <;> omega)) dX10_depth_54 ?_
        refine lv_aload_n hx hb dX10_depth_55 rfl (lv_at hl 0 rfl) ?_
        refine va_get (D := (dC, dI)) (ci := 10) (v := .ref od) (C := RX10) (T := TX10) (N := 14) hx hb hg inG10 hown hK.1 hP 0 rfl rfl 5 (Nat.le_of_ble_eq_true rfl) (hg _ wt_307) (fun _ h9 => h9) rfl dX10_depth_56 ?_
        refine va_getN (D := (dC, dI)) (ci := 4) (v := .long u17) (C := RX4) (T := TX4) (N := 3) hx hb hg inG4 hown hK.1 hP 1 rfl rfl 0 (Nat.le_of_ble_eq_true rfl) (hK.nest wn_157) (fun _ h9 => h9) rfl dX10_depth_59 ?_
        refine lv_iload_n hx hb dX10_depth_62 rfl (lv_at hl 3 rfl) ?_
        have hPc := hP.sub (ws' := []) [] rfl
        refine va_calll (va_runS (As := [.long (u18 d.toNatClampNeg), .long u17, .int what]) (rest := []) ⟨hx, hb, hml, hown, hg⟩ (c_X10_fraction l dC dI G _ what (u18 d.toNatClampNeg) u17) (kwS hg mfX10_fraction wt_635 ⟨Nat.le_of_ble_eq_true rfl, Nat.le_of_ble_eq_true rfl⟩) (preSR hK hPc) rfl rfl hl.1 rfl (lv_room (Nat.le_of_ble_eq_true rfl)) dX10_depth_63 ⟨Nat.le_of_ble_eq_true rfl, Nat.le_of_ble_eq_true rfl⟩) hS (fun q h1 h2 => absurd h2 (Nat.not_le.mpr h1)) (fun q h => hA q (Nat.le_trans hS.1 h)) (fun r20 ur20 t H1 locs ht hvm w21 hB hz1 hk1 hS => ?_)
        have hP := keepR hP hk1
        obtain ⟨w21, w21x⟩ := w21
        have hpost : True := by
          trivial
        obtain ⟨hP9, hD9⟩ := va_sub2 (ws' := [(h0, .inr (10, [.ref rd, .ref wy, .ref tr, .ref im, .ref kp, .ref od, .ref ch, .ref cr, .ref le, .ref mk, .ref tl, .ref sh, .int tf, .int rf])), (od, .inr (4, [.long u17, .ref sa, .ref aa])), (sa, .inl (G 1, 10, .inr (.inl u18))), (aa, .inl (G 1, 10, .inr (.inl u19))), (wy, .inr (9, [.int (nI N), .int (nI B), .int (nI D), .ref a1, .ref a2, .ref a3, .ref a4, .ref a5, .ref a6])), (a1, .inl (G 0, 10, .inl f1)), (a2, .inl (G 0, 10, .inl f2)), (a3, .inl (G 0, 10, .inl f3)), (a4, .inl (G 0, 6, .inl f4)), (a5, .inl (G 0, 6, .inl f5)), (a6, .inl (G 0, 6, .inl f6))]) hP hD [0, 1, 2, 3, 4, 5, 6, 7, 8, 9, 10] (by decide +kernel) rfl
        refine W.widen (k := 0) (n := 0) (Nat.le_of_ble_eq_true rfl) (Nat.le_of_ble_eq_true rfl) ?_
        exact W.lret (v := r20) hx hb hr (fun t ht hW => ⟨⟨r20, (u17, u18, u19), rfl, ⟨hpost, trivial⟩, ⟨by rw [ht]; exact hP9, hD9⟩⟩, hS.F ht⟩) hS.2.2 dX10_depth_66
      · skip
        have b22 := if10_n c13
        refine lv_ldc2 (v := (-1)) hx hb hown (hg _ wt_607) dX10_depth_25 ?_
        have hpost : True := by
          trivial
        obtain ⟨hP9, hD9⟩ := va_sub2 (ws' := [(h0, .inr (10, [.ref rd, .ref wy, .ref tr, .ref im, .ref kp, .ref od, .ref ch, .ref cr, .ref le, .ref mk, .ref tl, .ref sh, .int tf, .int rf])), (od, .inr (4, [.long w0, .ref sa, .ref aa])), (sa, .inl (G 1, 10, .inr (.inl f))), (aa, .inl (G 1, 10, .inr (.inl g))), (wy, .inr (9, [.int (nI N), .int (nI B), .int (nI D), .ref a1, .ref a2, .ref a3, .ref a4, .ref a5, .ref a6])), (a1, .inl (G 0, 10, .inl f1)), (a2, .inl (G 0, 10, .inl f2)), (a3, .inl (G 0, 10, .inl f3)), (a4, .inl (G 0, 6, .inl f4)), (a5, .inl (G 0, 6, .inl f5)), (a6, .inl (G 0, 6, .inl f6))]) hP hD [0, 1, 2, 3, 4, 5, 6, 7, 8, 9, 10] (by decide +kernel) rfl
        refine W.widen (k := 0) (n := 0) (Nat.le_of_ble_eq_true rfl) (Nat.le_of_ble_eq_true rfl) ?_
        exact W.lret (v := (-1)) hx hb hr (fun t ht hW => ⟨⟨(-1), (w0, f, g), rfl, ⟨hpost, trivial⟩, ⟨by rw [ht]; exact hP9, hD9⟩⟩, hS.F ht⟩) hS.2.2 dX10_depth_28

set_option maxHeartbeats 1000000 in
set_option maxRecDepth 100000 in
theorem c_X10_best (l : Launch) (dC : Nat → ClassId) (dI : Nat → Nat → Nat) (G : Nat → ClassId) (sz : Nat) (h0 rd wy tr im kp od ch cr le mk tl sh wk cs a1 a2 a3 a4 a5 a6 N B D : Nat) (tf rf what : Int32) (w0 : Int64) (f1 f2 f4 f5 f6 : Nat → Int32) (rw rq : Nat → Nat) (F : Nat → Nat → Int64) (E : Nat → Nat → Int32) (hN_N : N ≤ 10) (hB_B : B ≤ 6) (hD_D : 1 ≤ D ∧ D ≤ 9) : Met l yX10_best (Cond.code yX10_best cX10_best 2 (some .long) :: GT) ({ frames := 5, cells := 0, slots := 0, locals := 116 } : Room) (PcW [.ref h0, .int what] dC dI G (([(h0, .inr (10, [.ref rd, .ref wy, .ref tr, .ref im, .ref kp, .ref od, .ref ch, .ref cr, .ref le, .ref mk, .ref tl, .ref sh, .int tf, .int rf])), (ch, .inr (0, [.long w0, .ref wk, .ref cs])), (wk, .inl (G 5, 11, .inr (.inr (.inr (.inr (fun ir => if ir < 11 then some (rw ir) else none)))))), (cs, .inl (G 4, 10, .inr (.inr (.inr (.inr (fun ir => if ir < 10 then some (rq ir) else none)))))), (wy, .inr (9, [.int (nI N), .int (nI B), .int (nI D), .ref a1, .ref a2, .ref a3, .ref a4, .ref a5, .ref a6])), (a1, .inl (G 0, 10, .inl f1)), (a2, .inl (G 0, 10, .inl f2)), (a4, .inl (G 0, 6, .inl f4)), (a5, .inl (G 0, 6, .inl f5)), (a6, .inl (G 0, 6, .inl f6))] : va_W) ++ ((((List.range 11).map (fun iq => (rw iq, .inl (G 1, 70, .inr (.inl (F iq)))))) : va_W) ++ ((((List.range 10).map (fun iq => (rq iq, .inl (G 0, 70, .inl (E iq))))) : va_W) ++ []))) sz) (va_Ql (fun (r : Int64) (u : Int64 × (Nat → Nat → Int64) × (Nat → Nat → Int32)) => match u with | (u0, u1, u2) => (True) ∧ True) (fun (u : Int64 × (Nat → Nat → Int64) × (Nat → Nat → Int32)) (t : State) => match u with | (u0, u1, u2) => va_P (dC, dI) vwCl (([(h0, .inr (10, [.ref rd, .ref wy, .ref tr, .ref im, .ref kp, .ref od, .ref ch, .ref cr, .ref le, .ref mk, .ref tl, .ref sh, .int tf, .int rf])), (ch, .inr (0, [.long u0, .ref wk, .ref cs])), (wk, .inl (G 5, 11, .inr (.inr (.inr (.inr (fun ir => if ir < 11 then some (rw ir) else none)))))), (cs, .inl (G 4, 10, .inr (.inr (.inr (.inr (fun ir => if ir < 10 then some (rq ir) else none)))))), (wy, .inr (9, [.int (nI N), .int (nI B), .int (nI D), .ref a1, .ref a2, .ref a3, .ref a4, .ref a5, .ref a6])), (a1, .inl (G 0, 10, .inl f1)), (a2, .inl (G 0, 10, .inl f2)), (a4, .inl (G 0, 6, .inl f4)), (a5, .inl (G 0, 6, .inl f5)), (a6, .inl (G 0, 6, .inl f6))] : va_W) ++ ((((List.range 11).map (fun iq => (rw iq, .inl (G 1, 70, .inr (.inl (u1 iq)))))) : va_W) ++ ((((List.range 10).map (fun iq => (rq iq, .inl (G 0, 70, .inl (u2 iq))))) : va_W) ++ []))) t.heap ∧ va_D (va_A (([(h0, .inr (10, [.ref rd, .ref wy, .ref tr, .ref im, .ref kp, .ref od, .ref ch, .ref cr, .ref le, .ref mk, .ref tl, .ref sh, .int tf, .int rf])), (ch, .inr (0, [.long w0, .ref wk, .ref cs])), (wk, .inl (G 5, 11, .inr (.inr (.inr (.inr (fun ir => if ir < 11 then some (rw ir) else none)))))), (cs, .inl (G 4, 10, .inr (.inr (.inr (.inr (fun ir => if ir < 10 then some (rq ir) else none)))))), (wy, .inr (9, [.int (nI N), .int (nI B), .int (nI D), .ref a1, .ref a2, .ref a3, .ref a4, .ref a5, .ref a6])), (a1, .inl (G 0, 10, .inl f1)), (a2, .inl (G 0, 10, .inl f2)), (a4, .inl (G 0, 6, .inl f4)), (a5, .inl (G 0, 6, .inl f5)), (a6, .inl (G 0, 6, .inl f6))] : va_W) ++ ((((List.range 11).map (fun iq => (rw iq, .inl (G 1, 70, .inr (.inl (F iq)))))) : va_W) ++ ((((List.range 10).map (fun iq => (rq iq, .inl (G 0, 70, .inl (E iq))))) : va_W) ++ []))) sz) (([(h0, .inr (10, [.ref rd, .ref wy, .ref tr, .ref im, .ref kp, .ref od, .ref ch, .ref cr, .ref le, .ref mk, .ref tl, .ref sh, .int tf, .int rf])), (ch, .inr (0, [.long u0, .ref wk, .ref cs])), (wk, .inl (G 5, 11, .inr (.inr (.inr (.inr (fun ir => if ir < 11 then some (rw ir) else none)))))), (cs, .inl (G 4, 10, .inr (.inr (.inr (.inr (fun ir => if ir < 10 then some (rq ir) else none)))))), (wy, .inr (9, [.int (nI N), .int (nI B), .int (nI D), .ref a1, .ref a2, .ref a3, .ref a4, .ref a5, .ref a6])), (a1, .inl (G 0, 10, .inl f1)), (a2, .inl (G 0, 10, .inl f2)), (a4, .inl (G 0, 6, .inl f4)), (a5, .inl (G 0, 6, .inl f5)), (a6, .inl (G 0, 6, .inl f6))] : va_W) ++ ((((List.range 11).map (fun iq => (rw iq, .inl (G 1, 70, .inr (.inl (u1 iq)))))) : va_W) ++ ((((List.range 10).map (fun iq => (rq iq, .inl (G 0, 70, .inl (u2 iq))))) : va_W) ++ [])))) (va_A (([(h0, .inr (10, [.ref rd, .ref wy, .ref tr, .ref im, .ref kp, .ref od, .ref ch, .ref cr, .ref le, .ref mk, .ref tl, .ref sh, .int tf, .int rf])), (ch, .inr (0, [.long w0, .ref wk, .ref cs])), (wk, .inl (G 5, 11, .inr (.inr (.inr (.inr (fun ir => if ir < 11 then some (rw ir) else none)))))), (cs, .inl (G 4, 10, .inr (.inr (.inr (.inr (fun ir => if ir < 10 then some (rq ir) else none)))))), (wy, .inr (9, [.int (nI N), .int (nI B), .int (nI D), .ref a1, .ref a2, .ref a3, .ref a4, .ref a5, .ref a6])), (a1, .inl (G 0, 10, .inl f1)), (a2, .inl (G 0, 10, .inl f2)), (a4, .inl (G 0, 6, .inl f4)), (a5, .inl (G 0, 6, .inl f5)), (a6, .inl (G 0, 6, .inl f6))] : va_W) ++ ((((List.range 11).map (fun iq => (rw iq, .inl (G 1, 70, .inr (.inl (F iq)))))) : va_W) ++ ((((List.range 10).map (fun iq => (rq iq, .inl (G 0, 70, .inl (E iq))))) : va_W) ++ []))) sz)) 0 0 (va_A (([(h0, .inr (10, [.ref rd, .ref wy, .ref tr, .ref im, .ref kp, .ref od, .ref ch, .ref cr, .ref le, .ref mk, .ref tl, .ref sh, .int tf, .int rf])), (ch, .inr (0, [.long w0, .ref wk, .ref cs])), (wk, .inl (G 5, 11, .inr (.inr (.inr (.inr (fun ir => if ir < 11 then some (rw ir) else none)))))), (cs, .inl (G 4, 10, .inr (.inr (.inr (.inr (fun ir => if ir < 10 then some (rq ir) else none)))))), (wy, .inr (9, [.int (nI N), .int (nI B), .int (nI D), .ref a1, .ref a2, .ref a3, .ref a4, .ref a5, .ref a6])), (a1, .inl (G 0, 10, .inl f1)), (a2, .inl (G 0, 10, .inl f2)), (a4, .inl (G 0, 6, .inl f4)), (a5, .inl (G 0, 6, .inl f5)), (a6, .inl (G 0, 6, .inl f6))] : va_W) ++ ((((List.range 11).map (fun iq => (rw iq, .inl (G 1, 70, .inr (.inl (F iq)))))) : va_W) ++ ((((List.range 10).map (fun iq => (rq iq, .inl (G 0, 70, .inl (E iq))))) : va_W) ++ []))) sz) := by
  have tn192_ : nIT N := fun _ => nI_toInt (by omega)
  have tn193_ : nIT B := fun _ => nI_toInt (by omega)
  have tn194_ : nIT D := fun _ => nI_toInt (by omega)
  refine Met.ofW (cc := cX10_best) (maxL := 2) (ret := (some .long)) (by decide) rfl ?_
  intro p e s m args below meth c s₁ Bd hml hv
  obtain ⟨rfl, hsz, hP, hK, hD0⟩ := hv
  have hx := Bd.exec
  have hb := Bd.bytes
  have hr := Bd.returns
  have hg : ∀ w ∈ GT, w.before ([.ref h0, .int what] : List Value).toArray s = true := fun w h => atoms_spec (ws := Cond.code yX10_best cX10_best 2 (some .long) :: GT) Bd.pre w (List.mem_cons_of_mem _ h)
  have hown : s.vm.findClass RX10 = some m.cls := findClass_of_methodNamed Bd.named
  have hlocks := Bd.notSynchronized
  subst hsz
  have hD := hD0.self (sz := s.heap.size)
  generalize hAe : va_A (([(h0, .inr (10, [.ref rd, .ref wy, .ref tr, .ref im, .ref kp, .ref od, .ref ch, .ref cr, .ref le, .ref mk, .ref tl, .ref sh, .int tf, .int rf])), (ch, .inr (0, [.long w0, .ref wk, .ref cs])), (wk, .inl (G 5, 11, .inr (.inr (.inr (.inr (fun ir => if ir < 11 then some (rw ir) else none)))))), (cs, .inl (G 4, 10, .inr (.inr (.inr (.inr (fun ir => if ir < 10 then some (rq ir) else none)))))), (wy, .inr (9, [.int (nI N), .int (nI B), .int (nI D), .ref a1, .ref a2, .ref a3, .ref a4, .ref a5, .ref a6])), (a1, .inl (G 0, 10, .inl f1)), (a2, .inl (G 0, 10, .inl f2)), (a4, .inl (G 0, 6, .inl f4)), (a5, .inl (G 0, 6, .inl f5)), (a6, .inl (G 0, 6, .inl f6))] : va_W) ++ ((((List.range 11).map (fun iq => (rw iq, .inl (G 1, 70, .inr (.inl (F iq)))))) : va_W) ++ ((((List.range 10).map (fun iq => (rq iq, .inl (G 0, 70, .inl (E iq))))) : va_W) ++ []))) s.heap.size = A at hD ⊢
  have hA : ∀ q : Nat, s.heap.size ≤ q → A q := fun q h => by rw [← hAe]; exact Or.inr h
  have hS : va_S A s.heap s.heap [] := va_S.rf
  have hl := lv_entry ([.ref h0, .int what]) (n := 2) (Nat.le_of_ble_eq_true rfl)
  rw [lg_entry_eq]
  generalize (lg_sl ([.ref h0, .int what]) ++ List.replicate (2 - (lg_sl ([.ref h0, .int what])).length) Slot.unset).toArray = ls at hl ⊢
  have hl : lv_has ls 2 [(0, .ref h0), (1, .int what)] := hl
  refine lv_iload_n hx hb dX10_best_0 rfl (lv_at hl 1 rfl) ?_
  have hPc := hP.sub (ws' := []) [] rfl
  refine va_calli (va_runS (As := [.int what]) (rest := []) ⟨hx, hb, hml, hown, hg⟩ (c_X10_isFractionPart l dC dI G _ what) (kwS hg mfX10_isFractionPart wt_604 ⟨Nat.le_of_ble_eq_true rfl, Nat.le_of_ble_eq_true rfl⟩) (preSR hK hPc) rfl rfl hl.1 rfl (lv_room (Nat.le_of_ble_eq_true rfl)) dX10_best_1 ⟨Nat.le_of_ble_eq_true rfl, Nat.le_of_ble_eq_true rfl⟩) hS (fun q h1 h2 => absurd h2 (Nat.not_le.mpr h1)) (fun q h => hA q (Nat.le_trans hS.1 h)) (fun r1 ur1 t H1 locs ht hvm w2 hB hz1 hk1 hS => ?_)
  have hP := keepR hP hk1
  obtain ⟨w2, w2x⟩ := w2
  try simp only [l_ii, show (0 : Int32).toInt = 0 from by decide, show (1 : Int32).toInt = 1 from by decide] at w2
  subst w2
  refine lv_if_ne (tgt := 11) hx hb dX10_best_4 rfl (fun c3 => ?_) (fun c3 => ?_)
  · skip
    have b4 := if10_p c3
    refine lv_aload_n hx hb dX10_best_11 rfl (lv_at hl 0 rfl) ?_
    refine va_get (D := (dC, dI)) (ci := 10) (v := .ref ch) (C := RX10) (T := TX10) (N := 14) hx hb hg inG10 hown hK.1 hP 0 rfl rfl 6 (Nat.le_of_ble_eq_true rfl) (hg _ wt_308) (fun _ h9 => h9) rfl dX10_best_12 ?_
    refine lv_aload_n hx hb dX10_best_15 rfl (lv_at hl 0 rfl) ?_
    refine va_get (D := (dC, dI)) (ci := 10) (v := .ref wy) (C := RX10) (T := TX10) (N := 14) hx hb hg inG10 hown hK.1 hP 0 rfl rfl 1 (Nat.le_of_ble_eq_true rfl) (hg _ wt_303) (fun _ h9 => h9) rfl dX10_best_16 ?_
    refine lv_bipush (v := (-4)) hx hb dX10_best_19 rfl ?_
    obtain ⟨hPc, hDc, hFc⟩ := va_sub3 (ws' := (([(ch, .inr (0, [.long w0, .ref wk, .ref cs])), (wk, .inl (G 5, 11, .inr (.inr (.inr (.inr (fun ir => if ir < 11 then some (rw ir) else none)))))), (cs, .inl (G 4, 10, .inr (.inr (.inr (.inr (fun ir => if ir < 10 then some (rq ir) else none)))))), (wy, .inr (9, [.int (nI N), .int (nI B), .int (nI D), .ref a1, .ref a2, .ref a3, .ref a4, .ref a5, .ref a6])), (a1, .inl (G 0, 10, .inl f1)), (a2, .inl (G 0, 10, .inl f2)), (a4, .inl (G 0, 6, .inl f4)), (a5, .inl (G 0, 6, .inl f5)), (a6, .inl (G 0, 6, .inl f6))] : va_W) ++ ((((List.range 11).map (fun iq => (rw iq, .inl (G 1, 70, .inr (.inl (F iq)))))) : va_W) ++ ((((List.range 10).map (fun iq => (rq iq, .inl (G 0, 70, .inl (E iq))))) : va_W) ++ [])))) hP hD hS hA [1, 2, 3, 4, 5, 6, 7, 8, 9, 10, 11, 12, 13, 14, 15, 16, 17, 18, 19, 20, 21, 22, 23, 24, 25, 26, 27, 28, 29, 30] (by decide +kernel) rfl
    refine va_callv (va_runVN (As := [.ref wy, .int (-4)]) (rest := []) ⟨hx, hb, hml, hown, hg⟩ (c_X0_plan l dC dI G _ ch wk cs wy a1 a2 a3 a4 a5 a6 N B D (-4) w0 f1 f2 f4 f5 f6 rw rq F E hN_N hB_B hD_D) (kwVN hg hK mfX0_plan wn_657 ⟨Nat.le_of_ble_eq_true rfl, Nat.le_of_ble_eq_true rfl⟩) (preVW hK hPc hDc (ci := 0) (r := (RX0, TX0, 3)) rfl rfl) rfl rfl hl.1 rfl (lv_room (Nat.le_of_ble_eq_true rfl)) dX10_best_21 ⟨Nat.le_of_ble_eq_true rfl, Nat.le_of_ble_eq_true rfl⟩) hS (fun q _ h => hFc q h) hFc (fun ur5 t H1 locs ht hvm w6 hB hz1 hk1 hS => ?_)
    obtain ⟨u7, u8, u9⟩ := ur5
    obtain ⟨hP1, hD1⟩ := hB
    rw [ht] at hP1
    obtain ⟨hP, hD⟩ := va_join (wr := [(h0, .inr (10, [.ref rd, .ref wy, .ref tr, .ref im, .ref kp, .ref od, .ref ch, .ref cr, .ref le, .ref mk, .ref tl, .ref sh, .int tf, .int rf]))]) (w1 := (([(ch, .inr (0, [.long u7, .ref wk, .ref cs])), (wk, .inl (G 5, 11, .inr (.inr (.inr (.inr (fun ir => if ir < 11 then some (rw ir) else none)))))), (cs, .inl (G 4, 10, .inr (.inr (.inr (.inr (fun ir => if ir < 10 then some (rq ir) else none)))))), (wy, .inr (9, [.int (nI N), .int (nI B), .int (nI D), .ref a1, .ref a2, .ref a3, .ref a4, .ref a5, .ref a6])), (a1, .inl (G 0, 10, .inl f1)), (a2, .inl (G 0, 10, .inl f2)), (a4, .inl (G 0, 6, .inl f4)), (a5, .inl (G 0, 6, .inl f5)), (a6, .inl (G 0, 6, .inl f6))] : va_W) ++ ((((List.range 11).map (fun iq => (rw iq, .inl (G 1, 70, .inr (.inl (u8 iq)))))) : va_W) ++ ((((List.range 10).map (fun iq => (rq iq, .inl (G 0, 70, .inl (u9 iq))))) : va_W) ++ [])))) hP hD [1, 2, 3, 4, 5, 6, 7, 8, 9, 10, 11, 12, 13, 14, 15, 16, 17, 18, 19, 20, 21, 22, 23, 24, 25, 26, 27, 28, 29, 30] [0] rfl rfl (by decide +kernel) (by decide +kernel) hk1 hFc hP1 hD1
    generalize H1 = H at hP hS ⊢
    refine lv_aload_n hx hb dX10_best_24 rfl (lv_at hl 0 rfl) ?_
    refine va_get (D := (dC, dI)) (ci := 10) (v := .ref ch) (C := RX10) (T := TX10) (N := 14) hx hb hg inG10 hown hK.1 hP 0 rfl rfl 6 (Nat.le_of_ble_eq_true rfl) (hg _ wt_308) (fun _ h9 => h9) rfl dX10_best_25 ?_
    refine lv_aload_n hx hb dX10_best_28 rfl (lv_at hl 0 rfl) ?_
    refine va_get (D := (dC, dI)) (ci := 10) (v := .ref wy) (C := RX10) (T := TX10) (N := 14) hx hb hg inG10 hown hK.1 hP 0 rfl rfl 1 (Nat.le_of_ble_eq_true rfl) (hg _ wt_303) (fun _ h9 => h9) rfl dX10_best_29 ?_
    have hPc := hP.sub (ws' := (([(ch, .inr (0, [.long u7, .ref wk, .ref cs])), (wk, .inl (G 5, 11, .inr (.inr (.inr (.inr (fun ir => if ir < 11 then some (rw ir) else none)))))), (cs, .inl (G 4, 10, .inr (.inr (.inr (.inr (fun ir => if ir < 10 then some (rq ir) else none)))))), (wy, .inr (9, [.int (nI N), .int (nI B), .int (nI D), .ref a1, .ref a2, .ref a3, .ref a4, .ref a5, .ref a6]))] : va_W) ++ ((((List.range 11).map (fun iq => (rw iq, .inl (G 1, 70, .inr (.inl (u8 iq)))))) : va_W) ++ ((((List.range 10).map (fun iq => (rq iq, .inl (G 0, 70, .inl (u9 iq))))) : va_W) ++ [])))) [1, 2, 3, 4, 10, 11, 12, 13, 14, 15, 16, 17, 18, 19, 20, 21, 22, 23, 24, 25, 26, 27, 28, 29, 30] rfl
    refine va_calll (va_runVN (As := [.ref wy]) (rest := []) ⟨hx, hb, hml, hown, hg⟩ (c_X0_wakingAtFirst l dC dI G _ ch wk cs wy a1 a2 a3 a4 a5 a6 N B D u7 rw rq u8 u9 hN_N hB_B hD_D) (kwVN hg hK mfX0_wakingAtFirst wn_676 ⟨Nat.le_of_ble_eq_true rfl, Nat.le_of_ble_eq_true rfl⟩) (preVR hK hPc (ci := 0) (r := (RX0, TX0, 3)) rfl rfl) rfl rfl hl.1 rfl (lv_room (Nat.le_of_ble_eq_true rfl)) dX10_best_32 ⟨Nat.le_of_ble_eq_true rfl, Nat.le_of_ble_eq_true rfl⟩) hS (fun q h1 h2 => absurd h2 (Nat.not_le.mpr h1)) (fun q h => hA q (Nat.le_trans hS.1 h)) (fun r10 ur10 t H1 locs ht hvm w11 hB hz1 hk1 hS => ?_)
    have hP := keepR hP hk1
    obtain ⟨w11, w11x⟩ := w11
    refine lv_aload_n hx hb dX10_best_35 rfl (lv_at hl 0 rfl) ?_
    refine va_get (D := (dC, dI)) (ci := 10) (v := .ref ch) (C := RX10) (T := TX10) (N := 14) hx hb hg inG10 hown hK.1 hP 0 rfl rfl 6 (Nat.le_of_ble_eq_true rfl) (hg _ wt_308) (fun _ h9 => h9) rfl dX10_best_36 ?_
    refine va_getN (D := (dC, dI)) (ci := 0) (v := .long u7) (C := RX0) (T := TX0) (N := 3) hx hb hg inG0 hown hK.1 hP 1 rfl rfl 0 (Nat.le_of_ble_eq_true rfl) (hK.nest wn_181) (fun _ h9 => h9) rfl dX10_best_39 ?_
    refine lv_iload_n hx hb dX10_best_42 rfl (lv_at hl 1 rfl) ?_
    have hPc := hP.sub (ws' := []) [] rfl
    refine va_calll (va_runS (As := [.long r10, .long u7, .int what]) (rest := []) ⟨hx, hb, hml, hown, hg⟩ (c_X10_fraction l dC dI G _ what r10 u7) (kwS hg mfX10_fraction wt_635 ⟨Nat.le_of_ble_eq_true rfl, Nat.le_of_ble_eq_true rfl⟩) (preSR hK hPc) rfl rfl hl.1 rfl (lv_room (Nat.le_of_ble_eq_true rfl)) dX10_best_43 ⟨Nat.le_of_ble_eq_true rfl, Nat.le_of_ble_eq_true rfl⟩) hS (fun q h1 h2 => absurd h2 (Nat.not_le.mpr h1)) (fun q h => hA q (Nat.le_trans hS.1 h)) (fun r12 ur12 t H1 locs ht hvm w13 hB hz1 hk1 hS => ?_)
    have hP := keepR hP hk1
    obtain ⟨w13, w13x⟩ := w13
    have hpost : True := by
      trivial
    obtain ⟨hP9, hD9⟩ := va_sub2 (ws' := (([(h0, .inr (10, [.ref rd, .ref wy, .ref tr, .ref im, .ref kp, .ref od, .ref ch, .ref cr, .ref le, .ref mk, .ref tl, .ref sh, .int tf, .int rf])), (ch, .inr (0, [.long u7, .ref wk, .ref cs])), (wk, .inl (G 5, 11, .inr (.inr (.inr (.inr (fun ir => if ir < 11 then some (rw ir) else none)))))), (cs, .inl (G 4, 10, .inr (.inr (.inr (.inr (fun ir => if ir < 10 then some (rq ir) else none)))))), (wy, .inr (9, [.int (nI N), .int (nI B), .int (nI D), .ref a1, .ref a2, .ref a3, .ref a4, .ref a5, .ref a6])), (a1, .inl (G 0, 10, .inl f1)), (a2, .inl (G 0, 10, .inl f2)), (a4, .inl (G 0, 6, .inl f4)), (a5, .inl (G 0, 6, .inl f5)), (a6, .inl (G 0, 6, .inl f6))] : va_W) ++ ((((List.range 11).map (fun iq => (rw iq, .inl (G 1, 70, .inr (.inl (u8 iq)))))) : va_W) ++ ((((List.range 10).map (fun iq => (rq iq, .inl (G 0, 70, .inl (u9 iq))))) : va_W) ++ [])))) hP hD [0, 1, 2, 3, 4, 5, 6, 7, 8, 9, 10, 11, 12, 13, 14, 15, 16, 17, 18, 19, 20, 21, 22, 23, 24, 25, 26, 27, 28, 29, 30] (by decide +kernel) rfl
    refine W.widen (k := 0) (n := 0) (Nat.le_of_ble_eq_true rfl) (Nat.le_of_ble_eq_true rfl) ?_
    exact W.lret (v := r12) hx hb hr (fun t ht hW => ⟨⟨r12, (u7, u8, u9), rfl, ⟨hpost, trivial⟩, ⟨by rw [ht]; exact hP9, hD9⟩⟩, hS.F ht⟩) hS.2.2 dX10_best_46
  · skip
    have b14 := if10_n c3
    refine lv_ldc2 (v := (-1)) hx hb hown (hg _ wt_607) dX10_best_7 ?_
    have hpost : True := by
      trivial
    obtain ⟨hP9, hD9⟩ := va_sub2 (ws' := (([(h0, .inr (10, [.ref rd, .ref wy, .ref tr, .ref im, .ref kp, .ref od, .ref ch, .ref cr, .ref le, .ref mk, .ref tl, .ref sh, .int tf, .int rf])), (ch, .inr (0, [.long w0, .ref wk, .ref cs])), (wk, .inl (G 5, 11, .inr (.inr (.inr (.inr (fun ir => if ir < 11 then some (rw ir) else none)))))), (cs, .inl (G 4, 10, .inr (.inr (.inr (.inr (fun ir => if ir < 10 then some (rq ir) else none)))))), (wy, .inr (9, [.int (nI N), .int (nI B), .int (nI D), .ref a1, .ref a2, .ref a3, .ref a4, .ref a5, .ref a6])), (a1, .inl (G 0, 10, .inl f1)), (a2, .inl (G 0, 10, .inl f2)), (a4, .inl (G 0, 6, .inl f4)), (a5, .inl (G 0, 6, .inl f5)), (a6, .inl (G 0, 6, .inl f6))] : va_W) ++ ((((List.range 11).map (fun iq => (rw iq, .inl (G 1, 70, .inr (.inl (F iq)))))) : va_W) ++ ((((List.range 10).map (fun iq => (rq iq, .inl (G 0, 70, .inl (E iq))))) : va_W) ++ [])))) hP hD [0, 1, 2, 3, 4, 5, 6, 7, 8, 9, 10, 11, 12, 13, 14, 15, 16, 17, 18, 19, 20, 21, 22, 23, 24, 25, 26, 27, 28, 29, 30] (by decide +kernel) rfl
    refine W.widen (k := 0) (n := 0) (Nat.le_of_ble_eq_true rfl) (Nat.le_of_ble_eq_true rfl) ?_
    exact W.lret (v := (-1)) hx hb hr (fun t ht hW => ⟨⟨(-1), (w0, F, E), rfl, ⟨hpost, trivial⟩, ⟨by rw [ht]; exact hP9, hD9⟩⟩, hS.F ht⟩) hS.2.2 dX10_best_10

set_option maxHeartbeats 1000000 in
set_option maxRecDepth 100000 in
theorem c_X10_drop (l : Launch) (dC : Nat → ClassId) (dI : Nat → Nat → Nat) (G : Nat → ClassId) (sz : Nat) (h0 rd wy tr im kp od ch cr le mk tl sh sa aa a1 a2 a3 a4 a5 a6 N B D : Nat) (tf rf what : Int32) (w0 : Int64) (f1 f2 f3 f4 f5 f6 : Nat → Int32) (f g : Nat → Int64) (hN_N : N ≤ 10) (hB_B : B ≤ 6) (hD_D : 1 ≤ D ∧ D ≤ 9) : Met l yX10_drop (Cond.code yX10_drop cX10_drop 8 (some .long) :: GT) ({ frames := 5, cells := 0, slots := 0, locals := 112 } : Room) (PcW [.ref h0, .int what] dC dI G [(h0, .inr (10, [.ref rd, .ref wy, .ref tr, .ref im, .ref kp, .ref od, .ref ch, .ref cr, .ref le, .ref mk, .ref tl, .ref sh, .int tf, .int rf])), (od, .inr (4, [.long w0, .ref sa, .ref aa])), (sa, .inl (G 1, 10, .inr (.inl f))), (aa, .inl (G 1, 10, .inr (.inl g))), (wy, .inr (9, [.int (nI N), .int (nI B), .int (nI D), .ref a1, .ref a2, .ref a3, .ref a4, .ref a5, .ref a6])), (a1, .inl (G 0, 10, .inl f1)), (a2, .inl (G 0, 10, .inl f2)), (a3, .inl (G 0, 10, .inl f3)), (a4, .inl (G 0, 6, .inl f4)), (a5, .inl (G 0, 6, .inl f5)), (a6, .inl (G 0, 6, .inl f6))] sz) (va_Ql (fun (r : Int64) (u : Int64 × (Nat → Int64) × (Nat → Int64)) => match u with | (u0, u1, u2) => (True) ∧ True) (fun (u : Int64 × (Nat → Int64) × (Nat → Int64)) (t : State) => match u with | (u0, u1, u2) => va_P (dC, dI) vwCl [(h0, .inr (10, [.ref rd, .ref wy, .ref tr, .ref im, .ref kp, .ref od, .ref ch, .ref cr, .ref le, .ref mk, .ref tl, .ref sh, .int tf, .int rf])), (od, .inr (4, [.long u0, .ref sa, .ref aa])), (sa, .inl (G 1, 10, .inr (.inl u1))), (aa, .inl (G 1, 10, .inr (.inl u2))), (wy, .inr (9, [.int (nI N), .int (nI B), .int (nI D), .ref a1, .ref a2, .ref a3, .ref a4, .ref a5, .ref a6])), (a1, .inl (G 0, 10, .inl f1)), (a2, .inl (G 0, 10, .inl f2)), (a3, .inl (G 0, 10, .inl f3)), (a4, .inl (G 0, 6, .inl f4)), (a5, .inl (G 0, 6, .inl f5)), (a6, .inl (G 0, 6, .inl f6))] t.heap ∧ va_D (va_A [(h0, .inr (10, [.ref rd, .ref wy, .ref tr, .ref im, .ref kp, .ref od, .ref ch, .ref cr, .ref le, .ref mk, .ref tl, .ref sh, .int tf, .int rf])), (od, .inr (4, [.long w0, .ref sa, .ref aa])), (sa, .inl (G 1, 10, .inr (.inl f))), (aa, .inl (G 1, 10, .inr (.inl g))), (wy, .inr (9, [.int (nI N), .int (nI B), .int (nI D), .ref a1, .ref a2, .ref a3, .ref a4, .ref a5, .ref a6])), (a1, .inl (G 0, 10, .inl f1)), (a2, .inl (G 0, 10, .inl f2)), (a3, .inl (G 0, 10, .inl f3)), (a4, .inl (G 0, 6, .inl f4)), (a5, .inl (G 0, 6, .inl f5)), (a6, .inl (G 0, 6, .inl f6))] sz) [(h0, .inr (10, [.ref rd, .ref wy, .ref tr, .ref im, .ref kp, .ref od, .ref ch, .ref cr, .ref le, .ref mk, .ref tl, .ref sh, .int tf, .int rf])), (od, .inr (4, [.long u0, .ref sa, .ref aa])), (sa, .inl (G 1, 10, .inr (.inl u1))), (aa, .inl (G 1, 10, .inr (.inl u2))), (wy, .inr (9, [.int (nI N), .int (nI B), .int (nI D), .ref a1, .ref a2, .ref a3, .ref a4, .ref a5, .ref a6])), (a1, .inl (G 0, 10, .inl f1)), (a2, .inl (G 0, 10, .inl f2)), (a3, .inl (G 0, 10, .inl f3)), (a4, .inl (G 0, 6, .inl f4)), (a5, .inl (G 0, 6, .inl f5)), (a6, .inl (G 0, 6, .inl f6))]) (va_A [(h0, .inr (10, [.ref rd, .ref wy, .ref tr, .ref im, .ref kp, .ref od, .ref ch, .ref cr, .ref le, .ref mk, .ref tl, .ref sh, .int tf, .int rf])), (od, .inr (4, [.long w0, .ref sa, .ref aa])), (sa, .inl (G 1, 10, .inr (.inl f))), (aa, .inl (G 1, 10, .inr (.inl g))), (wy, .inr (9, [.int (nI N), .int (nI B), .int (nI D), .ref a1, .ref a2, .ref a3, .ref a4, .ref a5, .ref a6])), (a1, .inl (G 0, 10, .inl f1)), (a2, .inl (G 0, 10, .inl f2)), (a3, .inl (G 0, 10, .inl f3)), (a4, .inl (G 0, 6, .inl f4)), (a5, .inl (G 0, 6, .inl f5)), (a6, .inl (G 0, 6, .inl f6))] sz)) 0 0 (va_A [(h0, .inr (10, [.ref rd, .ref wy, .ref tr, .ref im, .ref kp, .ref od, .ref ch, .ref cr, .ref le, .ref mk, .ref tl, .ref sh, .int tf, .int rf])), (od, .inr (4, [.long w0, .ref sa, .ref aa])), (sa, .inl (G 1, 10, .inr (.inl f))), (aa, .inl (G 1, 10, .inr (.inl g))), (wy, .inr (9, [.int (nI N), .int (nI B), .int (nI D), .ref a1, .ref a2, .ref a3, .ref a4, .ref a5, .ref a6])), (a1, .inl (G 0, 10, .inl f1)), (a2, .inl (G 0, 10, .inl f2)), (a3, .inl (G 0, 10, .inl f3)), (a4, .inl (G 0, 6, .inl f4)), (a5, .inl (G 0, 6, .inl f5)), (a6, .inl (G 0, 6, .inl f6))] sz) := by
  have tn198_ : nIT N := fun _ => nI_toInt (by omega)
  have tn199_ : nIT B := fun _ => nI_toInt (by omega)
  have tn200_ : nIT D := fun _ => nI_toInt (by omega)
  refine Met.ofW (cc := cX10_drop) (maxL := 8) (ret := (some .long)) (by decide) rfl ?_
  intro p e s m args below meth c s₁ Bd hml hv
  obtain ⟨rfl, hsz, hP, hK, hD0⟩ := hv
  have hx := Bd.exec
  have hb := Bd.bytes
  have hr := Bd.returns
  have hg : ∀ w ∈ GT, w.before ([.ref h0, .int what] : List Value).toArray s = true := fun w h => atoms_spec (ws := Cond.code yX10_drop cX10_drop 8 (some .long) :: GT) Bd.pre w (List.mem_cons_of_mem _ h)
  have hown : s.vm.findClass RX10 = some m.cls := findClass_of_methodNamed Bd.named
  have hlocks := Bd.notSynchronized
  subst hsz
  have hD := hD0.self (sz := s.heap.size)
  generalize hAe : va_A [(h0, .inr (10, [.ref rd, .ref wy, .ref tr, .ref im, .ref kp, .ref od, .ref ch, .ref cr, .ref le, .ref mk, .ref tl, .ref sh, .int tf, .int rf])), (od, .inr (4, [.long w0, .ref sa, .ref aa])), (sa, .inl (G 1, 10, .inr (.inl f))), (aa, .inl (G 1, 10, .inr (.inl g))), (wy, .inr (9, [.int (nI N), .int (nI B), .int (nI D), .ref a1, .ref a2, .ref a3, .ref a4, .ref a5, .ref a6])), (a1, .inl (G 0, 10, .inl f1)), (a2, .inl (G 0, 10, .inl f2)), (a3, .inl (G 0, 10, .inl f3)), (a4, .inl (G 0, 6, .inl f4)), (a5, .inl (G 0, 6, .inl f5)), (a6, .inl (G 0, 6, .inl f6))] s.heap.size = A at hD ⊢
  have hA : ∀ q : Nat, s.heap.size ≤ q → A q := fun q h => by rw [← hAe]; exact Or.inr h
  have hS : va_S A s.heap s.heap [] := va_S.rf
  have hl := lv_entry ([.ref h0, .int what]) (n := 8) (Nat.le_of_ble_eq_true rfl)
  rw [lg_entry_eq]
  generalize (lg_sl ([.ref h0, .int what]) ++ List.replicate (8 - (lg_sl ([.ref h0, .int what])).length) Slot.unset).toArray = ls at hl ⊢
  have hl : lv_has ls 8 [(0, .ref h0), (1, .int what)] := hl
  refine lv_iload_n hx hb dX10_drop_0 rfl (lv_at hl 1 rfl) ?_
  have hPc := hP.sub (ws' := []) [] rfl
  refine va_calli (va_runS (As := [.int what]) (rest := []) ⟨hx, hb, hml, hown, hg⟩ (c_X10_isAnswerPart l dC dI G _ what) (kwS hg mfX10_isAnswerPart wt_694 ⟨Nat.le_of_ble_eq_true rfl, Nat.le_of_ble_eq_true rfl⟩) (preSR hK hPc) rfl rfl hl.1 rfl (lv_room (Nat.le_of_ble_eq_true rfl)) dX10_drop_1 ⟨Nat.le_of_ble_eq_true rfl, Nat.le_of_ble_eq_true rfl⟩) hS (fun q h1 h2 => absurd h2 (Nat.not_le.mpr h1)) (fun q h => hA q (Nat.le_trans hS.1 h)) (fun r1 ur1 t H1 locs ht hvm w2 hB hz1 hk1 hS => ?_)
  have hP := keepR hP hk1
  obtain ⟨w2, w2x⟩ := w2
  try simp only [l_ii, show (0 : Int32).toInt = 0 from by decide, show (2 : Int32).toInt = 2 from by decide] at w2
  subst w2
  refine lv_if_ne (tgt := 11) hx hb dX10_drop_4 rfl (fun c3 => ?_) (fun c3 => ?_)
  · skip
    have b4 := if10_p c3
    refine lv_aload_n hx hb dX10_drop_11 rfl (lv_at hl 0 rfl) ?_
    refine va_get (D := (dC, dI)) (ci := 10) (v := .ref wy) (C := RX10) (T := TX10) (N := 14) hx hb hg inG10 hown hK.1 hP 0 rfl rfl 1 (Nat.le_of_ble_eq_true rfl) (hg _ wt_303) (fun _ h9 => h9) rfl dX10_drop_12 ?_
    refine va_getN (D := (dC, dI)) (ci := 9) (v := .int (nI N)) (C := RX9) (T := TX9) (N := 9) hx hb hg inG9 hown hK.1 hP 4 rfl rfl 0 (Nat.le_of_ble_eq_true rfl) (hK.nest wn_60) (fun _ h9 => h9) rfl dX10_drop_15 ?_
    refine lv_if_ne (tgt := 25) hx hb dX10_drop_18 rfl (fun c5 => ?_) (fun c5 => ?_)
    · skip
      have n6 : N ≠ 0 := by have t := neI c5; rw [show (nI (N)).toInt = ((N : Nat) : Int) from tn198_ ()] at t; have : (0 : Int32).toInt = 0 := qI_0; omega
      refine lv_aload_n hx hb dX10_drop_25 rfl (lv_at hl 0 rfl) ?_
      refine va_get (D := (dC, dI)) (ci := 10) (v := .ref od) (C := RX10) (T := TX10) (N := 14) hx hb hg inG10 hown hK.1 hP 0 rfl rfl 5 (Nat.le_of_ble_eq_true rfl) (hg _ wt_307) (fun _ h9 => h9) rfl dX10_drop_26 ?_
      refine lv_aload_n hx hb dX10_drop_29 rfl (lv_at hl 0 rfl) ?_
      refine va_get (D := (dC, dI)) (ci := 10) (v := .ref wy) (C := RX10) (T := TX10) (N := 14) hx hb hg inG10 hown hK.1 hP 0 rfl rfl 1 (Nat.le_of_ble_eq_true rfl) (hg _ wt_303) (fun _ h9 => h9) rfl dX10_drop_30 ?_
      refine lv_aload_n hx hb dX10_drop_33 rfl (lv_at hl 0 rfl) ?_
      refine va_get (D := (dC, dI)) (ci := 10) (v := .ref wy) (C := RX10) (T := TX10) (N := 14) hx hb hg inG10 hown hK.1 hP 0 rfl rfl 1 (Nat.le_of_ble_eq_true rfl) (hg _ wt_303) (fun _ h9 => h9) rfl dX10_drop_34 ?_
      refine va_getN (D := (dC, dI)) (ci := 9) (v := .int (nI N)) (C := RX9) (T := TX9) (N := 9) hx hb hg inG9 hown hK.1 hP 4 rfl rfl 0 (Nat.le_of_ble_eq_true rfl) (hK.nest wn_60) (fun _ h9 => h9) rfl dX10_drop_37 ?_
      refine lv_iconst (v := 0) hx hb dX10_drop_40 rfl ?_
      obtain ⟨hPc, hDc, hFc⟩ := va_sub3 (ws' := [(od, .inr (4, [.long w0, .ref sa, .ref aa])), (sa, .inl (G 1, 10, .inr (.inl f))), (aa, .inl (G 1, 10, .inr (.inl g))), (wy, .inr (9, [.int (nI N), .int (nI B), .int (nI D), .ref a1, .ref a2, .ref a3, .ref a4, .ref a5, .ref a6])), (a1, .inl (G 0, 10, .inl f1)), (a2, .inl (G 0, 10, .inl f2)), (a3, .inl (G 0, 10, .inl f3)), (a4, .inl (G 0, 6, .inl f4)), (a5, .inl (G 0, 6, .inl f5)), (a6, .inl (G 0, 6, .inl f6))]) hP hD hS hA [1, 2, 3, 4, 5, 6, 7, 8, 9, 10] (by decide +kernel) rfl
      refine va_calll (va_runVN (As := [.ref wy, .int (nI N), .int 0]) (rest := []) ⟨hx, hb, hml, hown, hg⟩ (c_X4_waking l dC dI G _ od sa aa wy a1 a2 a3 a4 a5 a6 N B D N 0 w0 f1 f2 f3 f4 f5 f6 f g hN_N hB_B hD_D hN_N) (kwVN hg hK mfX4_waking wn_608 ⟨Nat.le_of_ble_eq_true rfl, Nat.le_of_ble_eq_true rfl⟩) (preVW hK hPc hDc (ci := 4) (r := (RX4, TX4, 3)) rfl rfl) rfl rfl hl.1 rfl (lv_room (Nat.le_of_ble_eq_true rfl)) dX10_drop_41 ⟨Nat.le_of_ble_eq_true rfl, Nat.le_of_ble_eq_true rfl⟩) hS (fun q _ h => hFc q h) hFc (fun r7 ur7 t H1 locs ht hvm w8 hB hz1 hk1 hS => ?_)
      obtain ⟨u9, u10, u11⟩ := ur7
      obtain ⟨hP1, hD1⟩ := hB
      rw [ht] at hP1
      obtain ⟨hP, hD⟩ := va_join (wr := [(h0, .inr (10, [.ref rd, .ref wy, .ref tr, .ref im, .ref kp, .ref od, .ref ch, .ref cr, .ref le, .ref mk, .ref tl, .ref sh, .int tf, .int rf]))]) (w1 := [(od, .inr (4, [.long u9, .ref sa, .ref aa])), (sa, .inl (G 1, 10, .inr (.inl u10))), (aa, .inl (G 1, 10, .inr (.inl u11))), (wy, .inr (9, [.int (nI N), .int (nI B), .int (nI D), .ref a1, .ref a2, .ref a3, .ref a4, .ref a5, .ref a6])), (a1, .inl (G 0, 10, .inl f1)), (a2, .inl (G 0, 10, .inl f2)), (a3, .inl (G 0, 10, .inl f3)), (a4, .inl (G 0, 6, .inl f4)), (a5, .inl (G 0, 6, .inl f5)), (a6, .inl (G 0, 6, .inl f6))]) hP hD [1, 2, 3, 4, 5, 6, 7, 8, 9, 10] [0] rfl rfl (by decide +kernel) (by decide +kernel) hk1 hFc hP1 hD1
      generalize H1 = H at hP hS ⊢
      obtain ⟨w8, w8x⟩ := w8
      refine lv_lstore_n (lv' := [(2, .long r7), (0, .ref h0), (1, .int what)]) hx hb dX10_drop_44 rfl hl (by decide) rfl (fun ls hl => ?_)
      refine lv_iconst (v := 0) hx hb dX10_drop_45 rfl ?_
      refine lv_istore (lv' := [(4, .int 0), (2, .long r7), (0, .ref h0), (1, .int what)]) hx hb dX10_drop_46 hl (by decide) rfl (fun ls hl => ?_)
      refine lv_iconst (v := 1) hx hb dX10_drop_48 rfl ?_
      refine lv_istore (lv' := [(5, .int 1), (4, .int 0), (2, .long r7), (0, .ref h0), (1, .int what)]) hx hb dX10_drop_49 hl (by decide) rfl (fun ls hl => ?_)
      have loop51_18 : ∀ (nf j12 : Nat), N + 1 ≤ j12 + nf → j12 ≤ N → 1 ≤ j12 → ∀ (y13 : Int32) (y14 : Int64) (y15 : Int64) (g16 : Nat → Int64) (g17 : Nat → Int64) (H : Heap) (locs : List Loc), va_P (dC, dI) vwCl [(h0, .inr (10, [.ref rd, .ref wy, .ref tr, .ref im, .ref kp, .ref od, .ref ch, .ref cr, .ref le, .ref mk, .ref tl, .ref sh, .int tf, .int rf])), (od, .inr (4, [.long y15, .ref sa, .ref aa])), (sa, .inl (G 1, 10, .inr (.inl g16))), (aa, .inl (G 1, 10, .inr (.inl g17))), (wy, .inr (9, [.int (nI N), .int (nI B), .int (nI D), .ref a1, .ref a2, .ref a3, .ref a4, .ref a5, .ref a6])), (a1, .inl (G 0, 10, .inl f1)), (a2, .inl (G 0, 10, .inl f2)), (a3, .inl (G 0, 10, .inl f3)), (a4, .inl (G 0, 6, .inl f4)), (a5, .inl (G 0, 6, .inl f5)), (a6, .inl (G 0, 6, .inl f6))] H → va_D A [(h0, .inr (10, [.ref rd, .ref wy, .ref tr, .ref im, .ref kp, .ref od, .ref ch, .ref cr, .ref le, .ref mk, .ref tl, .ref sh, .int tf, .int rf])), (od, .inr (4, [.long y15, .ref sa, .ref aa])), (sa, .inl (G 1, 10, .inr (.inl g16))), (aa, .inl (G 1, 10, .inr (.inl g17))), (wy, .inr (9, [.int (nI N), .int (nI B), .int (nI D), .ref a1, .ref a2, .ref a3, .ref a4, .ref a5, .ref a6])), (a1, .inl (G 0, 10, .inl f1)), (a2, .inl (G 0, 10, .inl f2)), (a3, .inl (G 0, 10, .inl f3)), (a4, .inl (G 0, 6, .inl f4)), (a5, .inl (G 0, 6, .inl f5)), (a6, .inl (G 0, 6, .inl f6))] → va_S A s.heap H locs → ∀ (ls : Array Slot), lv_has ls 8 [(5, .int (nI j12)), (4, .int y13), (2, .long y14), (0, .ref h0), (1, .int what)] → W p l e (headSpec (Cond.code yX10_drop cX10_drop 8 (some .long) :: GT) ({ frames := 5, cells := 0, slots := 0, locals := 112 } : Room)).room s m ([.ref h0, .int what] : List Value).toArray below meth c H locs 0 0 (MQ below (va_Ql (fun (r : Int64) (u : Int64 × (Nat → Int64) × (Nat → Int64)) => match u with | (u0, u1, u2) => (True) ∧ True) (fun (u : Int64 × (Nat → Int64) × (Nat → Int64)) (t : State) => match u with | (u0, u1, u2) => va_P (dC, dI) vwCl [(h0, .inr (10, [.ref rd, .ref wy, .ref tr, .ref im, .ref kp, .ref od, .ref ch, .ref cr, .ref le, .ref mk, .ref tl, .ref sh, .int tf, .int rf])), (od, .inr (4, [.long u0, .ref sa, .ref aa])), (sa, .inl (G 1, 10, .inr (.inl u1))), (aa, .inl (G 1, 10, .inr (.inl u2))), (wy, .inr (9, [.int (nI N), .int (nI B), .int (nI D), .ref a1, .ref a2, .ref a3, .ref a4, .ref a5, .ref a6])), (a1, .inl (G 0, 10, .inl f1)), (a2, .inl (G 0, 10, .inl f2)), (a3, .inl (G 0, 10, .inl f3)), (a4, .inl (G 0, 6, .inl f4)), (a5, .inl (G 0, 6, .inl f5)), (a6, .inl (G 0, 6, .inl f6))] t.heap ∧ va_D A [(h0, .inr (10, [.ref rd, .ref wy, .ref tr, .ref im, .ref kp, .ref od, .ref ch, .ref cr, .ref le, .ref mk, .ref tl, .ref sh, .int tf, .int rf])), (od, .inr (4, [.long u0, .ref sa, .ref aa])), (sa, .inl (G 1, 10, .inr (.inl u1))), (aa, .inl (G 1, 10, .inr (.inl u2))), (wy, .inr (9, [.int (nI N), .int (nI B), .int (nI D), .ref a1, .ref a2, .ref a3, .ref a4, .ref a5, .ref a6])), (a1, .inl (G 0, 10, .inl f1)), (a2, .inl (G 0, 10, .inl f2)), (a3, .inl (G 0, 10, .inl f3)), (a4, .inl (G 0, 6, .inl f4)), (a5, .inl (G 0, 6, .inl f5)), (a6, .inl (G 0, 6, .inl f6))]) A) ([.ref h0, .int what] : List Value).toArray s 0 0 A) (F0 m 51 ls []) := by
        intro nf
        induction nf with
        | zero => intro j12 h1 h2; exact absurd h1 (by omega)
        | succ nf ih51_18 =>
          intro j12 hn19 hj20 hlo_j12 y13 y14 y15 g16 g17 H locs hP hD hS ls hl
          refine lv_iload hx hb dX10_drop_51 (lv_at hl 0 rfl) ?_
          refine lv_aload_n hx hb dX10_drop_53 rfl (lv_at hl 3 rfl) ?_
          refine va_get (D := (dC, dI)) (ci := 10) (v := .ref wy) (C := RX10) (T := TX10) (N := 14) hx hb hg inG10 hown hK.1 hP 0 rfl rfl 1 (Nat.le_of_ble_eq_true rfl) (hg _ wt_303) (fun _ h9 => h9) rfl dX10_drop_54 ?_
          refine va_getN (D := (dC, dI)) (ci := 9) (v := .int (nI N)) (C := RX9) (T := TX9) (N := 9) hx hb hg inG9 hown hK.1 hP 4 rfl rfl 0 (Nat.le_of_ble_eq_true rfl) (hK.nest wn_60) (fun _ h9 => h9) rfl dX10_drop_57 ?_
          refine lv_icmp_ge (tgt := 105) hx hb dX10_drop_60 rfl (fun c21 => ?_) (fun c21 => ?_)
          · skip
            have tn201_ : nIT j12 := fun _ => nI_toInt (by first | omega | (have t := leI c21; omega))
            have n22 : N ≤ j12 := by have t := leI c21; rw [show (nI (j12)).toInt = ((j12 : Nat) : Int) from tn201_ ()] at t; rw [show (nI (N)).toInt = ((N : Nat) : Int) from tn198_ ()] at t; omega
            refine lv_iload_n hx hb dX10_drop_105 rfl (lv_at hl 4 rfl) ?_
            refine lv_iconst (v := 2) hx hb dX10_drop_106 rfl ?_
            have cut128_24 : ∀ (y23 : Int64) (H : Heap) (locs : List Loc), va_P (dC, dI) vwCl [(h0, .inr (10, [.ref rd, .ref wy, .ref tr, .ref im, .ref kp, .ref od, .ref ch, .ref cr, .ref le, .ref mk, .ref tl, .ref sh, .int tf, .int rf])), (od, .inr (4, [.long y15, .ref sa, .ref aa])), (sa, .inl (G 1, 10, .inr (.inl g16))), (aa, .inl (G 1, 10, .inr (.inl g17))), (wy, .inr (9, [.int (nI N), .int (nI B), .int (nI D), .ref a1, .ref a2, .ref a3, .ref a4, .ref a5, .ref a6])), (a1, .inl (G 0, 10, .inl f1)), (a2, .inl (G 0, 10, .inl f2)), (a3, .inl (G 0, 10, .inl f3)), (a4, .inl (G 0, 6, .inl f4)), (a5, .inl (G 0, 6, .inl f5)), (a6, .inl (G 0, 6, .inl f6))] H → va_D A [(h0, .inr (10, [.ref rd, .ref wy, .ref tr, .ref im, .ref kp, .ref od, .ref ch, .ref cr, .ref le, .ref mk, .ref tl, .ref sh, .int tf, .int rf])), (od, .inr (4, [.long y15, .ref sa, .ref aa])), (sa, .inl (G 1, 10, .inr (.inl g16))), (aa, .inl (G 1, 10, .inr (.inl g17))), (wy, .inr (9, [.int (nI N), .int (nI B), .int (nI D), .ref a1, .ref a2, .ref a3, .ref a4, .ref a5, .ref a6])), (a1, .inl (G 0, 10, .inl f1)), (a2, .inl (G 0, 10, .inl f2)), (a3, .inl (G 0, 10, .inl f3)), (a4, .inl (G 0, 6, .inl f4)), (a5, .inl (G 0, 6, .inl f5)), (a6, .inl (G 0, 6, .inl f6))] → va_S A s.heap H locs → ∀ (ls : Array Slot), lv_has ls 8 [(5, .int (nI j12)), (4, .int y13), (2, .long y14), (0, .ref h0), (1, .int what)] → W p l e (headSpec (Cond.code yX10_drop cX10_drop 8 (some .long) :: GT) ({ frames := 5, cells := 0, slots := 0, locals := 112 } : Room)).room s m ([.ref h0, .int what] : List Value).toArray below meth c H locs 0 0 (MQ below (va_Ql (fun (r : Int64) (u : Int64 × (Nat → Int64) × (Nat → Int64)) => match u with | (u0, u1, u2) => (True) ∧ True) (fun (u : Int64 × (Nat → Int64) × (Nat → Int64)) (t : State) => match u with | (u0, u1, u2) => va_P (dC, dI) vwCl [(h0, .inr (10, [.ref rd, .ref wy, .ref tr, .ref im, .ref kp, .ref od, .ref ch, .ref cr, .ref le, .ref mk, .ref tl, .ref sh, .int tf, .int rf])), (od, .inr (4, [.long u0, .ref sa, .ref aa])), (sa, .inl (G 1, 10, .inr (.inl u1))), (aa, .inl (G 1, 10, .inr (.inl u2))), (wy, .inr (9, [.int (nI N), .int (nI B), .int (nI D), .ref a1, .ref a2, .ref a3, .ref a4, .ref a5, .ref a6])), (a1, .inl (G 0, 10, .inl f1)), (a2, .inl (G 0, 10, .inl f2)), (a3, .inl (G 0, 10, .inl f3)), (a4, .inl (G 0, 6, .inl f4)), (a5, .inl (G 0, 6, .inl f5)), (a6, .inl (G 0, 6, .inl f6))] t.heap ∧ va_D A [(h0, .inr (10, [.ref rd, .ref wy, .ref tr, .ref im, .ref kp, .ref od, .ref ch, .ref cr, .ref le, .ref mk, .ref tl, .ref sh, .int tf, .int rf])), (od, .inr (4, [.long u0, .ref sa, .ref aa])), (sa, .inl (G 1, 10, .inr (.inl u1))), (aa, .inl (G 1, 10, .inr (.inl u2))), (wy, .inr (9, [.int (nI N), .int (nI B), .int (nI D), .ref a1, .ref a2, .ref a3, .ref a4, .ref a5, .ref a6])), (a1, .inl (G 0, 10, .inl f1)), (a2, .inl (G 0, 10, .inl f2)), (a3, .inl (G 0, 10, .inl f3)), (a4, .inl (G 0, 6, .inl f4)), (a5, .inl (G 0, 6, .inl f5)), (a6, .inl (G 0, 6, .inl f6))]) A) ([.ref h0, .int what] : List Value).toArray s 0 0 A) (F0 m 128 ls [.long y23]) := by
              intro y23 H locs hP hD hS ls hl
              have hpost : True := by
                trivial
              obtain ⟨hP9, hD9⟩ := va_sub2 (ws' := [(h0, .inr (10, [.ref rd, .ref wy, .ref tr, .ref im, .ref kp, .ref od, .ref ch, .ref cr, .ref le, .ref mk, .ref tl, .ref sh, .int tf, .int rf])), (od, .inr (4, [.long y15, .ref sa, .ref aa])), (sa, .inl (G 1, 10, .inr (.inl g16))), (aa, .inl (G 1, 10, .inr (.inl g17))), (wy, .inr (9, [.int (nI N), .int (nI B), .int (nI D), .ref a1, .ref a2, .ref a3, .ref a4, .ref a5, .ref a6])), (a1, .inl (G 0, 10, .inl f1)), (a2, .inl (G 0, 10, .inl f2)), (a3, .inl (G 0, 10, .inl f3)), (a4, .inl (G 0, 6, .inl f4)), (a5, .inl (G 0, 6, .inl f5)), (a6, .inl (G 0, 6, .inl f6))]) hP hD [0, 1, 2, 3, 4, 5, 6, 7, 8, 9, 10] (by decide +kernel) rfl
              refine W.widen (k := 0) (n := 0) (Nat.le_of_ble_eq_true rfl) (Nat.le_of_ble_eq_true rfl) ?_
              exact W.lret (v := y23) hx hb hr (fun t ht hW => ⟨⟨y23, (y15, g16, g17), rfl, ⟨hpost, trivial⟩, ⟨by rw [ht]; exact hP9, hD9⟩⟩, hS.F ht⟩) hS.2.2 dX10_drop_128
            refine lv_icmp_ne (tgt := 116) hx hb dX10_drop_107 rfl (fun c25 => ?_) (fun c25 => ?_)
            · skip
              refine lv_lload_n hx hb dX10_drop_116 rfl (lv_at hl 2 rfl) ?_
              refine lv_aload_n hx hb dX10_drop_117 rfl (lv_at hl 3 rfl) ?_
              refine va_get (D := (dC, dI)) (ci := 10) (v := .ref od) (C := RX10) (T := TX10) (N := 14) hx hb hg inG10 hown hK.1 hP 0 rfl rfl 5 (Nat.le_of_ble_eq_true rfl) (hg _ wt_307) (fun _ h9 => h9) rfl dX10_drop_118 ?_
              refine va_getN (D := (dC, dI)) (ci := 4) (v := .long y15) (C := RX4) (T := TX4) (N := 3) hx hb hg inG4 hown hK.1 hP 1 rfl rfl 0 (Nat.le_of_ble_eq_true rfl) (hK.nest wn_157) (fun _ h9 => h9) rfl dX10_drop_121 ?_
              refine lv_iload_n hx hb dX10_drop_124 rfl (lv_at hl 4 rfl) ?_
              have hPc := hP.sub (ws' := []) [] rfl
              refine va_calll (va_runS (As := [.long y14, .long y15, .int what]) (rest := []) ⟨hx, hb, hml, hown, hg⟩ (c_X10_fraction l dC dI G _ what y14 y15) (kwS hg mfX10_fraction wt_635 ⟨Nat.le_of_ble_eq_true rfl, Nat.le_of_ble_eq_true rfl⟩) (preSR hK hPc) rfl rfl hl.1 rfl (lv_room (Nat.le_of_ble_eq_true rfl)) dX10_drop_125 ⟨Nat.le_of_ble_eq_true rfl, Nat.le_of_ble_eq_true rfl⟩) hS (fun q h1 h2 => absurd h2 (Nat.not_le.mpr h1)) (fun q h => hA q (Nat.le_trans hS.1 h)) (fun r26 ur26 t H1 locs ht hvm w27 hB hz1 hk1 hS => ?_)
              have hP := keepR hP hk1
              obtain ⟨w27, w27x⟩ := w27
              exact cut128_24 r26 _ _ hP hD hS ls (lv_sub hl [0, 1, 2, 3, 4] rfl)
            · skip
              refine lv_iload hx hb dX10_drop_110 (lv_at hl 1 rfl) ?_
              refine lv_i2l (v := y13.toInt64) hx hb dX10_drop_112 rfl ?_
              refine lv_goto (tgt := 128) hx hb dX10_drop_113 rfl ?_
              exact cut128_24 y13.toInt64 _ _ hP hD hS ls (lv_sub hl [0, 1, 2, 3, 4] rfl)
          · skip
            have tn202_ : nIT j12 := fun _ => nI_toInt (by first | omega | (have t := nleI c21; omega))
            have n28 : j12 < N := by have t := nleI c21; rw [show (nI (j12)).toInt = ((j12 : Nat) : Int) from tn202_ ()] at t; rw [show (nI (N)).toInt = ((N : Nat) : Int) from tn198_ ()] at t; omega
            refine lv_aload_n hx hb dX10_drop_63 rfl (lv_at hl 3 rfl) ?_
            refine va_get (D := (dC, dI)) (ci := 10) (v := .ref od) (C := RX10) (T := TX10) (N := 14) hx hb hg inG10 hown hK.1 hP 0 rfl rfl 5 (Nat.le_of_ble_eq_true rfl) (hg _ wt_307) (fun _ h9 => h9) rfl dX10_drop_64 ?_
            refine lv_aload_n hx hb dX10_drop_67 rfl (lv_at hl 3 rfl) ?_
            refine va_get (D := (dC, dI)) (ci := 10) (v := .ref wy) (C := RX10) (T := TX10) (N := 14) hx hb hg inG10 hown hK.1 hP 0 rfl rfl 1 (Nat.le_of_ble_eq_true rfl) (hg _ wt_303) (fun _ h9 => h9) rfl dX10_drop_68 ?_
            refine lv_aload_n hx hb dX10_drop_71 rfl (lv_at hl 3 rfl) ?_
            refine va_get (D := (dC, dI)) (ci := 10) (v := .ref wy) (C := RX10) (T := TX10) (N := 14) hx hb hg inG10 hown hK.1 hP 0 rfl rfl 1 (Nat.le_of_ble_eq_true rfl) (hg _ wt_303) (fun _ h9 => h9) rfl dX10_drop_72 ?_
            refine va_getN (D := (dC, dI)) (ci := 9) (v := .int (nI N)) (C := RX9) (T := TX9) (N := 9) hx hb hg inG9 hown hK.1 hP 4 rfl rfl 0 (Nat.le_of_ble_eq_true rfl) (hK.nest wn_60) (fun _ h9 => h9) rfl dX10_drop_75 ?_
            refine lv_iload hx hb dX10_drop_78 (lv_at hl 0 rfl) ?_
            obtain ⟨hPc, hDc, hFc⟩ := va_sub3 (ws' := [(od, .inr (4, [.long y15, .ref sa, .ref aa])), (sa, .inl (G 1, 10, .inr (.inl g16))), (aa, .inl (G 1, 10, .inr (.inl g17))), (wy, .inr (9, [.int (nI N), .int (nI B), .int (nI D), .ref a1, .ref a2, .ref a3, .ref a4, .ref a5, .ref a6])), (a1, .inl (G 0, 10, .inl f1)), (a2, .inl (G 0, 10, .inl f2)), (a3, .inl (G 0, 10, .inl f3)), (a4, .inl (G 0, 6, .inl f4)), (a5, .inl (G 0, 6, .inl f5)), (a6, .inl (G 0, 6, .inl f6))]) hP hD hS hA [1, 2, 3, 4, 5, 6, 7, 8, 9, 10] (by decide +kernel) rfl
            refine va_calll (va_runVN (As := [.ref wy, .int (nI N), .int (nI j12)]) (rest := []) ⟨hx, hb, hml, hown, hg⟩ (c_X4_waking l dC dI G _ od sa aa wy a1 a2 a3 a4 a5 a6 N B D N (nI j12) y15 f1 f2 f3 f4 f5 f6 g16 g17 hN_N hB_B hD_D hN_N) (kwVN hg hK mfX4_waking wn_608 ⟨Nat.le_of_ble_eq_true rfl, Nat.le_of_ble_eq_true rfl⟩) (preVW hK hPc hDc (ci := 4) (r := (RX4, TX4, 3)) rfl rfl) rfl rfl hl.1 rfl (lv_room (Nat.le_of_ble_eq_true rfl)) dX10_drop_80 ⟨Nat.le_of_ble_eq_true rfl, Nat.le_of_ble_eq_true rfl⟩) hS (fun q _ h => hFc q h) hFc (fun r29 ur29 t H1 locs ht hvm w30 hB hz1 hk1 hS => ?_)
            obtain ⟨u31, u32, u33⟩ := ur29
            obtain ⟨hP1, hD1⟩ := hB
            rw [ht] at hP1
            obtain ⟨hP, hD⟩ := va_join (wr := [(h0, .inr (10, [.ref rd, .ref wy, .ref tr, .ref im, .ref kp, .ref od, .ref ch, .ref cr, .ref le, .ref mk, .ref tl, .ref sh, .int tf, .int rf]))]) (w1 := [(od, .inr (4, [.long u31, .ref sa, .ref aa])), (sa, .inl (G 1, 10, .inr (.inl u32))), (aa, .inl (G 1, 10, .inr (.inl u33))), (wy, .inr (9, [.int (nI N), .int (nI B), .int (nI D), .ref a1, .ref a2, .ref a3, .ref a4, .ref a5, .ref a6])), (a1, .inl (G 0, 10, .inl f1)), (a2, .inl (G 0, 10, .inl f2)), (a3, .inl (G 0, 10, .inl f3)), (a4, .inl (G 0, 6, .inl f4)), (a5, .inl (G 0, 6, .inl f5)), (a6, .inl (G 0, 6, .inl f6))]) hP hD [1, 2, 3, 4, 5, 6, 7, 8, 9, 10] [0] rfl rfl (by decide +kernel) (by decide +kernel) hk1 hFc hP1 hD1
            generalize H1 = H at hP hS ⊢
            obtain ⟨w30, w30x⟩ := w30
            refine lv_lstore (lv' := [(6, .long r29), (5, .int (nI j12)), (4, .int y13), (2, .long y14), (0, .ref h0), (1, .int what)]) hx hb dX10_drop_83 hl (by decide) rfl (fun ls hl => ?_)
            refine lv_lload hx hb dX10_drop_85 (lv_at hl 0 rfl) ?_
            refine lv_lload_n hx hb dX10_drop_87 rfl (lv_at hl 3 rfl) ?_
            refine W.lcmp hx hb dX10_drop_88 ?_
            have cut99_36 : ∀ (y34 : Int32) (y35 : Int64) (H : Heap) (locs : List Loc), va_P (dC, dI) vwCl [(h0, .inr (10, [.ref rd, .ref wy, .ref tr, .ref im, .ref kp, .ref od, .ref ch, .ref cr, .ref le, .ref mk, .ref tl, .ref sh, .int tf, .int rf])), (od, .inr (4, [.long u31, .ref sa, .ref aa])), (sa, .inl (G 1, 10, .inr (.inl u32))), (aa, .inl (G 1, 10, .inr (.inl u33))), (wy, .inr (9, [.int (nI N), .int (nI B), .int (nI D), .ref a1, .ref a2, .ref a3, .ref a4, .ref a5, .ref a6])), (a1, .inl (G 0, 10, .inl f1)), (a2, .inl (G 0, 10, .inl f2)), (a3, .inl (G 0, 10, .inl f3)), (a4, .inl (G 0, 6, .inl f4)), (a5, .inl (G 0, 6, .inl f5)), (a6, .inl (G 0, 6, .inl f6))] H → va_D A [(h0, .inr (10, [.ref rd, .ref wy, .ref tr, .ref im, .ref kp, .ref od, .ref ch, .ref cr, .ref le, .ref mk, .ref tl, .ref sh, .int tf, .int rf])), (od, .inr (4, [.long u31, .ref sa, .ref aa])), (sa, .inl (G 1, 10, .inr (.inl u32))), (aa, .inl (G 1, 10, .inr (.inl u33))), (wy, .inr (9, [.int (nI N), .int (nI B), .int (nI D), .ref a1, .ref a2, .ref a3, .ref a4, .ref a5, .ref a6])), (a1, .inl (G 0, 10, .inl f1)), (a2, .inl (G 0, 10, .inl f2)), (a3, .inl (G 0, 10, .inl f3)), (a4, .inl (G 0, 6, .inl f4)), (a5, .inl (G 0, 6, .inl f5)), (a6, .inl (G 0, 6, .inl f6))] → va_S A s.heap H locs → ∀ (ls : Array Slot), lv_has ls 8 [(6, .long r29), (5, .int (nI j12)), (4, .int y34), (2, .long y35), (0, .ref h0), (1, .int what)] → W p l e (headSpec (Cond.code yX10_drop cX10_drop 8 (some .long) :: GT) ({ frames := 5, cells := 0, slots := 0, locals := 112 } : Room)).room s m ([.ref h0, .int what] : List Value).toArray below meth c H locs 0 0 (MQ below (va_Ql (fun (r : Int64) (u : Int64 × (Nat → Int64) × (Nat → Int64)) => match u with | (u0, u1, u2) => (True) ∧ True) (fun (u : Int64 × (Nat → Int64) × (Nat → Int64)) (t : State) => match u with | (u0, u1, u2) => va_P (dC, dI) vwCl [(h0, .inr (10, [.ref rd, .ref wy, .ref tr, .ref im, .ref kp, .ref od, .ref ch, .ref cr, .ref le, .ref mk, .ref tl, .ref sh, .int tf, .int rf])), (od, .inr (4, [.long u0, .ref sa, .ref aa])), (sa, .inl (G 1, 10, .inr (.inl u1))), (aa, .inl (G 1, 10, .inr (.inl u2))), (wy, .inr (9, [.int (nI N), .int (nI B), .int (nI D), .ref a1, .ref a2, .ref a3, .ref a4, .ref a5, .ref a6])), (a1, .inl (G 0, 10, .inl f1)), (a2, .inl (G 0, 10, .inl f2)), (a3, .inl (G 0, 10, .inl f3)), (a4, .inl (G 0, 6, .inl f4)), (a5, .inl (G 0, 6, .inl f5)), (a6, .inl (G 0, 6, .inl f6))] t.heap ∧ va_D A [(h0, .inr (10, [.ref rd, .ref wy, .ref tr, .ref im, .ref kp, .ref od, .ref ch, .ref cr, .ref le, .ref mk, .ref tl, .ref sh, .int tf, .int rf])), (od, .inr (4, [.long u0, .ref sa, .ref aa])), (sa, .inl (G 1, 10, .inr (.inl u1))), (aa, .inl (G 1, 10, .inr (.inl u2))), (wy, .inr (9, [.int (nI N), .int (nI B), .int (nI D), .ref a1, .ref a2, .ref a3, .ref a4, .ref a5, .ref a6])), (a1, .inl (G 0, 10, .inl f1)), (a2, .inl (G 0, 10, .inl f2)), (a3, .inl (G 0, 10, .inl f3)), (a4, .inl (G 0, 6, .inl f4)), (a5, .inl (G 0, 6, .inl f5)), (a6, .inl (G 0, 6, .inl f6))]) A) ([.ref h0, .int what] : List Value).toArray s 0 0 A) (F0 m 99 ls []) := by
              intro y34 y35 H locs hP hD hS ls hl
              refine lv_iinc (v := nI (j12 + 1)) (lv' := [(5, .int (nI (j12 + 1))), (6, .long r29), (4, .int y34), (2, .long y35), (0, .ref h0), (1, .int what)]) hx hb dX10_drop_99 hl (k := 1) rfl (by rw [show Int32.ofInt 1 = nI 1 from by decide]; exact nI_add _ _) (by decide) rfl (fun ls hl => ?_)
              refine lv_goto (tgt := 51) hx hb dX10_drop_102 rfl ?_
              exact ih51_18 (j12 + 1) (by omega) (by omega) (by omega) y34 y35 u31 u32 u33 _ _ hP hD hS ls (lv_sub hl [0, 2, 3, 4, 5] rfl)
            refine lv_if_ge (tgt := 99) hx hb dX10_drop_89 rfl (fun c37 => ?_) (fun c37 => ?_)
            · skip
              exact cut99_36 y13 y14 _ _ hP hD hS ls (lv_sub hl [0, 1, 2, 3, 4, 5] rfl)
            · skip
              refine lv_lload hx hb dX10_drop_92 (lv_at hl 0 rfl) ?_
              refine lv_lstore_n (lv' := [(2, .long r29), (6, .long r29), (5, .int (nI j12)), (4, .int y13), (0, .ref h0), (1, .int what)]) hx hb dX10_drop_94 rfl hl (by decide) rfl (fun ls hl => ?_)
              refine lv_iload hx hb dX10_drop_95 (lv_at hl 2 rfl) ?_
              refine lv_istore (lv' := [(4, .int (nI j12)), (2, .long r29), (6, .long r29), (5, .int (nI j12)), (0, .ref h0), (1, .int what)]) hx hb dX10_drop_97 hl (by decide) rfl (fun ls hl => ?_)
              exact cut99_36 (nI j12) r29 _ _ hP hD hS ls (lv_sub hl [2, 3, 0, 1, 4, 5] rfl)
      exact loop51_18 (N + 1) 1 (by omega) (by omega) (by omega) 0 r7 u9 u10 u11 _ _ hP hD hS ls (lv_sub hl [0, 1, 2, 3, 4] rfl)
    · skip
      have n38 : N = 0 := by have t := eqI c5; rw [show (nI (N)).toInt = ((N : Nat) : Int) from tn198_ ()] at t; have : (0 : Int32).toInt = 0 := qI_0; omega
      refine lv_ldc2 (v := (-2)) hx hb hown (hg _ wt_689) dX10_drop_21 ?_
      have hpost : True := by
        trivial
      obtain ⟨hP9, hD9⟩ := va_sub2 (ws' := [(h0, .inr (10, [.ref rd, .ref wy, .ref tr, .ref im, .ref kp, .ref od, .ref ch, .ref cr, .ref le, .ref mk, .ref tl, .ref sh, .int tf, .int rf])), (od, .inr (4, [.long w0, .ref sa, .ref aa])), (sa, .inl (G 1, 10, .inr (.inl f))), (aa, .inl (G 1, 10, .inr (.inl g))), (wy, .inr (9, [.int (nI N), .int (nI B), .int (nI D), .ref a1, .ref a2, .ref a3, .ref a4, .ref a5, .ref a6])), (a1, .inl (G 0, 10, .inl f1)), (a2, .inl (G 0, 10, .inl f2)), (a3, .inl (G 0, 10, .inl f3)), (a4, .inl (G 0, 6, .inl f4)), (a5, .inl (G 0, 6, .inl f5)), (a6, .inl (G 0, 6, .inl f6))]) hP hD [0, 1, 2, 3, 4, 5, 6, 7, 8, 9, 10] (by decide +kernel) rfl
      refine W.widen (k := 0) (n := 0) (Nat.le_of_ble_eq_true rfl) (Nat.le_of_ble_eq_true rfl) ?_
      exact W.lret (v := (-2)) hx hb hr (fun t ht hW => ⟨⟨(-2), (w0, f, g), rfl, ⟨hpost, trivial⟩, ⟨by rw [ht]; exact hP9, hD9⟩⟩, hS.F ht⟩) hS.2.2 dX10_drop_24
  · skip
    have b39 := if10_n c3
    refine lv_ldc2 (v := (-1)) hx hb hown (hg _ wt_607) dX10_drop_7 ?_
    have hpost : True := by
      trivial
    obtain ⟨hP9, hD9⟩ := va_sub2 (ws' := [(h0, .inr (10, [.ref rd, .ref wy, .ref tr, .ref im, .ref kp, .ref od, .ref ch, .ref cr, .ref le, .ref mk, .ref tl, .ref sh, .int tf, .int rf])), (od, .inr (4, [.long w0, .ref sa, .ref aa])), (sa, .inl (G 1, 10, .inr (.inl f))), (aa, .inl (G 1, 10, .inr (.inl g))), (wy, .inr (9, [.int (nI N), .int (nI B), .int (nI D), .ref a1, .ref a2, .ref a3, .ref a4, .ref a5, .ref a6])), (a1, .inl (G 0, 10, .inl f1)), (a2, .inl (G 0, 10, .inl f2)), (a3, .inl (G 0, 10, .inl f3)), (a4, .inl (G 0, 6, .inl f4)), (a5, .inl (G 0, 6, .inl f5)), (a6, .inl (G 0, 6, .inl f6))]) hP hD [0, 1, 2, 3, 4, 5, 6, 7, 8, 9, 10] (by decide +kernel) rfl
    refine W.widen (k := 0) (n := 0) (Nat.le_of_ble_eq_true rfl) (Nat.le_of_ble_eq_true rfl) ?_
    exact W.lret (v := (-1)) hx hb hr (fun t ht hW => ⟨⟨(-1), (w0, f, g), rfl, ⟨hpost, trivial⟩, ⟨by rw [ht]; exact hP9, hD9⟩⟩, hS.F ht⟩) hS.2.2 dX10_drop_10

set_option maxHeartbeats 1000000 in
set_option maxRecDepth 100000 in
theorem c_X10_carry (l : Launch) (dC : Nat → ClassId) (dI : Nat → Nat → Nat) (G : Nat → ClassId) (sz : Nat) (h0 rd wy tr im kp od ch cr le mk tl sh a1 a2 a3 a4 a5 a6 N B D : Nat) (tf rf sd what x1 x2 x3 : Int32) (f1 f2 f3 f4 f5 f6 : Nat → Int32) (hN_N : N ≤ 10) (hB_B : B ≤ 6) (hD_D : 1 ≤ D ∧ D ≤ 9) : Met l yX10_carry (Cond.code yX10_carry cX10_carry 3 (some .int) :: GT) ({ frames := 5, cells := 0, slots := 0, locals := 112 } : Room) (PcW [.ref h0, .int sd, .int what] dC dI G [(h0, .inr (10, [.ref rd, .ref wy, .ref tr, .ref im, .ref kp, .ref od, .ref ch, .ref cr, .ref le, .ref mk, .ref tl, .ref sh, .int tf, .int rf])), (cr, .inr (1, [.int x1, .int x2, .int x3])), (wy, .inr (9, [.int (nI N), .int (nI B), .int (nI D), .ref a1, .ref a2, .ref a3, .ref a4, .ref a5, .ref a6])), (a1, .inl (G 0, 10, .inl f1)), (a2, .inl (G 0, 10, .inl f2)), (a3, .inl (G 0, 10, .inl f3)), (a4, .inl (G 0, 6, .inl f4)), (a5, .inl (G 0, 6, .inl f5)), (a6, .inl (G 0, 6, .inl f6))] sz) (va_Qi (fun (r : Int32) (u : Int32 × Int32 × Int32) => match u with | (u0, u1, u2) => (True) ∧ True) (fun (u : Int32 × Int32 × Int32) (t : State) => match u with | (u0, u1, u2) => va_P (dC, dI) vwCl [(h0, .inr (10, [.ref rd, .ref wy, .ref tr, .ref im, .ref kp, .ref od, .ref ch, .ref cr, .ref le, .ref mk, .ref tl, .ref sh, .int tf, .int rf])), (cr, .inr (1, [.int u0, .int u1, .int u2])), (wy, .inr (9, [.int (nI N), .int (nI B), .int (nI D), .ref a1, .ref a2, .ref a3, .ref a4, .ref a5, .ref a6])), (a1, .inl (G 0, 10, .inl f1)), (a2, .inl (G 0, 10, .inl f2)), (a3, .inl (G 0, 10, .inl f3)), (a4, .inl (G 0, 6, .inl f4)), (a5, .inl (G 0, 6, .inl f5)), (a6, .inl (G 0, 6, .inl f6))] t.heap ∧ va_D (va_A [(h0, .inr (10, [.ref rd, .ref wy, .ref tr, .ref im, .ref kp, .ref od, .ref ch, .ref cr, .ref le, .ref mk, .ref tl, .ref sh, .int tf, .int rf])), (cr, .inr (1, [.int x1, .int x2, .int x3])), (wy, .inr (9, [.int (nI N), .int (nI B), .int (nI D), .ref a1, .ref a2, .ref a3, .ref a4, .ref a5, .ref a6])), (a1, .inl (G 0, 10, .inl f1)), (a2, .inl (G 0, 10, .inl f2)), (a3, .inl (G 0, 10, .inl f3)), (a4, .inl (G 0, 6, .inl f4)), (a5, .inl (G 0, 6, .inl f5)), (a6, .inl (G 0, 6, .inl f6))] sz) [(h0, .inr (10, [.ref rd, .ref wy, .ref tr, .ref im, .ref kp, .ref od, .ref ch, .ref cr, .ref le, .ref mk, .ref tl, .ref sh, .int tf, .int rf])), (cr, .inr (1, [.int u0, .int u1, .int u2])), (wy, .inr (9, [.int (nI N), .int (nI B), .int (nI D), .ref a1, .ref a2, .ref a3, .ref a4, .ref a5, .ref a6])), (a1, .inl (G 0, 10, .inl f1)), (a2, .inl (G 0, 10, .inl f2)), (a3, .inl (G 0, 10, .inl f3)), (a4, .inl (G 0, 6, .inl f4)), (a5, .inl (G 0, 6, .inl f5)), (a6, .inl (G 0, 6, .inl f6))]) (va_A [(h0, .inr (10, [.ref rd, .ref wy, .ref tr, .ref im, .ref kp, .ref od, .ref ch, .ref cr, .ref le, .ref mk, .ref tl, .ref sh, .int tf, .int rf])), (cr, .inr (1, [.int x1, .int x2, .int x3])), (wy, .inr (9, [.int (nI N), .int (nI B), .int (nI D), .ref a1, .ref a2, .ref a3, .ref a4, .ref a5, .ref a6])), (a1, .inl (G 0, 10, .inl f1)), (a2, .inl (G 0, 10, .inl f2)), (a3, .inl (G 0, 10, .inl f3)), (a4, .inl (G 0, 6, .inl f4)), (a5, .inl (G 0, 6, .inl f5)), (a6, .inl (G 0, 6, .inl f6))] sz)) 0 0 (va_A [(h0, .inr (10, [.ref rd, .ref wy, .ref tr, .ref im, .ref kp, .ref od, .ref ch, .ref cr, .ref le, .ref mk, .ref tl, .ref sh, .int tf, .int rf])), (cr, .inr (1, [.int x1, .int x2, .int x3])), (wy, .inr (9, [.int (nI N), .int (nI B), .int (nI D), .ref a1, .ref a2, .ref a3, .ref a4, .ref a5, .ref a6])), (a1, .inl (G 0, 10, .inl f1)), (a2, .inl (G 0, 10, .inl f2)), (a3, .inl (G 0, 10, .inl f3)), (a4, .inl (G 0, 6, .inl f4)), (a5, .inl (G 0, 6, .inl f5)), (a6, .inl (G 0, 6, .inl f6))] sz) := by
  have tn203_ : nIT N := fun _ => nI_toInt (by omega)
  have tn204_ : nIT B := fun _ => nI_toInt (by omega)
  have tn205_ : nIT D := fun _ => nI_toInt (by omega)
  refine Met.ofW (cc := cX10_carry) (maxL := 3) (ret := (some .int)) (by decide) rfl ?_
  intro p e s m args below meth c s₁ Bd hml hv
  obtain ⟨rfl, hsz, hP, hK, hD0⟩ := hv
  have hx := Bd.exec
  have hb := Bd.bytes
  have hr := Bd.returns
  have hg : ∀ w ∈ GT, w.before ([.ref h0, .int sd, .int what] : List Value).toArray s = true := fun w h => atoms_spec (ws := Cond.code yX10_carry cX10_carry 3 (some .int) :: GT) Bd.pre w (List.mem_cons_of_mem _ h)
  have hown : s.vm.findClass RX10 = some m.cls := findClass_of_methodNamed Bd.named
  have hlocks := Bd.notSynchronized
  subst hsz
  have hD := hD0.self (sz := s.heap.size)
  generalize hAe : va_A [(h0, .inr (10, [.ref rd, .ref wy, .ref tr, .ref im, .ref kp, .ref od, .ref ch, .ref cr, .ref le, .ref mk, .ref tl, .ref sh, .int tf, .int rf])), (cr, .inr (1, [.int x1, .int x2, .int x3])), (wy, .inr (9, [.int (nI N), .int (nI B), .int (nI D), .ref a1, .ref a2, .ref a3, .ref a4, .ref a5, .ref a6])), (a1, .inl (G 0, 10, .inl f1)), (a2, .inl (G 0, 10, .inl f2)), (a3, .inl (G 0, 10, .inl f3)), (a4, .inl (G 0, 6, .inl f4)), (a5, .inl (G 0, 6, .inl f5)), (a6, .inl (G 0, 6, .inl f6))] s.heap.size = A at hD ⊢
  have hA : ∀ q : Nat, s.heap.size ≤ q → A q := fun q h => by rw [← hAe]; exact Or.inr h
  have hS : va_S A s.heap s.heap [] := va_S.rf
  have hl := lv_entry ([.ref h0, .int sd, .int what]) (n := 3) (Nat.le_of_ble_eq_true rfl)
  rw [lg_entry_eq]
  generalize (lg_sl ([.ref h0, .int sd, .int what]) ++ List.replicate (3 - (lg_sl ([.ref h0, .int sd, .int what])).length) Slot.unset).toArray = ls at hl ⊢
  have hl : lv_has ls 3 [(0, .ref h0), (1, .int sd), (2, .int what)] := hl
  refine lv_iload_n hx hb dX10_carry_0 rfl (lv_at hl 2 rfl) ?_
  have hPc := hP.sub (ws' := []) [] rfl
  refine va_calli (va_runS (As := [.int what]) (rest := []) ⟨hx, hb, hml, hown, hg⟩ (c_X10_isAnswerPart l dC dI G _ what) (kwS hg mfX10_isAnswerPart wt_694 ⟨Nat.le_of_ble_eq_true rfl, Nat.le_of_ble_eq_true rfl⟩) (preSR hK hPc) rfl rfl hl.1 rfl (lv_room (Nat.le_of_ble_eq_true rfl)) dX10_carry_1 ⟨Nat.le_of_ble_eq_true rfl, Nat.le_of_ble_eq_true rfl⟩) hS (fun q h1 h2 => absurd h2 (Nat.not_le.mpr h1)) (fun q h => hA q (Nat.le_trans hS.1 h)) (fun r1 ur1 t H1 locs ht hvm w2 hB hz1 hk1 hS => ?_)
  have hP := keepR hP hk1
  obtain ⟨w2, w2x⟩ := w2
  try simp only [l_ii, show (0 : Int32).toInt = 0 from by decide, show (2 : Int32).toInt = 2 from by decide] at w2
  subst w2
  refine lv_if_ne (tgt := 9) hx hb dX10_carry_4 rfl (fun c3 => ?_) (fun c3 => ?_)
  · skip
    have b4 := if10_p c3
    refine lv_aload_n hx hb dX10_carry_9 rfl (lv_at hl 0 rfl) ?_
    refine va_get (D := (dC, dI)) (ci := 10) (v := .ref cr) (C := RX10) (T := TX10) (N := 14) hx hb hg inG10 hown hK.1 hP 0 rfl rfl 7 (Nat.le_of_ble_eq_true rfl) (hg _ wt_309) (fun _ h9 => h9) rfl dX10_carry_10 ?_
    refine lv_aload_n hx hb dX10_carry_13 rfl (lv_at hl 0 rfl) ?_
    refine va_get (D := (dC, dI)) (ci := 10) (v := .ref wy) (C := RX10) (T := TX10) (N := 14) hx hb hg inG10 hown hK.1 hP 0 rfl rfl 1 (Nat.le_of_ble_eq_true rfl) (hg _ wt_303) (fun _ h9 => h9) rfl dX10_carry_14 ?_
    refine lv_iload_n hx hb dX10_carry_17 rfl (lv_at hl 1 rfl) ?_
    obtain ⟨hPc, hDc, hFc⟩ := va_sub3 (ws' := [(cr, .inr (1, [.int x1, .int x2, .int x3])), (wy, .inr (9, [.int (nI N), .int (nI B), .int (nI D), .ref a1, .ref a2, .ref a3, .ref a4, .ref a5, .ref a6])), (a1, .inl (G 0, 10, .inl f1)), (a2, .inl (G 0, 10, .inl f2)), (a3, .inl (G 0, 10, .inl f3)), (a4, .inl (G 0, 6, .inl f4)), (a5, .inl (G 0, 6, .inl f5)), (a6, .inl (G 0, 6, .inl f6))]) hP hD hS hA [1, 2, 3, 4, 5, 6, 7, 8] (by decide +kernel) rfl
    refine va_callv (va_runVN (As := [.ref wy, .int sd]) (rest := []) ⟨hx, hb, hml, hown, hg⟩ (c_X1_cross l dC dI G _ cr wy a1 a2 a3 a4 a5 a6 N B D x1 x2 x3 sd f1 f2 f3 f4 f5 f6 hN_N hB_B hD_D) (kwVN hg hK mfX1_cross wn_723 ⟨Nat.le_of_ble_eq_true rfl, Nat.le_of_ble_eq_true rfl⟩) (preVW hK hPc hDc (ci := 1) (r := (RX1, TX1, 3)) rfl rfl) rfl rfl hl.1 rfl (lv_room (Nat.le_of_ble_eq_true rfl)) dX10_carry_18 ⟨Nat.le_of_ble_eq_true rfl, Nat.le_of_ble_eq_true rfl⟩) hS (fun q _ h => hFc q h) hFc (fun ur5 t H1 locs ht hvm w6 hB hz1 hk1 hS => ?_)
    obtain ⟨u7, u8, u9⟩ := ur5
    obtain ⟨hP1, hD1⟩ := hB
    rw [ht] at hP1
    obtain ⟨hP, hD⟩ := va_join (wr := [(h0, .inr (10, [.ref rd, .ref wy, .ref tr, .ref im, .ref kp, .ref od, .ref ch, .ref cr, .ref le, .ref mk, .ref tl, .ref sh, .int tf, .int rf]))]) (w1 := [(cr, .inr (1, [.int u7, .int u8, .int u9])), (wy, .inr (9, [.int (nI N), .int (nI B), .int (nI D), .ref a1, .ref a2, .ref a3, .ref a4, .ref a5, .ref a6])), (a1, .inl (G 0, 10, .inl f1)), (a2, .inl (G 0, 10, .inl f2)), (a3, .inl (G 0, 10, .inl f3)), (a4, .inl (G 0, 6, .inl f4)), (a5, .inl (G 0, 6, .inl f5)), (a6, .inl (G 0, 6, .inl f6))]) hP hD [1, 2, 3, 4, 5, 6, 7, 8] [0] rfl rfl (by decide +kernel) (by decide +kernel) hk1 hFc hP1 hD1
    generalize H1 = H at hP hS ⊢
    refine lv_iload_n hx hb dX10_carry_21 rfl (lv_at hl 2 rfl) ?_
    by_cases c10 : what = 0
    · skip
      refine lv_cg c10 ?_
      refine lv_lookup (tgt := 48) (off := 26) hx hb dX10_carry_22 (by decide) rfl (by decide) ?_
      refine lv_aload_n hx hb dX10_carry_48 rfl (lv_at hl 0 rfl) ?_
      refine va_get (D := (dC, dI)) (ci := 10) (v := .ref cr) (C := RX10) (T := TX10) (N := 14) hx hb hg inG10 hown hK.1 hP 0 rfl rfl 7 (Nat.le_of_ble_eq_true rfl) (hg _ wt_309) (fun _ h9 => h9) rfl dX10_carry_49 ?_
      refine va_getN (D := (dC, dI)) (ci := 1) (v := .int u7) (C := RX1) (T := TX1) (N := 3) hx hb hg inG1 hown hK.1 hP 1 rfl rfl 0 (Nat.le_of_ble_eq_true rfl) (hK.nest wn_199) (fun _ h9 => h9) rfl dX10_carry_52 ?_
      have hpost : True := by
        trivial
      obtain ⟨hP9, hD9⟩ := va_sub2 (ws' := [(h0, .inr (10, [.ref rd, .ref wy, .ref tr, .ref im, .ref kp, .ref od, .ref ch, .ref cr, .ref le, .ref mk, .ref tl, .ref sh, .int tf, .int rf])), (cr, .inr (1, [.int u7, .int u8, .int u9])), (wy, .inr (9, [.int (nI N), .int (nI B), .int (nI D), .ref a1, .ref a2, .ref a3, .ref a4, .ref a5, .ref a6])), (a1, .inl (G 0, 10, .inl f1)), (a2, .inl (G 0, 10, .inl f2)), (a3, .inl (G 0, 10, .inl f3)), (a4, .inl (G 0, 6, .inl f4)), (a5, .inl (G 0, 6, .inl f5)), (a6, .inl (G 0, 6, .inl f6))]) hP hD [0, 1, 2, 3, 4, 5, 6, 7, 8] (by decide +kernel) rfl
      refine W.widen (k := 0) (n := 0) (Nat.le_of_ble_eq_true rfl) (Nat.le_of_ble_eq_true rfl) ?_
      exact W.iret (v := u7) hx hb hr (fun t ht hW => ⟨⟨u7, (u7, u8, u9), rfl, ⟨hpost, trivial⟩, ⟨by rw [ht]; exact hP9, hD9⟩⟩, hS.F ht⟩) hS.2.2 dX10_carry_55
    · skip
      by_cases c11 : what = 1
      · skip
        refine lv_cg c11 ?_
        refine lv_lookup (tgt := 56) (off := 34) hx hb dX10_carry_22 (by decide) rfl (by decide) ?_
        refine lv_aload_n hx hb dX10_carry_56 rfl (lv_at hl 0 rfl) ?_
        refine va_get (D := (dC, dI)) (ci := 10) (v := .ref cr) (C := RX10) (T := TX10) (N := 14) hx hb hg inG10 hown hK.1 hP 0 rfl rfl 7 (Nat.le_of_ble_eq_true rfl) (hg _ wt_309) (fun _ h9 => h9) rfl dX10_carry_57 ?_
        refine va_getN (D := (dC, dI)) (ci := 1) (v := .int u8) (C := RX1) (T := TX1) (N := 3) hx hb hg inG1 hown hK.1 hP 1 rfl rfl 1 (Nat.le_of_ble_eq_true rfl) (hK.nest wn_201) (fun _ h9 => h9) rfl dX10_carry_60 ?_
        have hpost : True := by
          trivial
        obtain ⟨hP9, hD9⟩ := va_sub2 (ws' := [(h0, .inr (10, [.ref rd, .ref wy, .ref tr, .ref im, .ref kp, .ref od, .ref ch, .ref cr, .ref le, .ref mk, .ref tl, .ref sh, .int tf, .int rf])), (cr, .inr (1, [.int u7, .int u8, .int u9])), (wy, .inr (9, [.int (nI N), .int (nI B), .int (nI D), .ref a1, .ref a2, .ref a3, .ref a4, .ref a5, .ref a6])), (a1, .inl (G 0, 10, .inl f1)), (a2, .inl (G 0, 10, .inl f2)), (a3, .inl (G 0, 10, .inl f3)), (a4, .inl (G 0, 6, .inl f4)), (a5, .inl (G 0, 6, .inl f5)), (a6, .inl (G 0, 6, .inl f6))]) hP hD [0, 1, 2, 3, 4, 5, 6, 7, 8] (by decide +kernel) rfl
        refine W.widen (k := 0) (n := 0) (Nat.le_of_ble_eq_true rfl) (Nat.le_of_ble_eq_true rfl) ?_
        exact W.iret (v := u8) hx hb hr (fun t ht hW => ⟨⟨u8, (u7, u8, u9), rfl, ⟨hpost, trivial⟩, ⟨by rw [ht]; exact hP9, hD9⟩⟩, hS.F ht⟩) hS.2.2 dX10_carry_63
      · skip
        refine lv_lookup (tgt := 64) (off := 42) hx hb dX10_carry_22 (by decide) ((lv_osw c10 rfl).trans <| (lv_osw c11 rfl).trans <| rfl) (by decide) ?_
        refine lv_aload_n hx hb dX10_carry_64 rfl (lv_at hl 0 rfl) ?_
        refine va_get (D := (dC, dI)) (ci := 10) (v := .ref cr) (C := RX10) (T := TX10) (N := 14) hx hb hg inG10 hown hK.1 hP 0 rfl rfl 7 (Nat.le_of_ble_eq_true rfl) (hg _ wt_309) (fun _ h9 => h9) rfl dX10_carry_65 ?_
        refine va_getN (D := (dC, dI)) (ci := 1) (v := .int u9) (C := RX1) (T := TX1) (N := 3) hx hb hg inG1 hown hK.1 hP 1 rfl rfl 2 (Nat.le_of_ble_eq_true rfl) (hK.nest wn_203) (fun _ h9 => h9) rfl dX10_carry_68 ?_
        have hpost : True := by
          trivial
        obtain ⟨hP9, hD9⟩ := va_sub2 (ws' := [(h0, .inr (10, [.ref rd, .ref wy, .ref tr, .ref im, .ref kp, .ref od, .ref ch, .ref cr, .ref le, .ref mk, .ref tl, .ref sh, .int tf, .int rf])), (cr, .inr (1, [.int u7, .int u8, .int u9])), (wy, .inr (9, [.int (nI N), .int (nI B), .int (nI D), .ref a1, .ref a2, .ref a3, .ref a4, .ref a5, .ref a6])), (a1, .inl (G 0, 10, .inl f1)), (a2, .inl (G 0, 10, .inl f2)), (a3, .inl (G 0, 10, .inl f3)), (a4, .inl (G 0, 6, .inl f4)), (a5, .inl (G 0, 6, .inl f5)), (a6, .inl (G 0, 6, .inl f6))]) hP hD [0, 1, 2, 3, 4, 5, 6, 7, 8] (by decide +kernel) rfl
        refine W.widen (k := 0) (n := 0) (Nat.le_of_ble_eq_true rfl) (Nat.le_of_ble_eq_true rfl) ?_
        exact W.iret (v := u9) hx hb hr (fun t ht hW => ⟨⟨u9, (u7, u8, u9), rfl, ⟨hpost, trivial⟩, ⟨by rw [ht]; exact hP9, hD9⟩⟩, hS.F ht⟩) hS.2.2 dX10_carry_71
  · skip
    have b12 := if10_n c3
    refine lv_iconst (v := (-1)) hx hb dX10_carry_7 rfl ?_
    have hpost : True := by
      trivial
    obtain ⟨hP9, hD9⟩ := va_sub2 (ws' := [(h0, .inr (10, [.ref rd, .ref wy, .ref tr, .ref im, .ref kp, .ref od, .ref ch, .ref cr, .ref le, .ref mk, .ref tl, .ref sh, .int tf, .int rf])), (cr, .inr (1, [.int x1, .int x2, .int x3])), (wy, .inr (9, [.int (nI N), .int (nI B), .int (nI D), .ref a1, .ref a2, .ref a3, .ref a4, .ref a5, .ref a6])), (a1, .inl (G 0, 10, .inl f1)), (a2, .inl (G 0, 10, .inl f2)), (a3, .inl (G 0, 10, .inl f3)), (a4, .inl (G 0, 6, .inl f4)), (a5, .inl (G 0, 6, .inl f5)), (a6, .inl (G 0, 6, .inl f6))]) hP hD [0, 1, 2, 3, 4, 5, 6, 7, 8] (by decide +kernel) rfl
    refine W.widen (k := 0) (n := 0) (Nat.le_of_ble_eq_true rfl) (Nat.le_of_ble_eq_true rfl) ?_
    exact W.iret (v := (-1)) hx hb hr (fun t ht hW => ⟨⟨(-1), (x1, x2, x3), rfl, ⟨hpost, trivial⟩, ⟨by rw [ht]; exact hP9, hD9⟩⟩, hS.F ht⟩) hS.2.2 dX10_carry_8

set_option maxHeartbeats 1000000 in
set_option maxRecDepth 100000 in
theorem c_X10_paths (l : Launch) (dC : Nat → ClassId) (dI : Nat → Nat → Nat) (G : Nat → ClassId) (sz : Nat) (h0 rd wy tr im kp od ch cr le mk tl sh ti to a1 a2 a3 a4 a5 a6 N B D m1 m2 S : Nat) (tf rf tt : Int32) (f1 f2 f3 f4 f5 f6 z1 z2 : Nat → Int32) (ri ro : Nat → Nat) (F E : Nat → Nat → Int32) (hN_N : N ≤ 10) (hB_B : B ≤ 6) (hD_D : 1 ≤ D ∧ D ≤ 9) (hS0 : S ≤ 6) : Met l yX10_paths (Cond.code yX10_paths cX10_paths 1 (some .int) :: GT) ({ frames := 5, cells := 0, slots := 0, locals := 111 } : Room) (PcW [.ref h0] dC dI G (([(h0, .inr (10, [.ref rd, .ref wy, .ref tr, .ref im, .ref kp, .ref od, .ref ch, .ref cr, .ref le, .ref mk, .ref tl, .ref sh, .int tf, .int rf])), (tl, .inr (8, [.int tt, .ref ti, .ref to])), (ti, .inl (G 4, 11, .inr (.inr (.inr (.inr (fun ir => if ir < 11 then some (ri ir) else none)))))), (to, .inl (G 4, 11, .inr (.inr (.inr (.inr (fun ir => if ir < 11 then some (ro ir) else none)))))), (wy, .inr (9, [.int (nI N), .int (nI B), .int (nI D), .ref a1, .ref a2, .ref a3, .ref a4, .ref a5, .ref a6])), (a1, .inl (G 0, 10, .inl f1)), (a2, .inl (G 0, 10, .inl f2)), (a3, .inl (G 0, 10, .inl f3)), (a4, .inl (G 0, 6, .inl f4)), (a5, .inl (G 0, 6, .inl f5)), (a6, .inl (G 0, 6, .inl f6)), (mk, .inr (3, [.int (nI S), .ref m1, .ref m2])), (m1, .inl (G 0, 6, .inl z1)), (m2, .inl (G 0, 6, .inl z2))] : va_W) ++ ((((List.range 11).map (fun iq => (ri iq, .inl (G 0, 10, .inl (F iq))))) : va_W) ++ ((((List.range 11).map (fun iq => (ro iq, .inl (G 0, 10, .inl (E iq))))) : va_W) ++ []))) sz) (va_Qi (fun (r : Int32) (u : Int32 × (Nat → Nat → Int32) × (Nat → Nat → Int32)) => match u with | (u0, u1, u2) => (True) ∧ True) (fun (u : Int32 × (Nat → Nat → Int32) × (Nat → Nat → Int32)) (t : State) => match u with | (u0, u1, u2) => va_P (dC, dI) vwCl (([(h0, .inr (10, [.ref rd, .ref wy, .ref tr, .ref im, .ref kp, .ref od, .ref ch, .ref cr, .ref le, .ref mk, .ref tl, .ref sh, .int tf, .int rf])), (tl, .inr (8, [.int u0, .ref ti, .ref to])), (ti, .inl (G 4, 11, .inr (.inr (.inr (.inr (fun ir => if ir < 11 then some (ri ir) else none)))))), (to, .inl (G 4, 11, .inr (.inr (.inr (.inr (fun ir => if ir < 11 then some (ro ir) else none)))))), (wy, .inr (9, [.int (nI N), .int (nI B), .int (nI D), .ref a1, .ref a2, .ref a3, .ref a4, .ref a5, .ref a6])), (a1, .inl (G 0, 10, .inl f1)), (a2, .inl (G 0, 10, .inl f2)), (a3, .inl (G 0, 10, .inl f3)), (a4, .inl (G 0, 6, .inl f4)), (a5, .inl (G 0, 6, .inl f5)), (a6, .inl (G 0, 6, .inl f6)), (mk, .inr (3, [.int (nI S), .ref m1, .ref m2])), (m1, .inl (G 0, 6, .inl z1)), (m2, .inl (G 0, 6, .inl z2))] : va_W) ++ ((((List.range 11).map (fun iq => (ri iq, .inl (G 0, 10, .inl (u1 iq))))) : va_W) ++ ((((List.range 11).map (fun iq => (ro iq, .inl (G 0, 10, .inl (u2 iq))))) : va_W) ++ []))) t.heap ∧ va_D (va_A (([(h0, .inr (10, [.ref rd, .ref wy, .ref tr, .ref im, .ref kp, .ref od, .ref ch, .ref cr, .ref le, .ref mk, .ref tl, .ref sh, .int tf, .int rf])), (tl, .inr (8, [.int tt, .ref ti, .ref to])), (ti, .inl (G 4, 11, .inr (.inr (.inr (.inr (fun ir => if ir < 11 then some (ri ir) else none)))))), (to, .inl (G 4, 11, .inr (.inr (.inr (.inr (fun ir => if ir < 11 then some (ro ir) else none)))))), (wy, .inr (9, [.int (nI N), .int (nI B), .int (nI D), .ref a1, .ref a2, .ref a3, .ref a4, .ref a5, .ref a6])), (a1, .inl (G 0, 10, .inl f1)), (a2, .inl (G 0, 10, .inl f2)), (a3, .inl (G 0, 10, .inl f3)), (a4, .inl (G 0, 6, .inl f4)), (a5, .inl (G 0, 6, .inl f5)), (a6, .inl (G 0, 6, .inl f6)), (mk, .inr (3, [.int (nI S), .ref m1, .ref m2])), (m1, .inl (G 0, 6, .inl z1)), (m2, .inl (G 0, 6, .inl z2))] : va_W) ++ ((((List.range 11).map (fun iq => (ri iq, .inl (G 0, 10, .inl (F iq))))) : va_W) ++ ((((List.range 11).map (fun iq => (ro iq, .inl (G 0, 10, .inl (E iq))))) : va_W) ++ []))) sz) (([(h0, .inr (10, [.ref rd, .ref wy, .ref tr, .ref im, .ref kp, .ref od, .ref ch, .ref cr, .ref le, .ref mk, .ref tl, .ref sh, .int tf, .int rf])), (tl, .inr (8, [.int u0, .ref ti, .ref to])), (ti, .inl (G 4, 11, .inr (.inr (.inr (.inr (fun ir => if ir < 11 then some (ri ir) else none)))))), (to, .inl (G 4, 11, .inr (.inr (.inr (.inr (fun ir => if ir < 11 then some (ro ir) else none)))))), (wy, .inr (9, [.int (nI N), .int (nI B), .int (nI D), .ref a1, .ref a2, .ref a3, .ref a4, .ref a5, .ref a6])), (a1, .inl (G 0, 10, .inl f1)), (a2, .inl (G 0, 10, .inl f2)), (a3, .inl (G 0, 10, .inl f3)), (a4, .inl (G 0, 6, .inl f4)), (a5, .inl (G 0, 6, .inl f5)), (a6, .inl (G 0, 6, .inl f6)), (mk, .inr (3, [.int (nI S), .ref m1, .ref m2])), (m1, .inl (G 0, 6, .inl z1)), (m2, .inl (G 0, 6, .inl z2))] : va_W) ++ ((((List.range 11).map (fun iq => (ri iq, .inl (G 0, 10, .inl (u1 iq))))) : va_W) ++ ((((List.range 11).map (fun iq => (ro iq, .inl (G 0, 10, .inl (u2 iq))))) : va_W) ++ [])))) (va_A (([(h0, .inr (10, [.ref rd, .ref wy, .ref tr, .ref im, .ref kp, .ref od, .ref ch, .ref cr, .ref le, .ref mk, .ref tl, .ref sh, .int tf, .int rf])), (tl, .inr (8, [.int tt, .ref ti, .ref to])), (ti, .inl (G 4, 11, .inr (.inr (.inr (.inr (fun ir => if ir < 11 then some (ri ir) else none)))))), (to, .inl (G 4, 11, .inr (.inr (.inr (.inr (fun ir => if ir < 11 then some (ro ir) else none)))))), (wy, .inr (9, [.int (nI N), .int (nI B), .int (nI D), .ref a1, .ref a2, .ref a3, .ref a4, .ref a5, .ref a6])), (a1, .inl (G 0, 10, .inl f1)), (a2, .inl (G 0, 10, .inl f2)), (a3, .inl (G 0, 10, .inl f3)), (a4, .inl (G 0, 6, .inl f4)), (a5, .inl (G 0, 6, .inl f5)), (a6, .inl (G 0, 6, .inl f6)), (mk, .inr (3, [.int (nI S), .ref m1, .ref m2])), (m1, .inl (G 0, 6, .inl z1)), (m2, .inl (G 0, 6, .inl z2))] : va_W) ++ ((((List.range 11).map (fun iq => (ri iq, .inl (G 0, 10, .inl (F iq))))) : va_W) ++ ((((List.range 11).map (fun iq => (ro iq, .inl (G 0, 10, .inl (E iq))))) : va_W) ++ []))) sz)) 0 0 (va_A (([(h0, .inr (10, [.ref rd, .ref wy, .ref tr, .ref im, .ref kp, .ref od, .ref ch, .ref cr, .ref le, .ref mk, .ref tl, .ref sh, .int tf, .int rf])), (tl, .inr (8, [.int tt, .ref ti, .ref to])), (ti, .inl (G 4, 11, .inr (.inr (.inr (.inr (fun ir => if ir < 11 then some (ri ir) else none)))))), (to, .inl (G 4, 11, .inr (.inr (.inr (.inr (fun ir => if ir < 11 then some (ro ir) else none)))))), (wy, .inr (9, [.int (nI N), .int (nI B), .int (nI D), .ref a1, .ref a2, .ref a3, .ref a4, .ref a5, .ref a6])), (a1, .inl (G 0, 10, .inl f1)), (a2, .inl (G 0, 10, .inl f2)), (a3, .inl (G 0, 10, .inl f3)), (a4, .inl (G 0, 6, .inl f4)), (a5, .inl (G 0, 6, .inl f5)), (a6, .inl (G 0, 6, .inl f6)), (mk, .inr (3, [.int (nI S), .ref m1, .ref m2])), (m1, .inl (G 0, 6, .inl z1)), (m2, .inl (G 0, 6, .inl z2))] : va_W) ++ ((((List.range 11).map (fun iq => (ri iq, .inl (G 0, 10, .inl (F iq))))) : va_W) ++ ((((List.range 11).map (fun iq => (ro iq, .inl (G 0, 10, .inl (E iq))))) : va_W) ++ []))) sz) := by
  have tn206_ : nIT N := fun _ => nI_toInt (by omega)
  have tn207_ : nIT B := fun _ => nI_toInt (by omega)
  have tn208_ : nIT D := fun _ => nI_toInt (by omega)
  have tn209_ : nIT S := fun _ => nI_toInt (by omega)
  refine Met.ofW (cc := cX10_paths) (maxL := 1) (ret := (some .int)) (by decide) rfl ?_
  intro p e s m args below meth c s₁ Bd hml hv
  obtain ⟨rfl, hsz, hP, hK, hD0⟩ := hv
  have hx := Bd.exec
  have hb := Bd.bytes
  have hr := Bd.returns
  have hg : ∀ w ∈ GT, w.before ([.ref h0] : List Value).toArray s = true := fun w h => atoms_spec (ws := Cond.code yX10_paths cX10_paths 1 (some .int) :: GT) Bd.pre w (List.mem_cons_of_mem _ h)
  have hown : s.vm.findClass RX10 = some m.cls := findClass_of_methodNamed Bd.named
  have hlocks := Bd.notSynchronized
  subst hsz
  have hD := hD0.self (sz := s.heap.size)
  generalize hAe : va_A (([(h0, .inr (10, [.ref rd, .ref wy, .ref tr, .ref im, .ref kp, .ref od, .ref ch, .ref cr, .ref le, .ref mk, .ref tl, .ref sh, .int tf, .int rf])), (tl, .inr (8, [.int tt, .ref ti, .ref to])), (ti, .inl (G 4, 11, .inr (.inr (.inr (.inr (fun ir => if ir < 11 then some (ri ir) else none)))))), (to, .inl (G 4, 11, .inr (.inr (.inr (.inr (fun ir => if ir < 11 then some (ro ir) else none)))))), (wy, .inr (9, [.int (nI N), .int (nI B), .int (nI D), .ref a1, .ref a2, .ref a3, .ref a4, .ref a5, .ref a6])), (a1, .inl (G 0, 10, .inl f1)), (a2, .inl (G 0, 10, .inl f2)), (a3, .inl (G 0, 10, .inl f3)), (a4, .inl (G 0, 6, .inl f4)), (a5, .inl (G 0, 6, .inl f5)), (a6, .inl (G 0, 6, .inl f6)), (mk, .inr (3, [.int (nI S), .ref m1, .ref m2])), (m1, .inl (G 0, 6, .inl z1)), (m2, .inl (G 0, 6, .inl z2))] : va_W) ++ ((((List.range 11).map (fun iq => (ri iq, .inl (G 0, 10, .inl (F iq))))) : va_W) ++ ((((List.range 11).map (fun iq => (ro iq, .inl (G 0, 10, .inl (E iq))))) : va_W) ++ []))) s.heap.size = A at hD ⊢
  have hA : ∀ q : Nat, s.heap.size ≤ q → A q := fun q h => by rw [← hAe]; exact Or.inr h
  have hS : va_S A s.heap s.heap [] := va_S.rf
  have hl := lv_entry ([.ref h0]) (n := 1) (Nat.le_of_ble_eq_true rfl)
  rw [lg_entry_eq]
  generalize (lg_sl ([.ref h0]) ++ List.replicate (1 - (lg_sl ([.ref h0])).length) Slot.unset).toArray = ls at hl ⊢
  have hl : lv_has ls 1 [(0, .ref h0)] := hl
  refine lv_aload_n hx hb dX10_paths_0 rfl (lv_at hl 0 rfl) ?_
  refine va_get (D := (dC, dI)) (ci := 10) (v := .ref tl) (C := RX10) (T := TX10) (N := 14) hx hb hg inG10 hown hK.1 hP 0 rfl rfl 10 (Nat.le_of_ble_eq_true rfl) (hg _ wt_312) (fun _ h9 => h9) rfl dX10_paths_1 ?_
  refine lv_aload_n hx hb dX10_paths_4 rfl (lv_at hl 0 rfl) ?_
  refine va_get (D := (dC, dI)) (ci := 10) (v := .ref wy) (C := RX10) (T := TX10) (N := 14) hx hb hg inG10 hown hK.1 hP 0 rfl rfl 1 (Nat.le_of_ble_eq_true rfl) (hg _ wt_303) (fun _ h9 => h9) rfl dX10_paths_5 ?_
  refine lv_aload_n hx hb dX10_paths_8 rfl (lv_at hl 0 rfl) ?_
  refine va_get (D := (dC, dI)) (ci := 10) (v := .ref mk) (C := RX10) (T := TX10) (N := 14) hx hb hg inG10 hown hK.1 hP 0 rfl rfl 9 (Nat.le_of_ble_eq_true rfl) (hg _ wt_311) (fun _ h9 => h9) rfl dX10_paths_9 ?_
  obtain ⟨hPc, hDc, hFc⟩ := va_sub3 (ws' := (([(tl, .inr (8, [.int tt, .ref ti, .ref to])), (ti, .inl (G 4, 11, .inr (.inr (.inr (.inr (fun ir => if ir < 11 then some (ri ir) else none)))))), (to, .inl (G 4, 11, .inr (.inr (.inr (.inr (fun ir => if ir < 11 then some (ro ir) else none)))))), (wy, .inr (9, [.int (nI N), .int (nI B), .int (nI D), .ref a1, .ref a2, .ref a3, .ref a4, .ref a5, .ref a6])), (a1, .inl (G 0, 10, .inl f1)), (a2, .inl (G 0, 10, .inl f2)), (a3, .inl (G 0, 10, .inl f3)), (a4, .inl (G 0, 6, .inl f4)), (a5, .inl (G 0, 6, .inl f5)), (a6, .inl (G 0, 6, .inl f6)), (mk, .inr (3, [.int (nI S), .ref m1, .ref m2])), (m1, .inl (G 0, 6, .inl z1)), (m2, .inl (G 0, 6, .inl z2))] : va_W) ++ ((((List.range 11).map (fun iq => (ri iq, .inl (G 0, 10, .inl (F iq))))) : va_W) ++ ((((List.range 11).map (fun iq => (ro iq, .inl (G 0, 10, .inl (E iq))))) : va_W) ++ [])))) hP hD hS hA [1, 2, 3, 4, 5, 6, 7, 8, 9, 10, 11, 12, 13, 14, 15, 16, 17, 18, 19, 20, 21, 22, 23, 24, 25, 26, 27, 28, 29, 30, 31, 32, 33, 34, 35] (by decide +kernel) rfl
  refine va_callv (va_runVN (As := [.ref wy, .ref mk]) (rest := []) ⟨hx, hb, hml, hown, hg⟩ (c_X8_explore l dC dI G _ tl ti to wy a1 a2 a3 a4 a5 a6 N B D mk m1 m2 S tt f1 f2 f3 f4 f5 f6 z1 z2 ri ro F E hN_N hB_B hD_D hS0) (kwVN hg hK mfX8_explore wn_767 ⟨Nat.le_of_ble_eq_true rfl, Nat.le_of_ble_eq_true rfl⟩) (preVW hK hPc hDc (ci := 8) (r := (RX8, TX8, 3)) rfl rfl) rfl rfl hl.1 rfl (lv_room (Nat.le_of_ble_eq_true rfl)) dX10_paths_12 ⟨Nat.le_of_ble_eq_true rfl, Nat.le_of_ble_eq_true rfl⟩) hS (fun q _ h => hFc q h) hFc (fun ur1 t H1 locs ht hvm w2 hB hz1 hk1 hS => ?_)
  obtain ⟨u3, u4, u5⟩ := ur1
  obtain ⟨hP1, hD1⟩ := hB
  rw [ht] at hP1
  obtain ⟨hP, hD⟩ := va_join (wr := [(h0, .inr (10, [.ref rd, .ref wy, .ref tr, .ref im, .ref kp, .ref od, .ref ch, .ref cr, .ref le, .ref mk, .ref tl, .ref sh, .int tf, .int rf]))]) (w1 := (([(tl, .inr (8, [.int u3, .ref ti, .ref to])), (ti, .inl (G 4, 11, .inr (.inr (.inr (.inr (fun ir => if ir < 11 then some (ri ir) else none)))))), (to, .inl (G 4, 11, .inr (.inr (.inr (.inr (fun ir => if ir < 11 then some (ro ir) else none)))))), (wy, .inr (9, [.int (nI N), .int (nI B), .int (nI D), .ref a1, .ref a2, .ref a3, .ref a4, .ref a5, .ref a6])), (a1, .inl (G 0, 10, .inl f1)), (a2, .inl (G 0, 10, .inl f2)), (a3, .inl (G 0, 10, .inl f3)), (a4, .inl (G 0, 6, .inl f4)), (a5, .inl (G 0, 6, .inl f5)), (a6, .inl (G 0, 6, .inl f6)), (mk, .inr (3, [.int (nI S), .ref m1, .ref m2])), (m1, .inl (G 0, 6, .inl z1)), (m2, .inl (G 0, 6, .inl z2))] : va_W) ++ ((((List.range 11).map (fun iq => (ri iq, .inl (G 0, 10, .inl (u4 iq))))) : va_W) ++ ((((List.range 11).map (fun iq => (ro iq, .inl (G 0, 10, .inl (u5 iq))))) : va_W) ++ [])))) hP hD [1, 2, 3, 4, 5, 6, 7, 8, 9, 10, 11, 12, 13, 14, 15, 16, 17, 18, 19, 20, 21, 22, 23, 24, 25, 26, 27, 28, 29, 30, 31, 32, 33, 34, 35] [0] rfl rfl (by decide +kernel) (by decide +kernel) hk1 hFc hP1 hD1
  generalize H1 = H at hP hS ⊢
  refine lv_aload_n hx hb dX10_paths_15 rfl (lv_at hl 0 rfl) ?_
  refine va_get (D := (dC, dI)) (ci := 10) (v := .ref tl) (C := RX10) (T := TX10) (N := 14) hx hb hg inG10 hown hK.1 hP 0 rfl rfl 10 (Nat.le_of_ble_eq_true rfl) (hg _ wt_312) (fun _ h9 => h9) rfl dX10_paths_16 ?_
  refine va_getN (D := (dC, dI)) (ci := 8) (v := .int u3) (C := RX8) (T := TX8) (N := 3) hx hb hg inG8 hown hK.1 hP 1 rfl rfl 0 (Nat.le_of_ble_eq_true rfl) (hK.nest wn_259) (fun _ h9 => h9) rfl dX10_paths_19 ?_
  have hpost : True := by
    trivial
  obtain ⟨hP9, hD9⟩ := va_sub2 (ws' := (([(h0, .inr (10, [.ref rd, .ref wy, .ref tr, .ref im, .ref kp, .ref od, .ref ch, .ref cr, .ref le, .ref mk, .ref tl, .ref sh, .int tf, .int rf])), (tl, .inr (8, [.int u3, .ref ti, .ref to])), (ti, .inl (G 4, 11, .inr (.inr (.inr (.inr (fun ir => if ir < 11 then some (ri ir) else none)))))), (to, .inl (G 4, 11, .inr (.inr (.inr (.inr (fun ir => if ir < 11 then some (ro ir) else none)))))), (wy, .inr (9, [.int (nI N), .int (nI B), .int (nI D), .ref a1, .ref a2, .ref a3, .ref a4, .ref a5, .ref a6])), (a1, .inl (G 0, 10, .inl f1)), (a2, .inl (G 0, 10, .inl f2)), (a3, .inl (G 0, 10, .inl f3)), (a4, .inl (G 0, 6, .inl f4)), (a5, .inl (G 0, 6, .inl f5)), (a6, .inl (G 0, 6, .inl f6)), (mk, .inr (3, [.int (nI S), .ref m1, .ref m2])), (m1, .inl (G 0, 6, .inl z1)), (m2, .inl (G 0, 6, .inl z2))] : va_W) ++ ((((List.range 11).map (fun iq => (ri iq, .inl (G 0, 10, .inl (u4 iq))))) : va_W) ++ ((((List.range 11).map (fun iq => (ro iq, .inl (G 0, 10, .inl (u5 iq))))) : va_W) ++ [])))) hP hD [0, 1, 2, 3, 4, 5, 6, 7, 8, 9, 10, 11, 12, 13, 14, 15, 16, 17, 18, 19, 20, 21, 22, 23, 24, 25, 26, 27, 28, 29, 30, 31, 32, 33, 34, 35] (by decide +kernel) rfl
  refine W.widen (k := 0) (n := 0) (Nat.le_of_ble_eq_true rfl) (Nat.le_of_ble_eq_true rfl) ?_
  exact W.iret (v := u3) hx hb hr (fun t ht hW => ⟨⟨u3, (u3, u4, u5), rfl, ⟨hpost, trivial⟩, ⟨by rw [ht]; exact hP9, hD9⟩⟩, hS.F ht⟩) hS.2.2 dX10_paths_22

set_option maxHeartbeats 1000000 in
set_option maxRecDepth 100000 in
theorem c_X10_eye (l : Launch) (dC : Nat → ClassId) (dI : Nat → Nat → Nat) (G : Nat → ClassId) (sz : Nat) (h0 rd wy tr im kp od ch cr le mk tl sh ti to a1 a2 a3 a4 a5 a6 N B D m1 m2 S : Nat) (tf rf d tt : Int32) (f1 f2 f3 f4 f5 f6 z1 z2 : Nat → Int32) (ri ro : Nat → Nat) (F E : Nat → Nat → Int32) (hN_N : N ≤ 10) (hB_B : B ≤ 6) (hD_D : 1 ≤ D ∧ D ≤ 9) (hS0 : S ≤ 6) : Met l yX10_eye (Cond.code yX10_eye cX10_eye 4 (some .int) :: GT) ({ frames := 5, cells := 0, slots := 0, locals := 111 } : Room) (PcW [.ref h0, .int d] dC dI G (([(h0, .inr (10, [.ref rd, .ref wy, .ref tr, .ref im, .ref kp, .ref od, .ref ch, .ref cr, .ref le, .ref mk, .ref tl, .ref sh, .int tf, .int rf])), (tl, .inr (8, [.int tt, .ref ti, .ref to])), (ti, .inl (G 4, 11, .inr (.inr (.inr (.inr (fun ir => if ir < 11 then some (ri ir) else none)))))), (to, .inl (G 4, 11, .inr (.inr (.inr (.inr (fun ir => if ir < 11 then some (ro ir) else none)))))), (wy, .inr (9, [.int (nI N), .int (nI B), .int (nI D), .ref a1, .ref a2, .ref a3, .ref a4, .ref a5, .ref a6])), (a1, .inl (G 0, 10, .inl f1)), (a2, .inl (G 0, 10, .inl f2)), (a3, .inl (G 0, 10, .inl f3)), (a4, .inl (G 0, 6, .inl f4)), (a5, .inl (G 0, 6, .inl f5)), (a6, .inl (G 0, 6, .inl f6)), (mk, .inr (3, [.int (nI S), .ref m1, .ref m2])), (m1, .inl (G 0, 6, .inl z1)), (m2, .inl (G 0, 6, .inl z2))] : va_W) ++ ((((List.range 11).map (fun iq => (ri iq, .inl (G 0, 10, .inl (F iq))))) : va_W) ++ ((((List.range 11).map (fun iq => (ro iq, .inl (G 0, 10, .inl (E iq))))) : va_W) ++ []))) sz) (va_Qi (fun (r : Int32) (u : Int32 × (Nat → Nat → Int32) × (Nat → Nat → Int32)) => match u with | (u0, u1, u2) => (True) ∧ True) (fun (u : Int32 × (Nat → Nat → Int32) × (Nat → Nat → Int32)) (t : State) => match u with | (u0, u1, u2) => va_P (dC, dI) vwCl (([(h0, .inr (10, [.ref rd, .ref wy, .ref tr, .ref im, .ref kp, .ref od, .ref ch, .ref cr, .ref le, .ref mk, .ref tl, .ref sh, .int tf, .int rf])), (tl, .inr (8, [.int u0, .ref ti, .ref to])), (ti, .inl (G 4, 11, .inr (.inr (.inr (.inr (fun ir => if ir < 11 then some (ri ir) else none)))))), (to, .inl (G 4, 11, .inr (.inr (.inr (.inr (fun ir => if ir < 11 then some (ro ir) else none)))))), (wy, .inr (9, [.int (nI N), .int (nI B), .int (nI D), .ref a1, .ref a2, .ref a3, .ref a4, .ref a5, .ref a6])), (a1, .inl (G 0, 10, .inl f1)), (a2, .inl (G 0, 10, .inl f2)), (a3, .inl (G 0, 10, .inl f3)), (a4, .inl (G 0, 6, .inl f4)), (a5, .inl (G 0, 6, .inl f5)), (a6, .inl (G 0, 6, .inl f6)), (mk, .inr (3, [.int (nI S), .ref m1, .ref m2])), (m1, .inl (G 0, 6, .inl z1)), (m2, .inl (G 0, 6, .inl z2))] : va_W) ++ ((((List.range 11).map (fun iq => (ri iq, .inl (G 0, 10, .inl (u1 iq))))) : va_W) ++ ((((List.range 11).map (fun iq => (ro iq, .inl (G 0, 10, .inl (u2 iq))))) : va_W) ++ []))) t.heap ∧ va_D (va_A (([(h0, .inr (10, [.ref rd, .ref wy, .ref tr, .ref im, .ref kp, .ref od, .ref ch, .ref cr, .ref le, .ref mk, .ref tl, .ref sh, .int tf, .int rf])), (tl, .inr (8, [.int tt, .ref ti, .ref to])), (ti, .inl (G 4, 11, .inr (.inr (.inr (.inr (fun ir => if ir < 11 then some (ri ir) else none)))))), (to, .inl (G 4, 11, .inr (.inr (.inr (.inr (fun ir => if ir < 11 then some (ro ir) else none)))))), (wy, .inr (9, [.int (nI N), .int (nI B), .int (nI D), .ref a1, .ref a2, .ref a3, .ref a4, .ref a5, .ref a6])), (a1, .inl (G 0, 10, .inl f1)), (a2, .inl (G 0, 10, .inl f2)), (a3, .inl (G 0, 10, .inl f3)), (a4, .inl (G 0, 6, .inl f4)), (a5, .inl (G 0, 6, .inl f5)), (a6, .inl (G 0, 6, .inl f6)), (mk, .inr (3, [.int (nI S), .ref m1, .ref m2])), (m1, .inl (G 0, 6, .inl z1)), (m2, .inl (G 0, 6, .inl z2))] : va_W) ++ ((((List.range 11).map (fun iq => (ri iq, .inl (G 0, 10, .inl (F iq))))) : va_W) ++ ((((List.range 11).map (fun iq => (ro iq, .inl (G 0, 10, .inl (E iq))))) : va_W) ++ []))) sz) (([(h0, .inr (10, [.ref rd, .ref wy, .ref tr, .ref im, .ref kp, .ref od, .ref ch, .ref cr, .ref le, .ref mk, .ref tl, .ref sh, .int tf, .int rf])), (tl, .inr (8, [.int u0, .ref ti, .ref to])), (ti, .inl (G 4, 11, .inr (.inr (.inr (.inr (fun ir => if ir < 11 then some (ri ir) else none)))))), (to, .inl (G 4, 11, .inr (.inr (.inr (.inr (fun ir => if ir < 11 then some (ro ir) else none)))))), (wy, .inr (9, [.int (nI N), .int (nI B), .int (nI D), .ref a1, .ref a2, .ref a3, .ref a4, .ref a5, .ref a6])), (a1, .inl (G 0, 10, .inl f1)), (a2, .inl (G 0, 10, .inl f2)), (a3, .inl (G 0, 10, .inl f3)), (a4, .inl (G 0, 6, .inl f4)), (a5, .inl (G 0, 6, .inl f5)), (a6, .inl (G 0, 6, .inl f6)), (mk, .inr (3, [.int (nI S), .ref m1, .ref m2])), (m1, .inl (G 0, 6, .inl z1)), (m2, .inl (G 0, 6, .inl z2))] : va_W) ++ ((((List.range 11).map (fun iq => (ri iq, .inl (G 0, 10, .inl (u1 iq))))) : va_W) ++ ((((List.range 11).map (fun iq => (ro iq, .inl (G 0, 10, .inl (u2 iq))))) : va_W) ++ [])))) (va_A (([(h0, .inr (10, [.ref rd, .ref wy, .ref tr, .ref im, .ref kp, .ref od, .ref ch, .ref cr, .ref le, .ref mk, .ref tl, .ref sh, .int tf, .int rf])), (tl, .inr (8, [.int tt, .ref ti, .ref to])), (ti, .inl (G 4, 11, .inr (.inr (.inr (.inr (fun ir => if ir < 11 then some (ri ir) else none)))))), (to, .inl (G 4, 11, .inr (.inr (.inr (.inr (fun ir => if ir < 11 then some (ro ir) else none)))))), (wy, .inr (9, [.int (nI N), .int (nI B), .int (nI D), .ref a1, .ref a2, .ref a3, .ref a4, .ref a5, .ref a6])), (a1, .inl (G 0, 10, .inl f1)), (a2, .inl (G 0, 10, .inl f2)), (a3, .inl (G 0, 10, .inl f3)), (a4, .inl (G 0, 6, .inl f4)), (a5, .inl (G 0, 6, .inl f5)), (a6, .inl (G 0, 6, .inl f6)), (mk, .inr (3, [.int (nI S), .ref m1, .ref m2])), (m1, .inl (G 0, 6, .inl z1)), (m2, .inl (G 0, 6, .inl z2))] : va_W) ++ ((((List.range 11).map (fun iq => (ri iq, .inl (G 0, 10, .inl (F iq))))) : va_W) ++ ((((List.range 11).map (fun iq => (ro iq, .inl (G 0, 10, .inl (E iq))))) : va_W) ++ []))) sz)) 0 0 (va_A (([(h0, .inr (10, [.ref rd, .ref wy, .ref tr, .ref im, .ref kp, .ref od, .ref ch, .ref cr, .ref le, .ref mk, .ref tl, .ref sh, .int tf, .int rf])), (tl, .inr (8, [.int tt, .ref ti, .ref to])), (ti, .inl (G 4, 11, .inr (.inr (.inr (.inr (fun ir => if ir < 11 then some (ri ir) else none)))))), (to, .inl (G 4, 11, .inr (.inr (.inr (.inr (fun ir => if ir < 11 then some (ro ir) else none)))))), (wy, .inr (9, [.int (nI N), .int (nI B), .int (nI D), .ref a1, .ref a2, .ref a3, .ref a4, .ref a5, .ref a6])), (a1, .inl (G 0, 10, .inl f1)), (a2, .inl (G 0, 10, .inl f2)), (a3, .inl (G 0, 10, .inl f3)), (a4, .inl (G 0, 6, .inl f4)), (a5, .inl (G 0, 6, .inl f5)), (a6, .inl (G 0, 6, .inl f6)), (mk, .inr (3, [.int (nI S), .ref m1, .ref m2])), (m1, .inl (G 0, 6, .inl z1)), (m2, .inl (G 0, 6, .inl z2))] : va_W) ++ ((((List.range 11).map (fun iq => (ri iq, .inl (G 0, 10, .inl (F iq))))) : va_W) ++ ((((List.range 11).map (fun iq => (ro iq, .inl (G 0, 10, .inl (E iq))))) : va_W) ++ []))) sz) := by
  have tn219_ : nIT N := fun _ => nI_toInt (by omega)
  have tn220_ : nIT B := fun _ => nI_toInt (by omega)
  have tn221_ : nIT D := fun _ => nI_toInt (by omega)
  have tn222_ : nIT S := fun _ => nI_toInt (by omega)
  refine Met.ofW (cc := cX10_eye) (maxL := 4) (ret := (some .int)) (by decide) rfl ?_
  intro p e s m args below meth c s₁ Bd hml hv
  obtain ⟨rfl, hsz, hP, hK, hD0⟩ := hv
  have hx := Bd.exec
  have hb := Bd.bytes
  have hr := Bd.returns
  have hg : ∀ w ∈ GT, w.before ([.ref h0, .int d] : List Value).toArray s = true := fun w h => atoms_spec (ws := Cond.code yX10_eye cX10_eye 4 (some .int) :: GT) Bd.pre w (List.mem_cons_of_mem _ h)
  have hown : s.vm.findClass RX10 = some m.cls := findClass_of_methodNamed Bd.named
  have hlocks := Bd.notSynchronized
  subst hsz
  have hD := hD0.self (sz := s.heap.size)
  generalize hAe : va_A (([(h0, .inr (10, [.ref rd, .ref wy, .ref tr, .ref im, .ref kp, .ref od, .ref ch, .ref cr, .ref le, .ref mk, .ref tl, .ref sh, .int tf, .int rf])), (tl, .inr (8, [.int tt, .ref ti, .ref to])), (ti, .inl (G 4, 11, .inr (.inr (.inr (.inr (fun ir => if ir < 11 then some (ri ir) else none)))))), (to, .inl (G 4, 11, .inr (.inr (.inr (.inr (fun ir => if ir < 11 then some (ro ir) else none)))))), (wy, .inr (9, [.int (nI N), .int (nI B), .int (nI D), .ref a1, .ref a2, .ref a3, .ref a4, .ref a5, .ref a6])), (a1, .inl (G 0, 10, .inl f1)), (a2, .inl (G 0, 10, .inl f2)), (a3, .inl (G 0, 10, .inl f3)), (a4, .inl (G 0, 6, .inl f4)), (a5, .inl (G 0, 6, .inl f5)), (a6, .inl (G 0, 6, .inl f6)), (mk, .inr (3, [.int (nI S), .ref m1, .ref m2])), (m1, .inl (G 0, 6, .inl z1)), (m2, .inl (G 0, 6, .inl z2))] : va_W) ++ ((((List.range 11).map (fun iq => (ri iq, .inl (G 0, 10, .inl (F iq))))) : va_W) ++ ((((List.range 11).map (fun iq => (ro iq, .inl (G 0, 10, .inl (E iq))))) : va_W) ++ []))) s.heap.size = A at hD ⊢
  have hA : ∀ q : Nat, s.heap.size ≤ q → A q := fun q h => by rw [← hAe]; exact Or.inr h
  have hS : va_S A s.heap s.heap [] := va_S.rf
  have hl := lv_entry ([.ref h0, .int d]) (n := 4) (Nat.le_of_ble_eq_true rfl)
  rw [lg_entry_eq]
  generalize (lg_sl ([.ref h0, .int d]) ++ List.replicate (4 - (lg_sl ([.ref h0, .int d])).length) Slot.unset).toArray = ls at hl ⊢
  have hl : lv_has ls 4 [(0, .ref h0), (1, .int d)] := hl
  refine lv_iload_n hx hb dX10_eye_0 rfl (lv_at hl 1 rfl) ?_
  have hPc := hP.sub (ws' := []) [] rfl
  refine va_calli (va_runS (As := [.int d]) (rest := []) ⟨hx, hb, hml, hown, hg⟩ (c_X10_isDepth l dC dI G _ d) (kwS hg mfX10_isDepth wt_649 ⟨Nat.le_of_ble_eq_true rfl, Nat.le_of_ble_eq_true rfl⟩) (preSR hK hPc) rfl rfl hl.1 rfl (lv_room (Nat.le_of_ble_eq_true rfl)) dX10_eye_1 ⟨Nat.le_of_ble_eq_true rfl, Nat.le_of_ble_eq_true rfl⟩) hS (fun q h1 h2 => absurd h2 (Nat.not_le.mpr h1)) (fun q h => hA q (Nat.le_trans hS.1 h)) (fun r1 ur1 t H1 locs ht hvm w2 hB hz1 hk1 hS => ?_)
  have hP := keepR hP hk1
  obtain ⟨w2, w2x⟩ := w2
  try simp only [l_ii, show (0 : Int32).toInt = 0 from by decide, show (9 : Int32).toInt = 9 from by decide] at w2
  subst w2
  refine lv_if_ne (tgt := 9) hx hb dX10_eye_4 rfl (fun c3 => ?_) (fun c3 => ?_)
  · skip
    have b4 := if10_p c3
    refine lv_aload_n hx hb dX10_eye_9 rfl (lv_at hl 0 rfl) ?_
    refine va_get (D := (dC, dI)) (ci := 10) (v := .ref tl) (C := RX10) (T := TX10) (N := 14) hx hb hg inG10 hown hK.1 hP 0 rfl rfl 10 (Nat.le_of_ble_eq_true rfl) (hg _ wt_312) (fun _ h9 => h9) rfl dX10_eye_10 ?_
    refine lv_aload_n hx hb dX10_eye_13 rfl (lv_at hl 0 rfl) ?_
    refine va_get (D := (dC, dI)) (ci := 10) (v := .ref wy) (C := RX10) (T := TX10) (N := 14) hx hb hg inG10 hown hK.1 hP 0 rfl rfl 1 (Nat.le_of_ble_eq_true rfl) (hg _ wt_303) (fun _ h9 => h9) rfl dX10_eye_14 ?_
    refine lv_aload_n hx hb dX10_eye_17 rfl (lv_at hl 0 rfl) ?_
    refine va_get (D := (dC, dI)) (ci := 10) (v := .ref mk) (C := RX10) (T := TX10) (N := 14) hx hb hg inG10 hown hK.1 hP 0 rfl rfl 9 (Nat.le_of_ble_eq_true rfl) (hg _ wt_311) (fun _ h9 => h9) rfl dX10_eye_18 ?_
    obtain ⟨hPc, hDc, hFc⟩ := va_sub3 (ws' := (([(tl, .inr (8, [.int tt, .ref ti, .ref to])), (ti, .inl (G 4, 11, .inr (.inr (.inr (.inr (fun ir => if ir < 11 then some (ri ir) else none)))))), (to, .inl (G 4, 11, .inr (.inr (.inr (.inr (fun ir => if ir < 11 then some (ro ir) else none)))))), (wy, .inr (9, [.int (nI N), .int (nI B), .int (nI D), .ref a1, .ref a2, .ref a3, .ref a4, .ref a5, .ref a6])), (a1, .inl (G 0, 10, .inl f1)), (a2, .inl (G 0, 10, .inl f2)), (a3, .inl (G 0, 10, .inl f3)), (a4, .inl (G 0, 6, .inl f4)), (a5, .inl (G 0, 6, .inl f5)), (a6, .inl (G 0, 6, .inl f6)), (mk, .inr (3, [.int (nI S), .ref m1, .ref m2])), (m1, .inl (G 0, 6, .inl z1)), (m2, .inl (G 0, 6, .inl z2))] : va_W) ++ ((((List.range 11).map (fun iq => (ri iq, .inl (G 0, 10, .inl (F iq))))) : va_W) ++ ((((List.range 11).map (fun iq => (ro iq, .inl (G 0, 10, .inl (E iq))))) : va_W) ++ [])))) hP hD hS hA [1, 2, 3, 4, 5, 6, 7, 8, 9, 10, 11, 12, 13, 14, 15, 16, 17, 18, 19, 20, 21, 22, 23, 24, 25, 26, 27, 28, 29, 30, 31, 32, 33, 34, 35] (by decide +kernel) rfl
    refine va_callv (va_runVN (As := [.ref wy, .ref mk]) (rest := []) ⟨hx, hb, hml, hown, hg⟩ (c_X8_explore l dC dI G _ tl ti to wy a1 a2 a3 a4 a5 a6 N B D mk m1 m2 S tt f1 f2 f3 f4 f5 f6 z1 z2 ri ro F E hN_N hB_B hD_D hS0) (kwVN hg hK mfX8_explore wn_767 ⟨Nat.le_of_ble_eq_true rfl, Nat.le_of_ble_eq_true rfl⟩) (preVW hK hPc hDc (ci := 8) (r := (RX8, TX8, 3)) rfl rfl) rfl rfl hl.1 rfl (lv_room (Nat.le_of_ble_eq_true rfl)) dX10_eye_21 ⟨Nat.le_of_ble_eq_true rfl, Nat.le_of_ble_eq_true rfl⟩) hS (fun q _ h => hFc q h) hFc (fun ur5 t H1 locs ht hvm w6 hB hz1 hk1 hS => ?_)
    obtain ⟨u7, u8, u9⟩ := ur5
    obtain ⟨hP1, hD1⟩ := hB
    rw [ht] at hP1
    obtain ⟨hP, hD⟩ := va_join (wr := [(h0, .inr (10, [.ref rd, .ref wy, .ref tr, .ref im, .ref kp, .ref od, .ref ch, .ref cr, .ref le, .ref mk, .ref tl, .ref sh, .int tf, .int rf]))]) (w1 := (([(tl, .inr (8, [.int u7, .ref ti, .ref to])), (ti, .inl (G 4, 11, .inr (.inr (.inr (.inr (fun ir => if ir < 11 then some (ri ir) else none)))))), (to, .inl (G 4, 11, .inr (.inr (.inr (.inr (fun ir => if ir < 11 then some (ro ir) else none)))))), (wy, .inr (9, [.int (nI N), .int (nI B), .int (nI D), .ref a1, .ref a2, .ref a3, .ref a4, .ref a5, .ref a6])), (a1, .inl (G 0, 10, .inl f1)), (a2, .inl (G 0, 10, .inl f2)), (a3, .inl (G 0, 10, .inl f3)), (a4, .inl (G 0, 6, .inl f4)), (a5, .inl (G 0, 6, .inl f5)), (a6, .inl (G 0, 6, .inl f6)), (mk, .inr (3, [.int (nI S), .ref m1, .ref m2])), (m1, .inl (G 0, 6, .inl z1)), (m2, .inl (G 0, 6, .inl z2))] : va_W) ++ ((((List.range 11).map (fun iq => (ri iq, .inl (G 0, 10, .inl (u8 iq))))) : va_W) ++ ((((List.range 11).map (fun iq => (ro iq, .inl (G 0, 10, .inl (u9 iq))))) : va_W) ++ [])))) hP hD [1, 2, 3, 4, 5, 6, 7, 8, 9, 10, 11, 12, 13, 14, 15, 16, 17, 18, 19, 20, 21, 22, 23, 24, 25, 26, 27, 28, 29, 30, 31, 32, 33, 34, 35] [0] rfl rfl (by decide +kernel) (by decide +kernel) hk1 hFc hP1 hD1
    generalize H1 = H at hP hS ⊢
    refine lv_iconst (v := 0) hx hb dX10_eye_24 rfl ?_
    refine lv_istore_n (lv' := [(2, .int 0), (0, .ref h0), (1, .int d)]) hx hb dX10_eye_25 rfl hl (by decide) rfl (fun ls hl => ?_)
    refine lv_iconst (v := 0) hx hb dX10_eye_26 rfl ?_
    refine lv_istore_n (lv' := [(3, .int 0), (2, .int 0), (0, .ref h0), (1, .int d)]) hx hb dX10_eye_27 rfl hl (by decide) rfl (fun ls hl => ?_)
    have loop28_12 : ∀ (nf j10 : Nat), N + 1 ≤ j10 + nf → j10 ≤ N → ∀ (y11 : Int32) (H : Heap) (locs : List Loc), va_P (dC, dI) vwCl (([(h0, .inr (10, [.ref rd, .ref wy, .ref tr, .ref im, .ref kp, .ref od, .ref ch, .ref cr, .ref le, .ref mk, .ref tl, .ref sh, .int tf, .int rf])), (tl, .inr (8, [.int u7, .ref ti, .ref to])), (ti, .inl (G 4, 11, .inr (.inr (.inr (.inr (fun ir => if ir < 11 then some (ri ir) else none)))))), (to, .inl (G 4, 11, .inr (.inr (.inr (.inr (fun ir => if ir < 11 then some (ro ir) else none)))))), (wy, .inr (9, [.int (nI N), .int (nI B), .int (nI D), .ref a1, .ref a2, .ref a3, .ref a4, .ref a5, .ref a6])), (a1, .inl (G 0, 10, .inl f1)), (a2, .inl (G 0, 10, .inl f2)), (a3, .inl (G 0, 10, .inl f3)), (a4, .inl (G 0, 6, .inl f4)), (a5, .inl (G 0, 6, .inl f5)), (a6, .inl (G 0, 6, .inl f6)), (mk, .inr (3, [.int (nI S), .ref m1, .ref m2])), (m1, .inl (G 0, 6, .inl z1)), (m2, .inl (G 0, 6, .inl z2))] : va_W) ++ ((((List.range 11).map (fun iq => (ri iq, .inl (G 0, 10, .inl (u8 iq))))) : va_W) ++ ((((List.range 11).map (fun iq => (ro iq, .inl (G 0, 10, .inl (u9 iq))))) : va_W) ++ []))) H → va_D A (([(h0, .inr (10, [.ref rd, .ref wy, .ref tr, .ref im, .ref kp, .ref od, .ref ch, .ref cr, .ref le, .ref mk, .ref tl, .ref sh, .int tf, .int rf])), (tl, .inr (8, [.int u7, .ref ti, .ref to])), (ti, .inl (G 4, 11, .inr (.inr (.inr (.inr (fun ir => if ir < 11 then some (ri ir) else none)))))), (to, .inl (G 4, 11, .inr (.inr (.inr (.inr (fun ir => if ir < 11 then some (ro ir) else none)))))), (wy, .inr (9, [.int (nI N), .int (nI B), .int (nI D), .ref a1, .ref a2, .ref a3, .ref a4, .ref a5, .ref a6])), (a1, .inl (G 0, 10, .inl f1)), (a2, .inl (G 0, 10, .inl f2)), (a3, .inl (G 0, 10, .inl f3)), (a4, .inl (G 0, 6, .inl f4)), (a5, .inl (G 0, 6, .inl f5)), (a6, .inl (G 0, 6, .inl f6)), (mk, .inr (3, [.int (nI S), .ref m1, .ref m2])), (m1, .inl (G 0, 6, .inl z1)), (m2, .inl (G 0, 6, .inl z2))] : va_W) ++ ((((List.range 11).map (fun iq => (ri iq, .inl (G 0, 10, .inl (u8 iq))))) : va_W) ++ ((((List.range 11).map (fun iq => (ro iq, .inl (G 0, 10, .inl (u9 iq))))) : va_W) ++ []))) → va_S A s.heap H locs → ∀ (ls : Array Slot), lv_has ls 4 [(3, .int (nI j10)), (2, .int y11), (0, .ref h0), (1, .int d)] → W p l e (headSpec (Cond.code yX10_eye cX10_eye 4 (some .int) :: GT) ({ frames := 5, cells := 0, slots := 0, locals := 111 } : Room)).room s m ([.ref h0, .int d] : List Value).toArray below meth c H locs 0 0 (MQ below (va_Qi (fun (r : Int32) (u : Int32 × (Nat → Nat → Int32) × (Nat → Nat → Int32)) => match u with | (u0, u1, u2) => (True) ∧ True) (fun (u : Int32 × (Nat → Nat → Int32) × (Nat → Nat → Int32)) (t : State) => match u with | (u0, u1, u2) => va_P (dC, dI) vwCl (([(h0, .inr (10, [.ref rd, .ref wy, .ref tr, .ref im, .ref kp, .ref od, .ref ch, .ref cr, .ref le, .ref mk, .ref tl, .ref sh, .int tf, .int rf])), (tl, .inr (8, [.int u0, .ref ti, .ref to])), (ti, .inl (G 4, 11, .inr (.inr (.inr (.inr (fun ir => if ir < 11 then some (ri ir) else none)))))), (to, .inl (G 4, 11, .inr (.inr (.inr (.inr (fun ir => if ir < 11 then some (ro ir) else none)))))), (wy, .inr (9, [.int (nI N), .int (nI B), .int (nI D), .ref a1, .ref a2, .ref a3, .ref a4, .ref a5, .ref a6])), (a1, .inl (G 0, 10, .inl f1)), (a2, .inl (G 0, 10, .inl f2)), (a3, .inl (G 0, 10, .inl f3)), (a4, .inl (G 0, 6, .inl f4)), (a5, .inl (G 0, 6, .inl f5)), (a6, .inl (G 0, 6, .inl f6)), (mk, .inr (3, [.int (nI S), .ref m1, .ref m2])), (m1, .inl (G 0, 6, .inl z1)), (m2, .inl (G 0, 6, .inl z2))] : va_W) ++ ((((List.range 11).map (fun iq => (ri iq, .inl (G 0, 10, .inl (u1 iq))))) : va_W) ++ ((((List.range 11).map (fun iq => (ro iq, .inl (G 0, 10, .inl (u2 iq))))) : va_W) ++ []))) t.heap ∧ va_D A (([(h0, .inr (10, [.ref rd, .ref wy, .ref tr, .ref im, .ref kp, .ref od, .ref ch, .ref cr, .ref le, .ref mk, .ref tl, .ref sh, .int tf, .int rf])), (tl, .inr (8, [.int u0, .ref ti, .ref to])), (ti, .inl (G 4, 11, .inr (.inr (.inr (.inr (fun ir => if ir < 11 then some (ri ir) else none)))))), (to, .inl (G 4, 11, .inr (.inr (.inr (.inr (fun ir => if ir < 11 then some (ro ir) else none)))))), (wy, .inr (9, [.int (nI N), .int (nI B), .int (nI D), .ref a1, .ref a2, .ref a3, .ref a4, .ref a5, .ref a6])), (a1, .inl (G 0, 10, .inl f1)), (a2, .inl (G 0, 10, .inl f2)), (a3, .inl (G 0, 10, .inl f3)), (a4, .inl (G 0, 6, .inl f4)), (a5, .inl (G 0, 6, .inl f5)), (a6, .inl (G 0, 6, .inl f6)), (mk, .inr (3, [.int (nI S), .ref m1, .ref m2])), (m1, .inl (G 0, 6, .inl z1)), (m2, .inl (G 0, 6, .inl z2))] : va_W) ++ ((((List.range 11).map (fun iq => (ri iq, .inl (G 0, 10, .inl (u1 iq))))) : va_W) ++ ((((List.range 11).map (fun iq => (ro iq, .inl (G 0, 10, .inl (u2 iq))))) : va_W) ++ [])))) A) ([.ref h0, .int d] : List Value).toArray s 0 0 A) (F0 m 28 ls []) := by
      intro nf
      induction nf with
      | zero => intro j10 h1 h2; exact absurd h1 (by omega)
      | succ nf ih28_12 =>
        intro j10 hn13 hj14 y11 H locs hP hD hS ls hl
        refine lv_iload_n hx hb dX10_eye_28 rfl (lv_at hl 0 rfl) ?_
        refine lv_aload_n hx hb dX10_eye_29 rfl (lv_at hl 2 rfl) ?_
        refine va_get (D := (dC, dI)) (ci := 10) (v := .ref wy) (C := RX10) (T := TX10) (N := 14) hx hb hg inG10 hown hK.1 hP 0 rfl rfl 1 (Nat.le_of_ble_eq_true rfl) (hg _ wt_303) (fun _ h9 => h9) rfl dX10_eye_30 ?_
        refine va_getN (D := (dC, dI)) (ci := 9) (v := .int (nI N)) (C := RX9) (T := TX9) (N := 9) hx hb hg inG9 hown hK.1 hP 4 rfl rfl 0 (Nat.le_of_ble_eq_true rfl) (hK.nest wn_60) (fun _ h9 => h9) rfl dX10_eye_33 ?_
        refine lv_icmp_ge (tgt := 63) hx hb dX10_eye_36 rfl (fun c15 => ?_) (fun c15 => ?_)
        · skip
          have tn223_ : nIT j10 := fun _ => nI_toInt (by first | omega | (have t := leI c15; omega))
          have n16 : N ≤ j10 := by have t := leI c15; rw [show (nI (j10)).toInt = ((j10 : Nat) : Int) from tn223_ ()] at t; rw [show (nI (N)).toInt = ((N : Nat) : Int) from tn219_ ()] at t; omega
          refine lv_iload_n hx hb dX10_eye_63 rfl (lv_at hl 1 rfl) ?_
          have hpost : True := by
            trivial
          obtain ⟨hP9, hD9⟩ := va_sub2 (ws' := (([(h0, .inr (10, [.ref rd, .ref wy, .ref tr, .ref im, .ref kp, .ref od, .ref ch, .ref cr, .ref le, .ref mk, .ref tl, .ref sh, .int tf, .int rf])), (tl, .inr (8, [.int u7, .ref ti, .ref to])), (ti, .inl (G 4, 11, .inr (.inr (.inr (.inr (fun ir => if ir < 11 then some (ri ir) else none)))))), (to, .inl (G 4, 11, .inr (.inr (.inr (.inr (fun ir => if ir < 11 then some (ro ir) else none)))))), (wy, .inr (9, [.int (nI N), .int (nI B), .int (nI D), .ref a1, .ref a2, .ref a3, .ref a4, .ref a5, .ref a6])), (a1, .inl (G 0, 10, .inl f1)), (a2, .inl (G 0, 10, .inl f2)), (a3, .inl (G 0, 10, .inl f3)), (a4, .inl (G 0, 6, .inl f4)), (a5, .inl (G 0, 6, .inl f5)), (a6, .inl (G 0, 6, .inl f6)), (mk, .inr (3, [.int (nI S), .ref m1, .ref m2])), (m1, .inl (G 0, 6, .inl z1)), (m2, .inl (G 0, 6, .inl z2))] : va_W) ++ ((((List.range 11).map (fun iq => (ri iq, .inl (G 0, 10, .inl (u8 iq))))) : va_W) ++ ((((List.range 11).map (fun iq => (ro iq, .inl (G 0, 10, .inl (u9 iq))))) : va_W) ++ [])))) hP hD [0, 1, 2, 3, 4, 5, 6, 7, 8, 9, 10, 11, 12, 13, 14, 15, 16, 17, 18, 19, 20, 21, 22, 23, 24, 25, 26, 27, 28, 29, 30, 31, 32, 33, 34, 35] (by decide +kernel) rfl
          refine W.widen (k := 0) (n := 0) (Nat.le_of_ble_eq_true rfl) (Nat.le_of_ble_eq_true rfl) ?_
          exact W.iret (v := y11) hx hb hr (fun t ht hW => ⟨⟨y11, (u7, u8, u9), rfl, ⟨hpost, trivial⟩, ⟨by rw [ht]; exact hP9, hD9⟩⟩, hS.F ht⟩) hS.2.2 dX10_eye_64
        · skip
          have tn224_ : nIT j10 := fun _ => nI_toInt (by first | omega | (have t := nleI c15; omega))
          have n17 : j10 < N := by have t := nleI c15; rw [show (nI (j10)).toInt = ((j10 : Nat) : Int) from tn224_ ()] at t; rw [show (nI (N)).toInt = ((N : Nat) : Int) from tn219_ ()] at t; omega
          refine lv_aload_n hx hb dX10_eye_39 rfl (lv_at hl 2 rfl) ?_
          refine va_get (D := (dC, dI)) (ci := 10) (v := .ref tl) (C := RX10) (T := TX10) (N := 14) hx hb hg inG10 hown hK.1 hP 0 rfl rfl 10 (Nat.le_of_ble_eq_true rfl) (hg _ wt_312) (fun _ h9 => h9) rfl dX10_eye_40 ?_
          refine lv_iload_n hx hb dX10_eye_43 rfl (lv_at hl 0 rfl) ?_
          refine lv_iload_n hx hb dX10_eye_44 rfl (lv_at hl 3 rfl) ?_
          have hPc := hP.sub (ws' := (([(tl, .inr (8, [.int u7, .ref ti, .ref to])), (ti, .inl (G 4, 11, .inr (.inr (.inr (.inr (fun ir => if ir < 11 then some (ri ir) else none)))))), (to, .inl (G 4, 11, .inr (.inr (.inr (.inr (fun ir => if ir < 11 then some (ro ir) else none))))))] : va_W) ++ ((((List.range 11).map (fun iq => (ri iq, .inl (G 0, 10, .inl (u8 iq))))) : va_W) ++ ((((List.range 11).map (fun iq => (ro iq, .inl (G 0, 10, .inl (u9 iq))))) : va_W) ++ [])))) [1, 2, 3, 14, 15, 16, 17, 18, 19, 20, 21, 22, 23, 24, 25, 26, 27, 28, 29, 30, 31, 32, 33, 34, 35] rfl
          refine va_calli (va_runVN (As := [.int (nI j10), .int d]) (rest := []) ⟨hx, hb, hml, hown, hg⟩ (c_X8_canBeBehind l dC dI G _ tl ti to j10 d u7 ri ro u8 u9 (by first | omega | (have t_b4 := b4; have t_hj14 := hj14; have t_n17 := n17; have tnb_ := nib5 tn219_ tn220_ tn221_ tn222_ tn224_; omega)) (by have t_b4 := b4; have t_hj14 := hj14; have t_n17 := n17; have tnb_ := nib5 tn219_ tn220_ tn221_ tn222_ tn224_; omega)) (kwVN hg hK mfX8_canBeBehind wn_792 ⟨Nat.le_of_ble_eq_true rfl, Nat.le_of_ble_eq_true rfl⟩) (preVR hK hPc (ci := 8) (r := (RX8, TX8, 3)) rfl rfl) rfl rfl hl.1 rfl (lv_room (Nat.le_of_ble_eq_true rfl)) dX10_eye_45 ⟨Nat.le_of_ble_eq_true rfl, Nat.le_of_ble_eq_true rfl⟩) hS (fun q h1 h2 => absurd h2 (Nat.not_le.mpr h1)) (fun q h => hA q (Nat.le_trans hS.1 h)) (fun r18 ur18 t H1 locs ht hvm w19 hB hz1 hk1 hS => ?_)
          have hP := keepR hP hk1
          obtain ⟨w19, w19x⟩ := w19
          have cut57_21 : ∀ (y20 : Int32) (H : Heap) (locs : List Loc), va_P (dC, dI) vwCl (([(h0, .inr (10, [.ref rd, .ref wy, .ref tr, .ref im, .ref kp, .ref od, .ref ch, .ref cr, .ref le, .ref mk, .ref tl, .ref sh, .int tf, .int rf])), (tl, .inr (8, [.int u7, .ref ti, .ref to])), (ti, .inl (G 4, 11, .inr (.inr (.inr (.inr (fun ir => if ir < 11 then some (ri ir) else none)))))), (to, .inl (G 4, 11, .inr (.inr (.inr (.inr (fun ir => if ir < 11 then some (ro ir) else none)))))), (wy, .inr (9, [.int (nI N), .int (nI B), .int (nI D), .ref a1, .ref a2, .ref a3, .ref a4, .ref a5, .ref a6])), (a1, .inl (G 0, 10, .inl f1)), (a2, .inl (G 0, 10, .inl f2)), (a3, .inl (G 0, 10, .inl f3)), (a4, .inl (G 0, 6, .inl f4)), (a5, .inl (G 0, 6, .inl f5)), (a6, .inl (G 0, 6, .inl f6)), (mk, .inr (3, [.int (nI S), .ref m1, .ref m2])), (m1, .inl (G 0, 6, .inl z1)), (m2, .inl (G 0, 6, .inl z2))] : va_W) ++ ((((List.range 11).map (fun iq => (ri iq, .inl (G 0, 10, .inl (u8 iq))))) : va_W) ++ ((((List.range 11).map (fun iq => (ro iq, .inl (G 0, 10, .inl (u9 iq))))) : va_W) ++ []))) H → va_D A (([(h0, .inr (10, [.ref rd, .ref wy, .ref tr, .ref im, .ref kp, .ref od, .ref ch, .ref cr, .ref le, .ref mk, .ref tl, .ref sh, .int tf, .int rf])), (tl, .inr (8, [.int u7, .ref ti, .ref to])), (ti, .inl (G 4, 11, .inr (.inr (.inr (.inr (fun ir => if ir < 11 then some (ri ir) else none)))))), (to, .inl (G 4, 11, .inr (.inr (.inr (.inr (fun ir => if ir < 11 then some (ro ir) else none)))))), (wy, .inr (9, [.int (nI N), .int (nI B), .int (nI D), .ref a1, .ref a2, .ref a3, .ref a4, .ref a5, .ref a6])), (a1, .inl (G 0, 10, .inl f1)), (a2, .inl (G 0, 10, .inl f2)), (a3, .inl (G 0, 10, .inl f3)), (a4, .inl (G 0, 6, .inl f4)), (a5, .inl (G 0, 6, .inl f5)), (a6, .inl (G 0, 6, .inl f6)), (mk, .inr (3, [.int (nI S), .ref m1, .ref m2])), (m1, .inl (G 0, 6, .inl z1)), (m2, .inl (G 0, 6, .inl z2))] : va_W) ++ ((((List.range 11).map (fun iq => (ri iq, .inl (G 0, 10, .inl (u8 iq))))) : va_W) ++ ((((List.range 11).map (fun iq => (ro iq, .inl (G 0, 10, .inl (u9 iq))))) : va_W) ++ []))) → va_S A s.heap H locs → ∀ (ls : Array Slot), lv_has ls 4 [(3, .int (nI j10)), (2, .int y20), (0, .ref h0), (1, .int d)] → W p l e (headSpec (Cond.code yX10_eye cX10_eye 4 (some .int) :: GT) ({ frames := 5, cells := 0, slots := 0, locals := 111 } : Room)).room s m ([.ref h0, .int d] : List Value).toArray below meth c H locs 0 0 (MQ below (va_Qi (fun (r : Int32) (u : Int32 × (Nat → Nat → Int32) × (Nat → Nat → Int32)) => match u with | (u0, u1, u2) => (True) ∧ True) (fun (u : Int32 × (Nat → Nat → Int32) × (Nat → Nat → Int32)) (t : State) => match u with | (u0, u1, u2) => va_P (dC, dI) vwCl (([(h0, .inr (10, [.ref rd, .ref wy, .ref tr, .ref im, .ref kp, .ref od, .ref ch, .ref cr, .ref le, .ref mk, .ref tl, .ref sh, .int tf, .int rf])), (tl, .inr (8, [.int u0, .ref ti, .ref to])), (ti, .inl (G 4, 11, .inr (.inr (.inr (.inr (fun ir => if ir < 11 then some (ri ir) else none)))))), (to, .inl (G 4, 11, .inr (.inr (.inr (.inr (fun ir => if ir < 11 then some (ro ir) else none)))))), (wy, .inr (9, [.int (nI N), .int (nI B), .int (nI D), .ref a1, .ref a2, .ref a3, .ref a4, .ref a5, .ref a6])), (a1, .inl (G 0, 10, .inl f1)), (a2, .inl (G 0, 10, .inl f2)), (a3, .inl (G 0, 10, .inl f3)), (a4, .inl (G 0, 6, .inl f4)), (a5, .inl (G 0, 6, .inl f5)), (a6, .inl (G 0, 6, .inl f6)), (mk, .inr (3, [.int (nI S), .ref m1, .ref m2])), (m1, .inl (G 0, 6, .inl z1)), (m2, .inl (G 0, 6, .inl z2))] : va_W) ++ ((((List.range 11).map (fun iq => (ri iq, .inl (G 0, 10, .inl (u1 iq))))) : va_W) ++ ((((List.range 11).map (fun iq => (ro iq, .inl (G 0, 10, .inl (u2 iq))))) : va_W) ++ []))) t.heap ∧ va_D A (([(h0, .inr (10, [.ref rd, .ref wy, .ref tr, .ref im, .ref kp, .ref od, .ref ch, .ref cr, .ref le, .ref mk, .ref tl, .ref sh, .int tf, .int rf])), (tl, .inr (8, [.int u0, .ref ti, .ref to])), (ti, .inl (G 4, 11, .inr (.inr (.inr (.inr (fun ir => if ir < 11 then some (ri ir) else none)))))), (to, .inl (G 4, 11, .inr (.inr (.inr (.inr (fun ir => if ir < 11 then some (ro ir) else none)))))), (wy, .inr (9, [.int (nI N), .int (nI B), .int (nI D), .ref a1, .ref a2, .ref a3, .ref a4, .ref a5, .ref a6])), (a1, .inl (G 0, 10, .inl f1)), (a2, .inl (G 0, 10, .inl f2)), (a3, .inl (G 0, 10, .inl f3)), (a4, .inl (G 0, 6, .inl f4)), (a5, .inl (G 0, 6, .inl f5)), (a6, .inl (G 0, 6, .inl f6)), (mk, .inr (3, [.int (nI S), .ref m1, .ref m2])), (m1, .inl (G 0, 6, .inl z1)), (m2, .inl (G 0, 6, .inl z2))] : va_W) ++ ((((List.range 11).map (fun iq => (ri iq, .inl (G 0, 10, .inl (u1 iq))))) : va_W) ++ ((((List.range 11).map (fun iq => (ro iq, .inl (G 0, 10, .inl (u2 iq))))) : va_W) ++ [])))) A) ([.ref h0, .int d] : List Value).toArray s 0 0 A) (F0 m 57 ls []) := by
            intro y20 H locs hP hD hS ls hl
            refine lv_iinc (v := nI (j10 + 1)) (lv' := [(3, .int (nI (j10 + 1))), (2, .int y20), (0, .ref h0), (1, .int d)]) hx hb dX10_eye_57 hl (k := 0) rfl (by rw [show Int32.ofInt 1 = nI 1 from by decide]; exact nI_add _ _) (by decide) rfl (fun ls hl => ?_)
            refine lv_goto (tgt := 28) hx hb dX10_eye_60 rfl ?_
            exact ih28_12 (j10 + 1) (by omega) (by omega) y20 _ _ hP hD hS ls (lv_sub hl [0, 1, 2, 3] rfl)
          refine lv_if_eq (tgt := 57) hx hb dX10_eye_48 rfl (fun c22 => ?_) (fun c22 => ?_)
          · skip
            exact cut57_21 y11 _ _ hP hD hS ls (lv_sub hl [0, 1, 2, 3] rfl)
          · skip
            refine lv_iload_n hx hb dX10_eye_51 rfl (lv_at hl 1 rfl) ?_
            refine lv_iconst (v := 1) hx hb dX10_eye_52 rfl ?_
            refine lv_iload_n hx hb dX10_eye_53 rfl (lv_at hl 0 rfl) ?_
            refine lv_ishl hx hb dX10_eye_54 ?_
            refine lv_ior hx hb dX10_eye_55 ?_
            refine lv_topi (fun v23 ev23 => ?_)
            refine lv_istore_n (lv' := [(2, .int v23), (3, .int (nI j10)), (0, .ref h0), (1, .int d)]) hx hb dX10_eye_56 rfl hl (by decide) rfl (fun ls hl => ?_)
            exact cut57_21 v23 _ _ hP hD hS ls (lv_sub hl [1, 0, 2, 3] rfl)
    exact loop28_12 (N + 1) 0 (by omega) (by omega) 0 _ _ hP hD hS ls (lv_sub hl [0, 1, 2, 3] rfl)
  · skip
    have b24 := if10_n c3
    refine lv_iconst (v := (-1)) hx hb dX10_eye_7 rfl ?_
    have hpost : True := by
      trivial
    obtain ⟨hP9, hD9⟩ := va_sub2 (ws' := (([(h0, .inr (10, [.ref rd, .ref wy, .ref tr, .ref im, .ref kp, .ref od, .ref ch, .ref cr, .ref le, .ref mk, .ref tl, .ref sh, .int tf, .int rf])), (tl, .inr (8, [.int tt, .ref ti, .ref to])), (ti, .inl (G 4, 11, .inr (.inr (.inr (.inr (fun ir => if ir < 11 then some (ri ir) else none)))))), (to, .inl (G 4, 11, .inr (.inr (.inr (.inr (fun ir => if ir < 11 then some (ro ir) else none)))))), (wy, .inr (9, [.int (nI N), .int (nI B), .int (nI D), .ref a1, .ref a2, .ref a3, .ref a4, .ref a5, .ref a6])), (a1, .inl (G 0, 10, .inl f1)), (a2, .inl (G 0, 10, .inl f2)), (a3, .inl (G 0, 10, .inl f3)), (a4, .inl (G 0, 6, .inl f4)), (a5, .inl (G 0, 6, .inl f5)), (a6, .inl (G 0, 6, .inl f6)), (mk, .inr (3, [.int (nI S), .ref m1, .ref m2])), (m1, .inl (G 0, 6, .inl z1)), (m2, .inl (G 0, 6, .inl z2))] : va_W) ++ ((((List.range 11).map (fun iq => (ri iq, .inl (G 0, 10, .inl (F iq))))) : va_W) ++ ((((List.range 11).map (fun iq => (ro iq, .inl (G 0, 10, .inl (E iq))))) : va_W) ++ [])))) hP hD [0, 1, 2, 3, 4, 5, 6, 7, 8, 9, 10, 11, 12, 13, 14, 15, 16, 17, 18, 19, 20, 21, 22, 23, 24, 25, 26, 27, 28, 29, 30, 31, 32, 33, 34, 35] (by decide +kernel) rfl
    refine W.widen (k := 0) (n := 0) (Nat.le_of_ble_eq_true rfl) (Nat.le_of_ble_eq_true rfl) ?_
    exact W.iret (v := (-1)) hx hb hr (fun t ht hW => ⟨⟨(-1), (tt, F, E), rfl, ⟨hpost, trivial⟩, ⟨by rw [ht]; exact hP9, hD9⟩⟩, hS.F ht⟩) hS.2.2 dX10_eye_8

set_option maxHeartbeats 1000000 in
set_option maxRecDepth 100000 in
theorem c_X10_sure (l : Launch) (dC : Nat → ClassId) (dI : Nat → Nat → Nat) (G : Nat → ClassId) (sz : Nat) (h0 rd wy tr im kp od ch cr le mk tl sh ti to a1 a2 a3 a4 a5 a6 N B D m1 m2 S : Nat) (tf rf what tt : Int32) (f1 f2 f3 f4 f5 f6 z1 z2 : Nat → Int32) (ri ro : Nat → Nat) (F E : Nat → Nat → Int32) (hN_N : N ≤ 10) (hB_B : B ≤ 6) (hD_D : 1 ≤ D ∧ D ≤ 9) (hS0 : S ≤ 6) : Met l yX10_sure (Cond.code yX10_sure cX10_sure 5 (some .int) :: GT) ({ frames := 5, cells := 0, slots := 0, locals := 112 } : Room) (PcW [.ref h0, .int what] dC dI G (([(h0, .inr (10, [.ref rd, .ref wy, .ref tr, .ref im, .ref kp, .ref od, .ref ch, .ref cr, .ref le, .ref mk, .ref tl, .ref sh, .int tf, .int rf])), (tl, .inr (8, [.int tt, .ref ti, .ref to])), (ti, .inl (G 4, 11, .inr (.inr (.inr (.inr (fun ir => if ir < 11 then some (ri ir) else none)))))), (to, .inl (G 4, 11, .inr (.inr (.inr (.inr (fun ir => if ir < 11 then some (ro ir) else none)))))), (wy, .inr (9, [.int (nI N), .int (nI B), .int (nI D), .ref a1, .ref a2, .ref a3, .ref a4, .ref a5, .ref a6])), (a1, .inl (G 0, 10, .inl f1)), (a2, .inl (G 0, 10, .inl f2)), (a3, .inl (G 0, 10, .inl f3)), (a4, .inl (G 0, 6, .inl f4)), (a5, .inl (G 0, 6, .inl f5)), (a6, .inl (G 0, 6, .inl f6)), (mk, .inr (3, [.int (nI S), .ref m1, .ref m2])), (m1, .inl (G 0, 6, .inl z1)), (m2, .inl (G 0, 6, .inl z2))] : va_W) ++ ((((List.range 11).map (fun iq => (ri iq, .inl (G 0, 10, .inl (F iq))))) : va_W) ++ ((((List.range 11).map (fun iq => (ro iq, .inl (G 0, 10, .inl (E iq))))) : va_W) ++ []))) sz) (va_Qi (fun (r : Int32) (u : Int32 × (Nat → Nat → Int32) × (Nat → Nat → Int32)) => match u with | (u0, u1, u2) => (True) ∧ True) (fun (u : Int32 × (Nat → Nat → Int32) × (Nat → Nat → Int32)) (t : State) => match u with | (u0, u1, u2) => va_P (dC, dI) vwCl (([(h0, .inr (10, [.ref rd, .ref wy, .ref tr, .ref im, .ref kp, .ref od, .ref ch, .ref cr, .ref le, .ref mk, .ref tl, .ref sh, .int tf, .int rf])), (tl, .inr (8, [.int u0, .ref ti, .ref to])), (ti, .inl (G 4, 11, .inr (.inr (.inr (.inr (fun ir => if ir < 11 then some (ri ir) else none)))))), (to, .inl (G 4, 11, .inr (.inr (.inr (.inr (fun ir => if ir < 11 then some (ro ir) else none)))))), (wy, .inr (9, [.int (nI N), .int (nI B), .int (nI D), .ref a1, .ref a2, .ref a3, .ref a4, .ref a5, .ref a6])), (a1, .inl (G 0, 10, .inl f1)), (a2, .inl (G 0, 10, .inl f2)), (a3, .inl (G 0, 10, .inl f3)), (a4, .inl (G 0, 6, .inl f4)), (a5, .inl (G 0, 6, .inl f5)), (a6, .inl (G 0, 6, .inl f6)), (mk, .inr (3, [.int (nI S), .ref m1, .ref m2])), (m1, .inl (G 0, 6, .inl z1)), (m2, .inl (G 0, 6, .inl z2))] : va_W) ++ ((((List.range 11).map (fun iq => (ri iq, .inl (G 0, 10, .inl (u1 iq))))) : va_W) ++ ((((List.range 11).map (fun iq => (ro iq, .inl (G 0, 10, .inl (u2 iq))))) : va_W) ++ []))) t.heap ∧ va_D (va_A (([(h0, .inr (10, [.ref rd, .ref wy, .ref tr, .ref im, .ref kp, .ref od, .ref ch, .ref cr, .ref le, .ref mk, .ref tl, .ref sh, .int tf, .int rf])), (tl, .inr (8, [.int tt, .ref ti, .ref to])), (ti, .inl (G 4, 11, .inr (.inr (.inr (.inr (fun ir => if ir < 11 then some (ri ir) else none)))))), (to, .inl (G 4, 11, .inr (.inr (.inr (.inr (fun ir => if ir < 11 then some (ro ir) else none)))))), (wy, .inr (9, [.int (nI N), .int (nI B), .int (nI D), .ref a1, .ref a2, .ref a3, .ref a4, .ref a5, .ref a6])), (a1, .inl (G 0, 10, .inl f1)), (a2, .inl (G 0, 10, .inl f2)), (a3, .inl (G 0, 10, .inl f3)), (a4, .inl (G 0, 6, .inl f4)), (a5, .inl (G 0, 6, .inl f5)), (a6, .inl (G 0, 6, .inl f6)), (mk, .inr (3, [.int (nI S), .ref m1, .ref m2])), (m1, .inl (G 0, 6, .inl z1)), (m2, .inl (G 0, 6, .inl z2))] : va_W) ++ ((((List.range 11).map (fun iq => (ri iq, .inl (G 0, 10, .inl (F iq))))) : va_W) ++ ((((List.range 11).map (fun iq => (ro iq, .inl (G 0, 10, .inl (E iq))))) : va_W) ++ []))) sz) (([(h0, .inr (10, [.ref rd, .ref wy, .ref tr, .ref im, .ref kp, .ref od, .ref ch, .ref cr, .ref le, .ref mk, .ref tl, .ref sh, .int tf, .int rf])), (tl, .inr (8, [.int u0, .ref ti, .ref to])), (ti, .inl (G 4, 11, .inr (.inr (.inr (.inr (fun ir => if ir < 11 then some (ri ir) else none)))))), (to, .inl (G 4, 11, .inr (.inr (.inr (.inr (fun ir => if ir < 11 then some (ro ir) else none)))))), (wy, .inr (9, [.int (nI N), .int (nI B), .int (nI D), .ref a1, .ref a2, .ref a3, .ref a4, .ref a5, .ref a6])), (a1, .inl (G 0, 10, .inl f1)), (a2, .inl (G 0, 10, .inl f2)), (a3, .inl (G 0, 10, .inl f3)), (a4, .inl (G 0, 6, .inl f4)), (a5, .inl (G 0, 6, .inl f5)), (a6, .inl (G 0, 6, .inl f6)), (mk, .inr (3, [.int (nI S), .ref m1, .ref m2])), (m1, .inl (G 0, 6, .inl z1)), (m2, .inl (G 0, 6, .inl z2))] : va_W) ++ ((((List.range 11).map (fun iq => (ri iq, .inl (G 0, 10, .inl (u1 iq))))) : va_W) ++ ((((List.range 11).map (fun iq => (ro iq, .inl (G 0, 10, .inl (u2 iq))))) : va_W) ++ [])))) (va_A (([(h0, .inr (10, [.ref rd, .ref wy, .ref tr, .ref im, .ref kp, .ref od, .ref ch, .ref cr, .ref le, .ref mk, .ref tl, .ref sh, .int tf, .int rf])), (tl, .inr (8, [.int tt, .ref ti, .ref to])), (ti, .inl (G 4, 11, .inr (.inr (.inr (.inr (fun ir => if ir < 11 then some (ri ir) else none)))))), (to, .inl (G 4, 11, .inr (.inr (.inr (.inr (fun ir => if ir < 11 then some (ro ir) else none)))))), (wy, .inr (9, [.int (nI N), .int (nI B), .int (nI D), .ref a1, .ref a2, .ref a3, .ref a4, .ref a5, .ref a6])), (a1, .inl (G 0, 10, .inl f1)), (a2, .inl (G 0, 10, .inl f2)), (a3, .inl (G 0, 10, .inl f3)), (a4, .inl (G 0, 6, .inl f4)), (a5, .inl (G 0, 6, .inl f5)), (a6, .inl (G 0, 6, .inl f6)), (mk, .inr (3, [.int (nI S), .ref m1, .ref m2])), (m1, .inl (G 0, 6, .inl z1)), (m2, .inl (G 0, 6, .inl z2))] : va_W) ++ ((((List.range 11).map (fun iq => (ri iq, .inl (G 0, 10, .inl (F iq))))) : va_W) ++ ((((List.range 11).map (fun iq => (ro iq, .inl (G 0, 10, .inl (E iq))))) : va_W) ++ []))) sz)) 0 0 (va_A (([(h0, .inr (10, [.ref rd, .ref wy, .ref tr, .ref im, .ref kp, .ref od, .ref ch, .ref cr, .ref le, .ref mk, .ref tl, .ref sh, .int tf, .int rf])), (tl, .inr (8, [.int tt, .ref ti, .ref to])), (ti, .inl (G 4, 11, .inr (.inr (.inr (.inr (fun ir => if ir < 11 then some (ri ir) else none)))))), (to, .inl (G 4, 11, .inr (.inr (.inr (.inr (fun ir => if ir < 11 then some (ro ir) else none)))))), (wy, .inr (9, [.int (nI N), .int (nI B), .int (nI D), .ref a1, .ref a2, .ref a3, .ref a4, .ref a5, .ref a6])), (a1, .inl (G 0, 10, .inl f1)), (a2, .inl (G 0, 10, .inl f2)), (a3, .inl (G 0, 10, .inl f3)), (a4, .inl (G 0, 6, .inl f4)), (a5, .inl (G 0, 6, .inl f5)), (a6, .inl (G 0, 6, .inl f6)), (mk, .inr (3, [.int (nI S), .ref m1, .ref m2])), (m1, .inl (G 0, 6, .inl z1)), (m2, .inl (G 0, 6, .inl z2))] : va_W) ++ ((((List.range 11).map (fun iq => (ri iq, .inl (G 0, 10, .inl (F iq))))) : va_W) ++ ((((List.range 11).map (fun iq => (ro iq, .inl (G 0, 10, .inl (E iq))))) : va_W) ++ []))) sz) := by
  have tn225_ : nIT N := fun _ => nI_toInt (by omega)
  have tn226_ : nIT B := fun _ => nI_toInt (by omega)
  have tn227_ : nIT D := fun _ => nI_toInt (by omega)
  have tn228_ : nIT S := fun _ => nI_toInt (by omega)
  refine Met.ofW (cc := cX10_sure) (maxL := 5) (ret := (some .int)) (by decide) rfl ?_
  intro p e s m args below meth c s₁ Bd hml hv
  obtain ⟨rfl, hsz, hP, hK, hD0⟩ := hv
  have hx := Bd.exec
  have hb := Bd.bytes
  have hr := Bd.returns
  have hg : ∀ w ∈ GT, w.before ([.ref h0, .int what] : List Value).toArray s = true := fun w h => atoms_spec (ws := Cond.code yX10_sure cX10_sure 5 (some .int) :: GT) Bd.pre w (List.mem_cons_of_mem _ h)
  have hown : s.vm.findClass RX10 = some m.cls := findClass_of_methodNamed Bd.named
  have hlocks := Bd.notSynchronized
  subst hsz
  have hD := hD0.self (sz := s.heap.size)
  generalize hAe : va_A (([(h0, .inr (10, [.ref rd, .ref wy, .ref tr, .ref im, .ref kp, .ref od, .ref ch, .ref cr, .ref le, .ref mk, .ref tl, .ref sh, .int tf, .int rf])), (tl, .inr (8, [.int tt, .ref ti, .ref to])), (ti, .inl (G 4, 11, .inr (.inr (.inr (.inr (fun ir => if ir < 11 then some (ri ir) else none)))))), (to, .inl (G 4, 11, .inr (.inr (.inr (.inr (fun ir => if ir < 11 then some (ro ir) else none)))))), (wy, .inr (9, [.int (nI N), .int (nI B), .int (nI D), .ref a1, .ref a2, .ref a3, .ref a4, .ref a5, .ref a6])), (a1, .inl (G 0, 10, .inl f1)), (a2, .inl (G 0, 10, .inl f2)), (a3, .inl (G 0, 10, .inl f3)), (a4, .inl (G 0, 6, .inl f4)), (a5, .inl (G 0, 6, .inl f5)), (a6, .inl (G 0, 6, .inl f6)), (mk, .inr (3, [.int (nI S), .ref m1, .ref m2])), (m1, .inl (G 0, 6, .inl z1)), (m2, .inl (G 0, 6, .inl z2))] : va_W) ++ ((((List.range 11).map (fun iq => (ri iq, .inl (G 0, 10, .inl (F iq))))) : va_W) ++ ((((List.range 11).map (fun iq => (ro iq, .inl (G 0, 10, .inl (E iq))))) : va_W) ++ []))) s.heap.size = A at hD ⊢
  have hA : ∀ q : Nat, s.heap.size ≤ q → A q := fun q h => by rw [← hAe]; exact Or.inr h
  have hS : va_S A s.heap s.heap [] := va_S.rf
  have hl := lv_entry ([.ref h0, .int what]) (n := 5) (Nat.le_of_ble_eq_true rfl)
  rw [lg_entry_eq]
  generalize (lg_sl ([.ref h0, .int what]) ++ List.replicate (5 - (lg_sl ([.ref h0, .int what])).length) Slot.unset).toArray = ls at hl ⊢
  have hl : lv_has ls 5 [(0, .ref h0), (1, .int what)] := hl
  refine lv_iload_n hx hb dX10_sure_0 rfl (lv_at hl 1 rfl) ?_
  have hPc := hP.sub (ws' := []) [] rfl
  refine va_calli (va_runS (As := [.int what]) (rest := []) ⟨hx, hb, hml, hown, hg⟩ (c_X10_isFractionPart l dC dI G _ what) (kwS hg mfX10_isFractionPart wt_604 ⟨Nat.le_of_ble_eq_true rfl, Nat.le_of_ble_eq_true rfl⟩) (preSR hK hPc) rfl rfl hl.1 rfl (lv_room (Nat.le_of_ble_eq_true rfl)) dX10_sure_1 ⟨Nat.le_of_ble_eq_true rfl, Nat.le_of_ble_eq_true rfl⟩) hS (fun q h1 h2 => absurd h2 (Nat.not_le.mpr h1)) (fun q h => hA q (Nat.le_trans hS.1 h)) (fun r1 ur1 t H1 locs ht hvm w2 hB hz1 hk1 hS => ?_)
  have hP := keepR hP hk1
  obtain ⟨w2, w2x⟩ := w2
  try simp only [l_ii, show (0 : Int32).toInt = 0 from by decide, show (1 : Int32).toInt = 1 from by decide] at w2
  subst w2
  refine lv_if_ne (tgt := 9) hx hb dX10_sure_4 rfl (fun c3 => ?_) (fun c3 => ?_)
  · skip
    have b4 := if10_p c3
    refine lv_aload_n hx hb dX10_sure_9 rfl (lv_at hl 0 rfl) ?_
    refine va_get (D := (dC, dI)) (ci := 10) (v := .ref tl) (C := RX10) (T := TX10) (N := 14) hx hb hg inG10 hown hK.1 hP 0 rfl rfl 10 (Nat.le_of_ble_eq_true rfl) (hg _ wt_312) (fun _ h9 => h9) rfl dX10_sure_10 ?_
    refine lv_aload_n hx hb dX10_sure_13 rfl (lv_at hl 0 rfl) ?_
    refine va_get (D := (dC, dI)) (ci := 10) (v := .ref wy) (C := RX10) (T := TX10) (N := 14) hx hb hg inG10 hown hK.1 hP 0 rfl rfl 1 (Nat.le_of_ble_eq_true rfl) (hg _ wt_303) (fun _ h9 => h9) rfl dX10_sure_14 ?_
    refine lv_aload_n hx hb dX10_sure_17 rfl (lv_at hl 0 rfl) ?_
    refine va_get (D := (dC, dI)) (ci := 10) (v := .ref mk) (C := RX10) (T := TX10) (N := 14) hx hb hg inG10 hown hK.1 hP 0 rfl rfl 9 (Nat.le_of_ble_eq_true rfl) (hg _ wt_311) (fun _ h9 => h9) rfl dX10_sure_18 ?_
    obtain ⟨hPc, hDc, hFc⟩ := va_sub3 (ws' := (([(tl, .inr (8, [.int tt, .ref ti, .ref to])), (ti, .inl (G 4, 11, .inr (.inr (.inr (.inr (fun ir => if ir < 11 then some (ri ir) else none)))))), (to, .inl (G 4, 11, .inr (.inr (.inr (.inr (fun ir => if ir < 11 then some (ro ir) else none)))))), (wy, .inr (9, [.int (nI N), .int (nI B), .int (nI D), .ref a1, .ref a2, .ref a3, .ref a4, .ref a5, .ref a6])), (a1, .inl (G 0, 10, .inl f1)), (a2, .inl (G 0, 10, .inl f2)), (a3, .inl (G 0, 10, .inl f3)), (a4, .inl (G 0, 6, .inl f4)), (a5, .inl (G 0, 6, .inl f5)), (a6, .inl (G 0, 6, .inl f6)), (mk, .inr (3, [.int (nI S), .ref m1, .ref m2])), (m1, .inl (G 0, 6, .inl z1)), (m2, .inl (G 0, 6, .inl z2))] : va_W) ++ ((((List.range 11).map (fun iq => (ri iq, .inl (G 0, 10, .inl (F iq))))) : va_W) ++ ((((List.range 11).map (fun iq => (ro iq, .inl (G 0, 10, .inl (E iq))))) : va_W) ++ [])))) hP hD hS hA [1, 2, 3, 4, 5, 6, 7, 8, 9, 10, 11, 12, 13, 14, 15, 16, 17, 18, 19, 20, 21, 22, 23, 24, 25, 26, 27, 28, 29, 30, 31, 32, 33, 34, 35] (by decide +kernel) rfl
    refine va_callv (va_runVN (As := [.ref wy, .ref mk]) (rest := []) ⟨hx, hb, hml, hown, hg⟩ (c_X8_explore l dC dI G _ tl ti to wy a1 a2 a3 a4 a5 a6 N B D mk m1 m2 S tt f1 f2 f3 f4 f5 f6 z1 z2 ri ro F E hN_N hB_B hD_D hS0) (kwVN hg hK mfX8_explore wn_767 ⟨Nat.le_of_ble_eq_true rfl, Nat.le_of_ble_eq_true rfl⟩) (preVW hK hPc hDc (ci := 8) (r := (RX8, TX8, 3)) rfl rfl) rfl rfl hl.1 rfl (lv_room (Nat.le_of_ble_eq_true rfl)) dX10_sure_21 ⟨Nat.le_of_ble_eq_true rfl, Nat.le_of_ble_eq_true rfl⟩) hS (fun q _ h => hFc q h) hFc (fun ur5 t H1 locs ht hvm w6 hB hz1 hk1 hS => ?_)
    obtain ⟨u7, u8, u9⟩ := ur5
    obtain ⟨hP1, hD1⟩ := hB
    rw [ht] at hP1
    obtain ⟨hP, hD⟩ := va_join (wr := [(h0, .inr (10, [.ref rd, .ref wy, .ref tr, .ref im, .ref kp, .ref od, .ref ch, .ref cr, .ref le, .ref mk, .ref tl, .ref sh, .int tf, .int rf]))]) (w1 := (([(tl, .inr (8, [.int u7, .ref ti, .ref to])), (ti, .inl (G 4, 11, .inr (.inr (.inr (.inr (fun ir => if ir < 11 then some (ri ir) else none)))))), (to, .inl (G 4, 11, .inr (.inr (.inr (.inr (fun ir => if ir < 11 then some (ro ir) else none)))))), (wy, .inr (9, [.int (nI N), .int (nI B), .int (nI D), .ref a1, .ref a2, .ref a3, .ref a4, .ref a5, .ref a6])), (a1, .inl (G 0, 10, .inl f1)), (a2, .inl (G 0, 10, .inl f2)), (a3, .inl (G 0, 10, .inl f3)), (a4, .inl (G 0, 6, .inl f4)), (a5, .inl (G 0, 6, .inl f5)), (a6, .inl (G 0, 6, .inl f6)), (mk, .inr (3, [.int (nI S), .ref m1, .ref m2])), (m1, .inl (G 0, 6, .inl z1)), (m2, .inl (G 0, 6, .inl z2))] : va_W) ++ ((((List.range 11).map (fun iq => (ri iq, .inl (G 0, 10, .inl (u8 iq))))) : va_W) ++ ((((List.range 11).map (fun iq => (ro iq, .inl (G 0, 10, .inl (u9 iq))))) : va_W) ++ [])))) hP hD [1, 2, 3, 4, 5, 6, 7, 8, 9, 10, 11, 12, 13, 14, 15, 16, 17, 18, 19, 20, 21, 22, 23, 24, 25, 26, 27, 28, 29, 30, 31, 32, 33, 34, 35] [0] rfl rfl (by decide +kernel) (by decide +kernel) hk1 hFc hP1 hD1
    generalize H1 = H at hP hS ⊢
    refine lv_aload_n hx hb dX10_sure_24 rfl (lv_at hl 0 rfl) ?_
    refine va_get (D := (dC, dI)) (ci := 10) (v := .ref tl) (C := RX10) (T := TX10) (N := 14) hx hb hg inG10 hown hK.1 hP 0 rfl rfl 10 (Nat.le_of_ble_eq_true rfl) (hg _ wt_312) (fun _ h9 => h9) rfl dX10_sure_25 ?_
    refine va_getN (D := (dC, dI)) (ci := 8) (v := .int u7) (C := RX8) (T := TX8) (N := 3) hx hb hg inG8 hown hK.1 hP 1 rfl rfl 0 (Nat.le_of_ble_eq_true rfl) (hK.nest wn_259) (fun _ h9 => h9) rfl dX10_sure_28 ?_
    refine lv_if_ne (tgt := 37) hx hb dX10_sure_31 rfl (fun c10 => ?_) (fun c10 => ?_)
    · skip
      refine lv_iconst (v := 0) hx hb dX10_sure_37 rfl ?_
      refine lv_istore_n (lv' := [(2, .int 0), (0, .ref h0), (1, .int what)]) hx hb dX10_sure_38 rfl hl (by decide) rfl (fun ls hl => ?_)
      refine lv_iconst (v := 0) hx hb dX10_sure_39 rfl ?_
      refine lv_istore_n (lv' := [(3, .int 0), (2, .int 0), (0, .ref h0), (1, .int what)]) hx hb dX10_sure_40 rfl hl (by decide) rfl (fun ls hl => ?_)
      have loop41_13 : ∀ (nf j11 : Nat), N + 1 ≤ j11 + nf → j11 ≤ N → ∀ (y12 : Int32) (H : Heap) (locs : List Loc), va_P (dC, dI) vwCl (([(h0, .inr (10, [.ref rd, .ref wy, .ref tr, .ref im, .ref kp, .ref od, .ref ch, .ref cr, .ref le, .ref mk, .ref tl, .ref sh, .int tf, .int rf])), (tl, .inr (8, [.int u7, .ref ti, .ref to])), (ti, .inl (G 4, 11, .inr (.inr (.inr (.inr (fun ir => if ir < 11 then some (ri ir) else none)))))), (to, .inl (G 4, 11, .inr (.inr (.inr (.inr (fun ir => if ir < 11 then some (ro ir) else none)))))), (wy, .inr (9, [.int (nI N), .int (nI B), .int (nI D), .ref a1, .ref a2, .ref a3, .ref a4, .ref a5, .ref a6])), (a1, .inl (G 0, 10, .inl f1)), (a2, .inl (G 0, 10, .inl f2)), (a3, .inl (G 0, 10, .inl f3)), (a4, .inl (G 0, 6, .inl f4)), (a5, .inl (G 0, 6, .inl f5)), (a6, .inl (G 0, 6, .inl f6)), (mk, .inr (3, [.int (nI S), .ref m1, .ref m2])), (m1, .inl (G 0, 6, .inl z1)), (m2, .inl (G 0, 6, .inl z2))] : va_W) ++ ((((List.range 11).map (fun iq => (ri iq, .inl (G 0, 10, .inl (u8 iq))))) : va_W) ++ ((((List.range 11).map (fun iq => (ro iq, .inl (G 0, 10, .inl (u9 iq))))) : va_W) ++ []))) H → va_D A (([(h0, .inr (10, [.ref rd, .ref wy, .ref tr, .ref im, .ref kp, .ref od, .ref ch, .ref cr, .ref le, .ref mk, .ref tl, .ref sh, .int tf, .int rf])), (tl, .inr (8, [.int u7, .ref ti, .ref to])), (ti, .inl (G 4, 11, .inr (.inr (.inr (.inr (fun ir => if ir < 11 then some (ri ir) else none)))))), (to, .inl (G 4, 11, .inr (.inr (.inr (.inr (fun ir => if ir < 11 then some (ro ir) else none)))))), (wy, .inr (9, [.int (nI N), .int (nI B), .int (nI D), .ref a1, .ref a2, .ref a3, .ref a4, .ref a5, .ref a6])), (a1, .inl (G 0, 10, .inl f1)), (a2, .inl (G 0, 10, .inl f2)), (a3, .inl (G 0, 10, .inl f3)), (a4, .inl (G 0, 6, .inl f4)), (a5, .inl (G 0, 6, .inl f5)), (a6, .inl (G 0, 6, .inl f6)), (mk, .inr (3, [.int (nI S), .ref m1, .ref m2])), (m1, .inl (G 0, 6, .inl z1)), (m2, .inl (G 0, 6, .inl z2))] : va_W) ++ ((((List.range 11).map (fun iq => (ri iq, .inl (G 0, 10, .inl (u8 iq))))) : va_W) ++ ((((List.range 11).map (fun iq => (ro iq, .inl (G 0, 10, .inl (u9 iq))))) : va_W) ++ []))) → va_S A s.heap H locs → ∀ (ls : Array Slot), lv_has ls 5 [(3, .int (nI j11)), (2, .int y12), (0, .ref h0), (1, .int what)] → W p l e (headSpec (Cond.code yX10_sure cX10_sure 5 (some .int) :: GT) ({ frames := 5, cells := 0, slots := 0, locals := 112 } : Room)).room s m ([.ref h0, .int what] : List Value).toArray below meth c H locs 0 0 (MQ below (va_Qi (fun (r : Int32) (u : Int32 × (Nat → Nat → Int32) × (Nat → Nat → Int32)) => match u with | (u0, u1, u2) => (True) ∧ True) (fun (u : Int32 × (Nat → Nat → Int32) × (Nat → Nat → Int32)) (t : State) => match u with | (u0, u1, u2) => va_P (dC, dI) vwCl (([(h0, .inr (10, [.ref rd, .ref wy, .ref tr, .ref im, .ref kp, .ref od, .ref ch, .ref cr, .ref le, .ref mk, .ref tl, .ref sh, .int tf, .int rf])), (tl, .inr (8, [.int u0, .ref ti, .ref to])), (ti, .inl (G 4, 11, .inr (.inr (.inr (.inr (fun ir => if ir < 11 then some (ri ir) else none)))))), (to, .inl (G 4, 11, .inr (.inr (.inr (.inr (fun ir => if ir < 11 then some (ro ir) else none)))))), (wy, .inr (9, [.int (nI N), .int (nI B), .int (nI D), .ref a1, .ref a2, .ref a3, .ref a4, .ref a5, .ref a6])), (a1, .inl (G 0, 10, .inl f1)), (a2, .inl (G 0, 10, .inl f2)), (a3, .inl (G 0, 10, .inl f3)), (a4, .inl (G 0, 6, .inl f4)), (a5, .inl (G 0, 6, .inl f5)), (a6, .inl (G 0, 6, .inl f6)), (mk, .inr (3, [.int (nI S), .ref m1, .ref m2])), (m1, .inl (G 0, 6, .inl z1)), (m2, .inl (G 0, 6, .inl z2))] : va_W) ++ ((((List.range 11).map (fun iq => (ri iq, .inl (G 0, 10, .inl (u1 iq))))) : va_W) ++ ((((List.range 11).map (fun iq => (ro iq, .inl (G 0, 10, .inl (u2 iq))))) : va_W) ++ []))) t.heap ∧ va_D A (([(h0, .inr (10, [.ref rd, .ref wy, .ref tr, .ref im, .ref kp, .ref od, .ref ch, .ref cr, .ref le, .ref mk, .ref tl, .ref sh, .int tf, .int rf])), (tl, .inr (8, [.int u0, .ref ti, .ref to])), (ti, .inl (G 4, 11, .inr (.inr (.inr (.inr (fun ir => if ir < 11 then some (ri ir) else none)))))), (to, .inl (G 4, 11, .inr (.inr (.inr (.inr (fun ir => if ir < 11 then some (ro ir) else none)))))), (wy, .inr (9, [.int (nI N), .int (nI B), .int (nI D), .ref a1, .ref a2, .ref a3, .ref a4, .ref a5, .ref a6])), (a1, .inl (G 0, 10, .inl f1)), (a2, .inl (G 0, 10, .inl f2)), (a3, .inl (G 0, 10, .inl f3)), (a4, .inl (G 0, 6, .inl f4)), (a5, .inl (G 0, 6, .inl f5)), (a6, .inl (G 0, 6, .inl f6)), (mk, .inr (3, [.int (nI S), .ref m1, .ref m2])), (m1, .inl (G 0, 6, .inl z1)), (m2, .inl (G 0, 6, .inl z2))] : va_W) ++ ((((List.range 11).map (fun iq => (ri iq, .inl (G 0, 10, .inl (u1 iq))))) : va_W) ++ ((((List.range 11).map (fun iq => (ro iq, .inl (G 0, 10, .inl (u2 iq))))) : va_W) ++ [])))) A) ([.ref h0, .int what] : List Value).toArray s 0 0 A) (F0 m 41 ls []) := by
        intro nf
        induction nf with
        | zero => intro j11 h1 h2; exact absurd h1 (by omega)
        | succ nf ih41_13 =>
          intro j11 hn14 hj15 y12 H locs hP hD hS ls hl
          refine lv_iload_n hx hb dX10_sure_41 rfl (lv_at hl 0 rfl) ?_
          refine lv_aload_n hx hb dX10_sure_42 rfl (lv_at hl 2 rfl) ?_
          refine va_get (D := (dC, dI)) (ci := 10) (v := .ref wy) (C := RX10) (T := TX10) (N := 14) hx hb hg inG10 hown hK.1 hP 0 rfl rfl 1 (Nat.le_of_ble_eq_true rfl) (hg _ wt_303) (fun _ h9 => h9) rfl dX10_sure_43 ?_
          refine va_getN (D := (dC, dI)) (ci := 9) (v := .int (nI N)) (C := RX9) (T := TX9) (N := 9) hx hb hg inG9 hown hK.1 hP 4 rfl rfl 0 (Nat.le_of_ble_eq_true rfl) (hK.nest wn_60) (fun _ h9 => h9) rfl dX10_sure_46 ?_
          refine lv_icmp_ge (tgt := 109) hx hb dX10_sure_49 rfl (fun c16 => ?_) (fun c16 => ?_)
          · skip
            have tn229_ : nIT j11 := fun _ => nI_toInt (by first | omega | (have t := leI c16; omega))
            have n17 : N ≤ j11 := by have t := leI c16; rw [show (nI (j11)).toInt = ((j11 : Nat) : Int) from tn229_ ()] at t; rw [show (nI (N)).toInt = ((N : Nat) : Int) from tn225_ ()] at t; omega
            refine lv_iload_n hx hb dX10_sure_109 rfl (lv_at hl 1 rfl) ?_
            have hpost : True := by
              trivial
            obtain ⟨hP9, hD9⟩ := va_sub2 (ws' := (([(h0, .inr (10, [.ref rd, .ref wy, .ref tr, .ref im, .ref kp, .ref od, .ref ch, .ref cr, .ref le, .ref mk, .ref tl, .ref sh, .int tf, .int rf])), (tl, .inr (8, [.int u7, .ref ti, .ref to])), (ti, .inl (G 4, 11, .inr (.inr (.inr (.inr (fun ir => if ir < 11 then some (ri ir) else none)))))), (to, .inl (G 4, 11, .inr (.inr (.inr (.inr (fun ir => if ir < 11 then some (ro ir) else none)))))), (wy, .inr (9, [.int (nI N), .int (nI B), .int (nI D), .ref a1, .ref a2, .ref a3, .ref a4, .ref a5, .ref a6])), (a1, .inl (G 0, 10, .inl f1)), (a2, .inl (G 0, 10, .inl f2)), (a3, .inl (G 0, 10, .inl f3)), (a4, .inl (G 0, 6, .inl f4)), (a5, .inl (G 0, 6, .inl f5)), (a6, .inl (G 0, 6, .inl f6)), (mk, .inr (3, [.int (nI S), .ref m1, .ref m2])), (m1, .inl (G 0, 6, .inl z1)), (m2, .inl (G 0, 6, .inl z2))] : va_W) ++ ((((List.range 11).map (fun iq => (ri iq, .inl (G 0, 10, .inl (u8 iq))))) : va_W) ++ ((((List.range 11).map (fun iq => (ro iq, .inl (G 0, 10, .inl (u9 iq))))) : va_W) ++ [])))) hP hD [0, 1, 2, 3, 4, 5, 6, 7, 8, 9, 10, 11, 12, 13, 14, 15, 16, 17, 18, 19, 20, 21, 22, 23, 24, 25, 26, 27, 28, 29, 30, 31, 32, 33, 34, 35] (by decide +kernel) rfl
            refine W.widen (k := 0) (n := 0) (Nat.le_of_ble_eq_true rfl) (Nat.le_of_ble_eq_true rfl) ?_
            exact W.iret (v := y12) hx hb hr (fun t ht hW => ⟨⟨y12, (u7, u8, u9), rfl, ⟨hpost, trivial⟩, ⟨by rw [ht]; exact hP9, hD9⟩⟩, hS.F ht⟩) hS.2.2 dX10_sure_110
          · skip
            have tn230_ : nIT j11 := fun _ => nI_toInt (by first | omega | (have t := nleI c16; omega))
            have n18 : j11 < N := by have t := nleI c16; rw [show (nI (j11)).toInt = ((j11 : Nat) : Int) from tn230_ ()] at t; rw [show (nI (N)).toInt = ((N : Nat) : Int) from tn225_ ()] at t; omega
            refine lv_iload_n hx hb dX10_sure_52 rfl (lv_at hl 3 rfl) ?_
            have cut83_20 : ∀ (y19 : Int32) (H : Heap) (locs : List Loc), va_P (dC, dI) vwCl (([(h0, .inr (10, [.ref rd, .ref wy, .ref tr, .ref im, .ref kp, .ref od, .ref ch, .ref cr, .ref le, .ref mk, .ref tl, .ref sh, .int tf, .int rf])), (tl, .inr (8, [.int u7, .ref ti, .ref to])), (ti, .inl (G 4, 11, .inr (.inr (.inr (.inr (fun ir => if ir < 11 then some (ri ir) else none)))))), (to, .inl (G 4, 11, .inr (.inr (.inr (.inr (fun ir => if ir < 11 then some (ro ir) else none)))))), (wy, .inr (9, [.int (nI N), .int (nI B), .int (nI D), .ref a1, .ref a2, .ref a3, .ref a4, .ref a5, .ref a6])), (a1, .inl (G 0, 10, .inl f1)), (a2, .inl (G 0, 10, .inl f2)), (a3, .inl (G 0, 10, .inl f3)), (a4, .inl (G 0, 6, .inl f4)), (a5, .inl (G 0, 6, .inl f5)), (a6, .inl (G 0, 6, .inl f6)), (mk, .inr (3, [.int (nI S), .ref m1, .ref m2])), (m1, .inl (G 0, 6, .inl z1)), (m2, .inl (G 0, 6, .inl z2))] : va_W) ++ ((((List.range 11).map (fun iq => (ri iq, .inl (G 0, 10, .inl (u8 iq))))) : va_W) ++ ((((List.range 11).map (fun iq => (ro iq, .inl (G 0, 10, .inl (u9 iq))))) : va_W) ++ []))) H → va_D A (([(h0, .inr (10, [.ref rd, .ref wy, .ref tr, .ref im, .ref kp, .ref od, .ref ch, .ref cr, .ref le, .ref mk, .ref tl, .ref sh, .int tf, .int rf])), (tl, .inr (8, [.int u7, .ref ti, .ref to])), (ti, .inl (G 4, 11, .inr (.inr (.inr (.inr (fun ir => if ir < 11 then some (ri ir) else none)))))), (to, .inl (G 4, 11, .inr (.inr (.inr (.inr (fun ir => if ir < 11 then some (ro ir) else none)))))), (wy, .inr (9, [.int (nI N), .int (nI B), .int (nI D), .ref a1, .ref a2, .ref a3, .ref a4, .ref a5, .ref a6])), (a1, .inl (G 0, 10, .inl f1)), (a2, .inl (G 0, 10, .inl f2)), (a3, .inl (G 0, 10, .inl f3)), (a4, .inl (G 0, 6, .inl f4)), (a5, .inl (G 0, 6, .inl f5)), (a6, .inl (G 0, 6, .inl f6)), (mk, .inr (3, [.int (nI S), .ref m1, .ref m2])), (m1, .inl (G 0, 6, .inl z1)), (m2, .inl (G 0, 6, .inl z2))] : va_W) ++ ((((List.range 11).map (fun iq => (ri iq, .inl (G 0, 10, .inl (u8 iq))))) : va_W) ++ ((((List.range 11).map (fun iq => (ro iq, .inl (G 0, 10, .inl (u9 iq))))) : va_W) ++ []))) → va_S A s.heap H locs → ∀ (ls : Array Slot), lv_has ls 5 [(3, .int (nI j11)), (2, .int y12), (0, .ref h0), (1, .int what)] → W p l e (headSpec (Cond.code yX10_sure cX10_sure 5 (some .int) :: GT) ({ frames := 5, cells := 0, slots := 0, locals := 112 } : Room)).room s m ([.ref h0, .int what] : List Value).toArray below meth c H locs 0 0 (MQ below (va_Qi (fun (r : Int32) (u : Int32 × (Nat → Nat → Int32) × (Nat → Nat → Int32)) => match u with | (u0, u1, u2) => (True) ∧ True) (fun (u : Int32 × (Nat → Nat → Int32) × (Nat → Nat → Int32)) (t : State) => match u with | (u0, u1, u2) => va_P (dC, dI) vwCl (([(h0, .inr (10, [.ref rd, .ref wy, .ref tr, .ref im, .ref kp, .ref od, .ref ch, .ref cr, .ref le, .ref mk, .ref tl, .ref sh, .int tf, .int rf])), (tl, .inr (8, [.int u0, .ref ti, .ref to])), (ti, .inl (G 4, 11, .inr (.inr (.inr (.inr (fun ir => if ir < 11 then some (ri ir) else none)))))), (to, .inl (G 4, 11, .inr (.inr (.inr (.inr (fun ir => if ir < 11 then some (ro ir) else none)))))), (wy, .inr (9, [.int (nI N), .int (nI B), .int (nI D), .ref a1, .ref a2, .ref a3, .ref a4, .ref a5, .ref a6])), (a1, .inl (G 0, 10, .inl f1)), (a2, .inl (G 0, 10, .inl f2)), (a3, .inl (G 0, 10, .inl f3)), (a4, .inl (G 0, 6, .inl f4)), (a5, .inl (G 0, 6, .inl f5)), (a6, .inl (G 0, 6, .inl f6)), (mk, .inr (3, [.int (nI S), .ref m1, .ref m2])), (m1, .inl (G 0, 6, .inl z1)), (m2, .inl (G 0, 6, .inl z2))] : va_W) ++ ((((List.range 11).map (fun iq => (ri iq, .inl (G 0, 10, .inl (u1 iq))))) : va_W) ++ ((((List.range 11).map (fun iq => (ro iq, .inl (G 0, 10, .inl (u2 iq))))) : va_W) ++ []))) t.heap ∧ va_D A (([(h0, .inr (10, [.ref rd, .ref wy, .ref tr, .ref im, .ref kp, .ref od, .ref ch, .ref cr, .ref le, .ref mk, .ref tl, .ref sh, .int tf, .int rf])), (tl, .inr (8, [.int u0, .ref ti, .ref to])), (ti, .inl (G 4, 11, .inr (.inr (.inr (.inr (fun ir => if ir < 11 then some (ri ir) else none)))))), (to, .inl (G 4, 11, .inr (.inr (.inr (.inr (fun ir => if ir < 11 then some (ro ir) else none)))))), (wy, .inr (9, [.int (nI N), .int (nI B), .int (nI D), .ref a1, .ref a2, .ref a3, .ref a4, .ref a5, .ref a6])), (a1, .inl (G 0, 10, .inl f1)), (a2, .inl (G 0, 10, .inl f2)), (a3, .inl (G 0, 10, .inl f3)), (a4, .inl (G 0, 6, .inl f4)), (a5, .inl (G 0, 6, .inl f5)), (a6, .inl (G 0, 6, .inl f6)), (mk, .inr (3, [.int (nI S), .ref m1, .ref m2])), (m1, .inl (G 0, 6, .inl z1)), (m2, .inl (G 0, 6, .inl z2))] : va_W) ++ ((((List.range 11).map (fun iq => (ri iq, .inl (G 0, 10, .inl (u1 iq))))) : va_W) ++ ((((List.range 11).map (fun iq => (ro iq, .inl (G 0, 10, .inl (u2 iq))))) : va_W) ++ [])))) A) ([.ref h0, .int what] : List Value).toArray s 0 0 A) (F0 m 83 ls [.int y19]) := by
              intro y19 H locs hP hD hS ls hl
              refine lv_istore (lv' := [(4, .int y19), (3, .int (nI j11)), (2, .int y12), (0, .ref h0), (1, .int what)]) hx hb dX10_sure_83 hl (by decide) rfl (fun ls hl => ?_)
              refine lv_iload hx hb dX10_sure_85 (lv_at hl 0 rfl) ?_
              refine lv_aload_n hx hb dX10_sure_87 rfl (lv_at hl 3 rfl) ?_
              refine va_get (D := (dC, dI)) (ci := 10) (v := .ref tl) (C := RX10) (T := TX10) (N := 14) hx hb hg inG10 hown hK.1 hP 0 rfl rfl 10 (Nat.le_of_ble_eq_true rfl) (hg _ wt_312) (fun _ h9 => h9) rfl dX10_sure_88 ?_
              refine va_getN (D := (dC, dI)) (ci := 8) (v := .int u7) (C := RX8) (T := TX8) (N := 3) hx hb hg inG8 hown hK.1 hP 1 rfl rfl 0 (Nat.le_of_ble_eq_true rfl) (hK.nest wn_259) (fun _ h9 => h9) rfl dX10_sure_91 ?_
              have cut103_22 : ∀ (y21 : Int32) (H : Heap) (locs : List Loc), va_P (dC, dI) vwCl (([(h0, .inr (10, [.ref rd, .ref wy, .ref tr, .ref im, .ref kp, .ref od, .ref ch, .ref cr, .ref le, .ref mk, .ref tl, .ref sh, .int tf, .int rf])), (tl, .inr (8, [.int u7, .ref ti, .ref to])), (ti, .inl (G 4, 11, .inr (.inr (.inr (.inr (fun ir => if ir < 11 then some (ri ir) else none)))))), (to, .inl (G 4, 11, .inr (.inr (.inr (.inr (fun ir => if ir < 11 then some (ro ir) else none)))))), (wy, .inr (9, [.int (nI N), .int (nI B), .int (nI D), .ref a1, .ref a2, .ref a3, .ref a4, .ref a5, .ref a6])), (a1, .inl (G 0, 10, .inl f1)), (a2, .inl (G 0, 10, .inl f2)), (a3, .inl (G 0, 10, .inl f3)), (a4, .inl (G 0, 6, .inl f4)), (a5, .inl (G 0, 6, .inl f5)), (a6, .inl (G 0, 6, .inl f6)), (mk, .inr (3, [.int (nI S), .ref m1, .ref m2])), (m1, .inl (G 0, 6, .inl z1)), (m2, .inl (G 0, 6, .inl z2))] : va_W) ++ ((((List.range 11).map (fun iq => (ri iq, .inl (G 0, 10, .inl (u8 iq))))) : va_W) ++ ((((List.range 11).map (fun iq => (ro iq, .inl (G 0, 10, .inl (u9 iq))))) : va_W) ++ []))) H → va_D A (([(h0, .inr (10, [.ref rd, .ref wy, .ref tr, .ref im, .ref kp, .ref od, .ref ch, .ref cr, .ref le, .ref mk, .ref tl, .ref sh, .int tf, .int rf])), (tl, .inr (8, [.int u7, .ref ti, .ref to])), (ti, .inl (G 4, 11, .inr (.inr (.inr (.inr (fun ir => if ir < 11 then some (ri ir) else none)))))), (to, .inl (G 4, 11, .inr (.inr (.inr (.inr (fun ir => if ir < 11 then some (ro ir) else none)))))), (wy, .inr (9, [.int (nI N), .int (nI B), .int (nI D), .ref a1, .ref a2, .ref a3, .ref a4, .ref a5, .ref a6])), (a1, .inl (G 0, 10, .inl f1)), (a2, .inl (G 0, 10, .inl f2)), (a3, .inl (G 0, 10, .inl f3)), (a4, .inl (G 0, 6, .inl f4)), (a5, .inl (G 0, 6, .inl f5)), (a6, .inl (G 0, 6, .inl f6)), (mk, .inr (3, [.int (nI S), .ref m1, .ref m2])), (m1, .inl (G 0, 6, .inl z1)), (m2, .inl (G 0, 6, .inl z2))] : va_W) ++ ((((List.range 11).map (fun iq => (ri iq, .inl (G 0, 10, .inl (u8 iq))))) : va_W) ++ ((((List.range 11).map (fun iq => (ro iq, .inl (G 0, 10, .inl (u9 iq))))) : va_W) ++ []))) → va_S A s.heap H locs → ∀ (ls : Array Slot), lv_has ls 5 [(4, .int y19), (3, .int (nI j11)), (2, .int y21), (0, .ref h0), (1, .int what)] → W p l e (headSpec (Cond.code yX10_sure cX10_sure 5 (some .int) :: GT) ({ frames := 5, cells := 0, slots := 0, locals := 112 } : Room)).room s m ([.ref h0, .int what] : List Value).toArray below meth c H locs 0 0 (MQ below (va_Qi (fun (r : Int32) (u : Int32 × (Nat → Nat → Int32) × (Nat → Nat → Int32)) => match u with | (u0, u1, u2) => (True) ∧ True) (fun (u : Int32 × (Nat → Nat → Int32) × (Nat → Nat → Int32)) (t : State) => match u with | (u0, u1, u2) => va_P (dC, dI) vwCl (([(h0, .inr (10, [.ref rd, .ref wy, .ref tr, .ref im, .ref kp, .ref od, .ref ch, .ref cr, .ref le, .ref mk, .ref tl, .ref sh, .int tf, .int rf])), (tl, .inr (8, [.int u0, .ref ti, .ref to])), (ti, .inl (G 4, 11, .inr (.inr (.inr (.inr (fun ir => if ir < 11 then some (ri ir) else none)))))), (to, .inl (G 4, 11, .inr (.inr (.inr (.inr (fun ir => if ir < 11 then some (ro ir) else none)))))), (wy, .inr (9, [.int (nI N), .int (nI B), .int (nI D), .ref a1, .ref a2, .ref a3, .ref a4, .ref a5, .ref a6])), (a1, .inl (G 0, 10, .inl f1)), (a2, .inl (G 0, 10, .inl f2)), (a3, .inl (G 0, 10, .inl f3)), (a4, .inl (G 0, 6, .inl f4)), (a5, .inl (G 0, 6, .inl f5)), (a6, .inl (G 0, 6, .inl f6)), (mk, .inr (3, [.int (nI S), .ref m1, .ref m2])), (m1, .inl (G 0, 6, .inl z1)), (m2, .inl (G 0, 6, .inl z2))] : va_W) ++ ((((List.range 11).map (fun iq => (ri iq, .inl (G 0, 10, .inl (u1 iq))))) : va_W) ++ ((((List.range 11).map (fun iq => (ro iq, .inl (G 0, 10, .inl (u2 iq))))) : va_W) ++ []))) t.heap ∧ va_D A (([(h0, .inr (10, [.ref rd, .ref wy, .ref tr, .ref im, .ref kp, .ref od, .ref ch, .ref cr, .ref le, .ref mk, .ref tl, .ref sh, .int tf, .int rf])), (tl, .inr (8, [.int u0, .ref ti, .ref to])), (ti, .inl (G 4, 11, .inr (.inr (.inr (.inr (fun ir => if ir < 11 then some (ri ir) else none)))))), (to, .inl (G 4, 11, .inr (.inr (.inr (.inr (fun ir => if ir < 11 then some (ro ir) else none)))))), (wy, .inr (9, [.int (nI N), .int (nI B), .int (nI D), .ref a1, .ref a2, .ref a3, .ref a4, .ref a5, .ref a6])), (a1, .inl (G 0, 10, .inl f1)), (a2, .inl (G 0, 10, .inl f2)), (a3, .inl (G 0, 10, .inl f3)), (a4, .inl (G 0, 6, .inl f4)), (a5, .inl (G 0, 6, .inl f5)), (a6, .inl (G 0, 6, .inl f6)), (mk, .inr (3, [.int (nI S), .ref m1, .ref m2])), (m1, .inl (G 0, 6, .inl z1)), (m2, .inl (G 0, 6, .inl z2))] : va_W) ++ ((((List.range 11).map (fun iq => (ri iq, .inl (G 0, 10, .inl (u1 iq))))) : va_W) ++ ((((List.range 11).map (fun iq => (ro iq, .inl (G 0, 10, .inl (u2 iq))))) : va_W) ++ [])))) A) ([.ref h0, .int what] : List Value).toArray s 0 0 A) (F0 m 103 ls []) := by
                intro y21 H locs hP hD hS ls hl
                refine lv_iinc (v := nI (j11 + 1)) (lv' := [(3, .int (nI (j11 + 1))), (4, .int y19), (2, .int y21), (0, .ref h0), (1, .int what)]) hx hb dX10_sure_103 hl (k := 1) rfl (by rw [show Int32.ofInt 1 = nI 1 from by decide]; exact nI_add _ _) (by decide) rfl (fun ls hl => ?_)
                refine lv_goto (tgt := 41) hx hb dX10_sure_106 rfl ?_
                exact ih41_13 (j11 + 1) (by omega) (by omega) y21 _ _ hP hD hS ls (lv_sub hl [0, 2, 3, 4] rfl)
              refine lv_icmp_ne (tgt := 103) hx hb dX10_sure_94 rfl (fun c23 => ?_) (fun c23 => ?_)
              · skip
                exact cut103_22 y12 _ _ hP hD hS ls (lv_sub hl [0, 1, 2, 3, 4] rfl)
              · skip
                refine lv_iload_n hx hb dX10_sure_97 rfl (lv_at hl 2 rfl) ?_
                refine lv_iconst (v := 1) hx hb dX10_sure_98 rfl ?_
                refine lv_iload_n hx hb dX10_sure_99 rfl (lv_at hl 1 rfl) ?_
                refine lv_ishl hx hb dX10_sure_100 ?_
                refine lv_ior hx hb dX10_sure_101 ?_
                refine lv_topi (fun v24 ev24 => ?_)
                refine lv_istore_n (lv' := [(2, .int v24), (4, .int y19), (3, .int (nI j11)), (0, .ref h0), (1, .int what)]) hx hb dX10_sure_102 rfl hl (by decide) rfl (fun ls hl => ?_)
                exact cut103_22 v24 _ _ hP hD hS ls (lv_sub hl [1, 2, 0, 3, 4] rfl)
            refine lv_if_ne (tgt := 71) hx hb dX10_sure_53 rfl (fun c25 => ?_) (fun c25 => ?_)
            · skip
              refine lv_aload_n hx hb dX10_sure_71 rfl (lv_at hl 2 rfl) ?_
              refine va_get (D := (dC, dI)) (ci := 10) (v := .ref tl) (C := RX10) (T := TX10) (N := 14) hx hb hg inG10 hown hK.1 hP 0 rfl rfl 10 (Nat.le_of_ble_eq_true rfl) (hg _ wt_312) (fun _ h9 => h9) rfl dX10_sure_72 ?_
              refine lv_aload_n hx hb dX10_sure_75 rfl (lv_at hl 2 rfl) ?_
              refine va_get (D := (dC, dI)) (ci := 10) (v := .ref wy) (C := RX10) (T := TX10) (N := 14) hx hb hg inG10 hown hK.1 hP 0 rfl rfl 1 (Nat.le_of_ble_eq_true rfl) (hg _ wt_303) (fun _ h9 => h9) rfl dX10_sure_76 ?_
              refine lv_iload_n hx hb dX10_sure_79 rfl (lv_at hl 0 rfl) ?_
              have hPc := hP.sub (ws' := (([(tl, .inr (8, [.int u7, .ref ti, .ref to])), (ti, .inl (G 4, 11, .inr (.inr (.inr (.inr (fun ir => if ir < 11 then some (ri ir) else none)))))), (to, .inl (G 4, 11, .inr (.inr (.inr (.inr (fun ir => if ir < 11 then some (ro ir) else none)))))), (wy, .inr (9, [.int (nI N), .int (nI B), .int (nI D), .ref a1, .ref a2, .ref a3, .ref a4, .ref a5, .ref a6])), (a1, .inl (G 0, 10, .inl f1)), (a2, .inl (G 0, 10, .inl f2)), (a3, .inl (G 0, 10, .inl f3)), (a4, .inl (G 0, 6, .inl f4)), (a5, .inl (G 0, 6, .inl f5)), (a6, .inl (G 0, 6, .inl f6))] : va_W) ++ ((((List.range 11).map (fun iq => (ri iq, .inl (G 0, 10, .inl (u8 iq))))) : va_W) ++ ((((List.range 11).map (fun iq => (ro iq, .inl (G 0, 10, .inl (u9 iq))))) : va_W) ++ [])))) [1, 2, 3, 4, 5, 6, 7, 8, 9, 10, 14, 15, 16, 17, 18, 19, 20, 21, 22, 23, 24, 25, 26, 27, 28, 29, 30, 31, 32, 33, 34, 35] rfl
              refine va_calli (va_runVN (As := [.ref wy, .int (nI j11)]) (rest := []) ⟨hx, hb, hml, hown, hg⟩ (c_X8_rising l dC dI G _ tl ti to wy a1 a2 a3 a4 a5 a6 N B D j11 u7 f1 f2 f3 f4 f5 f6 ri ro u8 u9 hN_N hB_B hD_D (by first | omega | (have t_b4 := b4; have t_c10 := neI c10; have t_hj15 := hj15; have t_n18 := n18; have t_c25 := neI c25; have : (0 : Int32).toInt = 0 := qI_0; have tnb_ := nib5 tn225_ tn226_ tn227_ tn228_ tn230_; omega))) (kwVN hg hK mfX8_rising wn_804 ⟨Nat.le_of_ble_eq_true rfl, Nat.le_of_ble_eq_true rfl⟩) (preVR hK hPc (ci := 8) (r := (RX8, TX8, 3)) rfl rfl) rfl rfl hl.1 rfl (lv_room (Nat.le_of_ble_eq_true rfl)) dX10_sure_80 ⟨Nat.le_of_ble_eq_true rfl, Nat.le_of_ble_eq_true rfl⟩) hS (fun q h1 h2 => absurd h2 (Nat.not_le.mpr h1)) (fun q h => hA q (Nat.le_trans hS.1 h)) (fun r26 ur26 t H1 locs ht hvm w27 hB hz1 hk1 hS => ?_)
              have hP := keepR hP hk1
              obtain ⟨w27, w27x⟩ := w27
              exact cut83_20 r26 _ _ hP hD hS ls (lv_sub hl [0, 1, 2, 3] rfl)
            · skip
              refine lv_aload_n hx hb dX10_sure_56 rfl (lv_at hl 2 rfl) ?_
              refine va_get (D := (dC, dI)) (ci := 10) (v := .ref tl) (C := RX10) (T := TX10) (N := 14) hx hb hg inG10 hown hK.1 hP 0 rfl rfl 10 (Nat.le_of_ble_eq_true rfl) (hg _ wt_312) (fun _ h9 => h9) rfl dX10_sure_57 ?_
              refine lv_aload_n hx hb dX10_sure_60 rfl (lv_at hl 2 rfl) ?_
              refine va_get (D := (dC, dI)) (ci := 10) (v := .ref wy) (C := RX10) (T := TX10) (N := 14) hx hb hg inG10 hown hK.1 hP 0 rfl rfl 1 (Nat.le_of_ble_eq_true rfl) (hg _ wt_303) (fun _ h9 => h9) rfl dX10_sure_61 ?_
              refine lv_iload_n hx hb dX10_sure_64 rfl (lv_at hl 0 rfl) ?_
              have hPc := hP.sub (ws' := (([(tl, .inr (8, [.int u7, .ref ti, .ref to])), (ti, .inl (G 4, 11, .inr (.inr (.inr (.inr (fun ir => if ir < 11 then some (ri ir) else none)))))), (to, .inl (G 4, 11, .inr (.inr (.inr (.inr (fun ir => if ir < 11 then some (ro ir) else none)))))), (wy, .inr (9, [.int (nI N), .int (nI B), .int (nI D), .ref a1, .ref a2, .ref a3, .ref a4, .ref a5, .ref a6])), (a1, .inl (G 0, 10, .inl f1)), (a2, .inl (G 0, 10, .inl f2)), (a3, .inl (G 0, 10, .inl f3)), (a4, .inl (G 0, 6, .inl f4)), (a5, .inl (G 0, 6, .inl f5)), (a6, .inl (G 0, 6, .inl f6))] : va_W) ++ ((((List.range 11).map (fun iq => (ri iq, .inl (G 0, 10, .inl (u8 iq))))) : va_W) ++ ((((List.range 11).map (fun iq => (ro iq, .inl (G 0, 10, .inl (u9 iq))))) : va_W) ++ [])))) [1, 2, 3, 4, 5, 6, 7, 8, 9, 10, 14, 15, 16, 17, 18, 19, 20, 21, 22, 23, 24, 25, 26, 27, 28, 29, 30, 31, 32, 33, 34, 35] rfl
              refine va_calli (va_runVN (As := [.ref wy, .int (nI j11)]) (rest := []) ⟨hx, hb, hml, hown, hg⟩ (c_X8_falling l dC dI G _ tl ti to wy a1 a2 a3 a4 a5 a6 N B D j11 u7 f1 f2 f3 f4 f5 f6 ri ro u8 u9 hN_N hB_B hD_D (by first | omega | (have t_b4 := b4; have t_c10 := neI c10; have t_hj15 := hj15; have t_n18 := n18; have t_c25 := eqI c25; have : (0 : Int32).toInt = 0 := qI_0; have tnb_ := nib5 tn225_ tn226_ tn227_ tn228_ tn230_; omega))) (kwVN hg hK mfX8_falling wn_800 ⟨Nat.le_of_ble_eq_true rfl, Nat.le_of_ble_eq_true rfl⟩) (preVR hK hPc (ci := 8) (r := (RX8, TX8, 3)) rfl rfl) rfl rfl hl.1 rfl (lv_room (Nat.le_of_ble_eq_true rfl)) dX10_sure_65 ⟨Nat.le_of_ble_eq_true rfl, Nat.le_of_ble_eq_true rfl⟩) hS (fun q h1 h2 => absurd h2 (Nat.not_le.mpr h1)) (fun q h => hA q (Nat.le_trans hS.1 h)) (fun r28 ur28 t H1 locs ht hvm w29 hB hz1 hk1 hS => ?_)
              have hP := keepR hP hk1
              obtain ⟨w29, w29x⟩ := w29
              refine lv_goto (tgt := 83) hx hb dX10_sure_68 rfl ?_
              exact cut83_20 r28 _ _ hP hD hS ls (lv_sub hl [0, 1, 2, 3] rfl)
      exact loop41_13 (N + 1) 0 (by omega) (by omega) 0 _ _ hP hD hS ls (lv_sub hl [0, 1, 2, 3] rfl)
    · skip
      refine lv_bipush (v := (-4)) hx hb dX10_sure_34 rfl ?_
      have hpost : True := by
        trivial
      obtain ⟨hP9, hD9⟩ := va_sub2 (ws' := (([(h0, .inr (10, [.ref rd, .ref wy, .ref tr, .ref im, .ref kp, .ref od, .ref ch, .ref cr, .ref le, .ref mk, .ref tl, .ref sh, .int tf, .int rf])), (tl, .inr (8, [.int u7, .ref ti, .ref to])), (ti, .inl (G 4, 11, .inr (.inr (.inr (.inr (fun ir => if ir < 11 then some (ri ir) else none)))))), (to, .inl (G 4, 11, .inr (.inr (.inr (.inr (fun ir => if ir < 11 then some (ro ir) else none)))))), (wy, .inr (9, [.int (nI N), .int (nI B), .int (nI D), .ref a1, .ref a2, .ref a3, .ref a4, .ref a5, .ref a6])), (a1, .inl (G 0, 10, .inl f1)), (a2, .inl (G 0, 10, .inl f2)), (a3, .inl (G 0, 10, .inl f3)), (a4, .inl (G 0, 6, .inl f4)), (a5, .inl (G 0, 6, .inl f5)), (a6, .inl (G 0, 6, .inl f6)), (mk, .inr (3, [.int (nI S), .ref m1, .ref m2])), (m1, .inl (G 0, 6, .inl z1)), (m2, .inl (G 0, 6, .inl z2))] : va_W) ++ ((((List.range 11).map (fun iq => (ri iq, .inl (G 0, 10, .inl (u8 iq))))) : va_W) ++ ((((List.range 11).map (fun iq => (ro iq, .inl (G 0, 10, .inl (u9 iq))))) : va_W) ++ [])))) hP hD [0, 1, 2, 3, 4, 5, 6, 7, 8, 9, 10, 11, 12, 13, 14, 15, 16, 17, 18, 19, 20, 21, 22, 23, 24, 25, 26, 27, 28, 29, 30, 31, 32, 33, 34, 35] (by decide +kernel) rfl
      refine W.widen (k := 0) (n := 0) (Nat.le_of_ble_eq_true rfl) (Nat.le_of_ble_eq_true rfl) ?_
      exact W.iret (v := (-4)) hx hb hr (fun t ht hW => ⟨⟨(-4), (u7, u8, u9), rfl, ⟨hpost, trivial⟩, ⟨by rw [ht]; exact hP9, hD9⟩⟩, hS.F ht⟩) hS.2.2 dX10_sure_36
  · skip
    have b30 := if10_n c3
    refine lv_iconst (v := (-1)) hx hb dX10_sure_7 rfl ?_
    have hpost : True := by
      trivial
    obtain ⟨hP9, hD9⟩ := va_sub2 (ws' := (([(h0, .inr (10, [.ref rd, .ref wy, .ref tr, .ref im, .ref kp, .ref od, .ref ch, .ref cr, .ref le, .ref mk, .ref tl, .ref sh, .int tf, .int rf])), (tl, .inr (8, [.int tt, .ref ti, .ref to])), (ti, .inl (G 4, 11, .inr (.inr (.inr (.inr (fun ir => if ir < 11 then some (ri ir) else none)))))), (to, .inl (G 4, 11, .inr (.inr (.inr (.inr (fun ir => if ir < 11 then some (ro ir) else none)))))), (wy, .inr (9, [.int (nI N), .int (nI B), .int (nI D), .ref a1, .ref a2, .ref a3, .ref a4, .ref a5, .ref a6])), (a1, .inl (G 0, 10, .inl f1)), (a2, .inl (G 0, 10, .inl f2)), (a3, .inl (G 0, 10, .inl f3)), (a4, .inl (G 0, 6, .inl f4)), (a5, .inl (G 0, 6, .inl f5)), (a6, .inl (G 0, 6, .inl f6)), (mk, .inr (3, [.int (nI S), .ref m1, .ref m2])), (m1, .inl (G 0, 6, .inl z1)), (m2, .inl (G 0, 6, .inl z2))] : va_W) ++ ((((List.range 11).map (fun iq => (ri iq, .inl (G 0, 10, .inl (F iq))))) : va_W) ++ ((((List.range 11).map (fun iq => (ro iq, .inl (G 0, 10, .inl (E iq))))) : va_W) ++ [])))) hP hD [0, 1, 2, 3, 4, 5, 6, 7, 8, 9, 10, 11, 12, 13, 14, 15, 16, 17, 18, 19, 20, 21, 22, 23, 24, 25, 26, 27, 28, 29, 30, 31, 32, 33, 34, 35] (by decide +kernel) rfl
    refine W.widen (k := 0) (n := 0) (Nat.le_of_ble_eq_true rfl) (Nat.le_of_ble_eq_true rfl) ?_
    exact W.iret (v := (-1)) hx hb hr (fun t ht hW => ⟨⟨(-1), (tt, F, E), rfl, ⟨hpost, trivial⟩, ⟨by rw [ht]; exact hP9, hD9⟩⟩, hS.F ht⟩) hS.2.2 dX10_sure_8

theorem hz_upd {fz : Nat → Int32} {k nn : Nat} (h : ∀ q : Nat, q < 4 → 0 ≤ (fz q).toInt ∧ (fz q).toInt ≤ 40) (hn : nn ≤ 40) : ∀ q : Nat, q < 4 → 0 ≤ (upd fz k (nI nn) q).toInt ∧ (upd fz k (nI nn) q).toInt ≤ 40 := by
  intro q hq
  unfold upd
  have t := nI_toInt (n := nn) (by omega)
  split
  · omega
  · exact h q hq
theorem shl_le {N : Nat} (h : N ≤ 10) : ∃ k : Nat, k ≤ 1024 ∧ (1 : Int32) <<< (nI N &&& 31) = nI k := by
  refine ⟨2 ^ N, ?_, ?_⟩
  · exact Nat.le_trans (Nat.pow_le_pow_right (by decide) h) (by decide)
  · rcases (show N = 0 ∨ N = 1 ∨ N = 2 ∨ N = 3 ∨ N = 4 ∨ N = 5 ∨ N = 6 ∨ N = 7 ∨ N = 8 ∨ N = 9 ∨ N = 10 by omega) with h|h|h|h|h|h|h|h|h|h|h <;> subst h <;> decide
theorem l1_in {x : Int64} {b : Int} (h0 : 0 ≤ x.toInt) (h1 : x.toInt < 1000) (h2 : (x + 1).toInt < b) : x.toInt + 1 < b := by
  have e : (x + 1).toInt = (x.toInt + (1 : Int64).toInt).bmod (2 ^ 64) := Int64.toInt_add x 1
  have e1 : (1 : Int64).toInt = 1 := by decide
  rw [e1, Int.bmod_eq_of_le (by omega) (by omega)] at e
  omega
theorem i1_in {x : Int32} (h0 : 0 ≤ x.toInt) (h1 : x.toInt < 1000) : (x + 1).toInt = x.toInt + 1 := by
  have e : (x + 1).toInt = (x.toInt + (1 : Int32).toInt).bmod (2 ^ 32) := Int32.toInt_add x 1
  have e1 : (1 : Int32).toInt = 1 := by decide
  rw [e1, Int.bmod_eq_of_le (by omega) (by omega)] at e
  exact e
set_option maxHeartbeats 1000000 in
set_option maxRecDepth 100000 in
theorem c_X10_end (l : Launch) (dC : Nat → ClassId) (dI : Nat → Nat → Nat) (G : Nat → ClassId) (sz : Nat) (h0 rd wy tr im kp od ch cr le mk tl sh tp td ta T : Nat) (tf rf n dr0 dr1 dr2 dr3 dr4 dr5 dr6 dr7 dr8 dr9 : Int32) (hT : T ≤ 320) : Met l yX10_end (Cond.code yX10_end cX10_end 3 (some .int) :: GT) ({ frames := 0, cells := 0, slots := 0, locals := 0 } : Room) (PcW [.ref h0, .int n] dC dI G [(h0, .inr (10, [.ref rd, .ref wy, .ref tr, .ref im, .ref kp, .ref od, .ref ch, .ref cr, .ref le, .ref mk, .ref tl, .ref sh, .int tf, .int rf])), (rd, .inr (5, [.ref tp, .ref td, .int dr0, .int dr1, .int dr2, .int dr3, .int dr4, .int dr5, .int dr6, .int dr7, .int dr8, .int dr9])), (tp, .inr (7, [.int (nI T), .ref ta]))] sz) (va_Qi (fun (r : Int32) (u : Nat) => match u with | u1 => (r = if 0 ≤ n.toInt ∧ n.toInt ≤ ((T : Nat) : Int) then nI T else -1) ∧ u1 = (if 0 ≤ n.toInt ∧ n.toInt ≤ ((T : Nat) : Int) then n.toNatClampNeg else T) ∧ u1 ≤ 320) (fun (u : Nat) (t : State) => match u with | u1 => va_P (dC, dI) vwCl [(h0, .inr (10, [.ref rd, .ref wy, .ref tr, .ref im, .ref kp, .ref od, .ref ch, .ref cr, .ref le, .ref mk, .ref tl, .ref sh, .int tf, .int rf])), (rd, .inr (5, [.ref tp, .ref td, .int dr0, .int dr1, .int dr2, .int dr3, .int dr4, .int dr5, .int dr6, .int dr7, .int dr8, .int dr9])), (tp, .inr (7, [.int (nI u1), .ref ta]))] t.heap ∧ va_D (va_A [(h0, .inr (10, [.ref rd, .ref wy, .ref tr, .ref im, .ref kp, .ref od, .ref ch, .ref cr, .ref le, .ref mk, .ref tl, .ref sh, .int tf, .int rf])), (rd, .inr (5, [.ref tp, .ref td, .int dr0, .int dr1, .int dr2, .int dr3, .int dr4, .int dr5, .int dr6, .int dr7, .int dr8, .int dr9])), (tp, .inr (7, [.int (nI T), .ref ta]))] sz) [(h0, .inr (10, [.ref rd, .ref wy, .ref tr, .ref im, .ref kp, .ref od, .ref ch, .ref cr, .ref le, .ref mk, .ref tl, .ref sh, .int tf, .int rf])), (rd, .inr (5, [.ref tp, .ref td, .int dr0, .int dr1, .int dr2, .int dr3, .int dr4, .int dr5, .int dr6, .int dr7, .int dr8, .int dr9])), (tp, .inr (7, [.int (nI u1), .ref ta]))]) (va_A [(h0, .inr (10, [.ref rd, .ref wy, .ref tr, .ref im, .ref kp, .ref od, .ref ch, .ref cr, .ref le, .ref mk, .ref tl, .ref sh, .int tf, .int rf])), (rd, .inr (5, [.ref tp, .ref td, .int dr0, .int dr1, .int dr2, .int dr3, .int dr4, .int dr5, .int dr6, .int dr7, .int dr8, .int dr9])), (tp, .inr (7, [.int (nI T), .ref ta]))] sz)) 0 0 (va_A [(h0, .inr (10, [.ref rd, .ref wy, .ref tr, .ref im, .ref kp, .ref od, .ref ch, .ref cr, .ref le, .ref mk, .ref tl, .ref sh, .int tf, .int rf])), (rd, .inr (5, [.ref tp, .ref td, .int dr0, .int dr1, .int dr2, .int dr3, .int dr4, .int dr5, .int dr6, .int dr7, .int dr8, .int dr9])), (tp, .inr (7, [.int (nI T), .ref ta]))] sz) := by
  have tn231_ : nIT T := fun _ => nI_toInt (by omega)
  refine Met.ofW (cc := cX10_end) (maxL := 3) (ret := (some .int)) (by decide) rfl ?_
  intro p e s m args below meth c s₁ Bd hml hv
  obtain ⟨rfl, hsz, hP, hK, hD0⟩ := hv
  have hx := Bd.exec
  have hb := Bd.bytes
  have hr := Bd.returns
  have hg : ∀ w ∈ GT, w.before ([.ref h0, .int n] : List Value).toArray s = true := fun w h => atoms_spec (ws := Cond.code yX10_end cX10_end 3 (some .int) :: GT) Bd.pre w (List.mem_cons_of_mem _ h)
  have hown : s.vm.findClass RX10 = some m.cls := findClass_of_methodNamed Bd.named
  have hlocks := Bd.notSynchronized
  subst hsz
  have hD := hD0.self (sz := s.heap.size)
  generalize hAe : va_A [(h0, .inr (10, [.ref rd, .ref wy, .ref tr, .ref im, .ref kp, .ref od, .ref ch, .ref cr, .ref le, .ref mk, .ref tl, .ref sh, .int tf, .int rf])), (rd, .inr (5, [.ref tp, .ref td, .int dr0, .int dr1, .int dr2, .int dr3, .int dr4, .int dr5, .int dr6, .int dr7, .int dr8, .int dr9])), (tp, .inr (7, [.int (nI T), .ref ta]))] s.heap.size = A at hD ⊢
  have hA : ∀ q : Nat, s.heap.size ≤ q → A q := fun q h => by rw [← hAe]; exact Or.inr h
  have hS : va_S A s.heap s.heap [] := va_S.rf
  have hl := lv_entry ([.ref h0, .int n]) (n := 3) (Nat.le_of_ble_eq_true rfl)
  rw [lg_entry_eq]
  generalize (lg_sl ([.ref h0, .int n]) ++ List.replicate (3 - (lg_sl ([.ref h0, .int n])).length) Slot.unset).toArray = ls at hl ⊢
  have hl : lv_has ls 3 [(0, .ref h0), (1, .int n)] := hl
  refine lv_iload_n hx hb dX10_end_0 rfl (lv_at hl 1 rfl) ?_
  refine lv_if_lt (tgt := 18) hx hb dX10_end_1 rfl (fun c1 => ?_) (fun c1 => ?_)
  · skip
    refine lv_iconst (v := (-1)) hx hb dX10_end_18 rfl ?_
    have hpost : ((-1) : Int32) = if 0 ≤ n.toInt ∧ n.toInt ≤ ((T : Nat) : Int) then nI T else -1 := by
      have t_c1 := ltI c1
      have : (0 : Int32).toInt = 0 := qI_0
      have t_n0 : (nI T).toInt = (T : Int) := tn231_ ()
      first | rfl | ((repeat' split) <;> first | rfl | omega)
    obtain ⟨hP9, hD9⟩ := va_sub2 (ws' := [(h0, .inr (10, [.ref rd, .ref wy, .ref tr, .ref im, .ref kp, .ref od, .ref ch, .ref cr, .ref le, .ref mk, .ref tl, .ref sh, .int tf, .int rf])), (rd, .inr (5, [.ref tp, .ref td, .int dr0, .int dr1, .int dr2, .int dr3, .int dr4, .int dr5, .int dr6, .int dr7, .int dr8, .int dr9])), (tp, .inr (7, [.int (nI T), .ref ta]))]) hP hD [0, 1, 2] (by decide +kernel) rfl
    refine W.widen (k := 0) (n := 0) (Nat.le_of_ble_eq_true rfl) (Nat.le_of_ble_eq_true rfl) ?_
    exact W.iret (v := (-1)) hx hb hr (fun t ht hW => ⟨⟨(-1), T, rfl, ⟨hpost, (by have t_c1 := ltI c1; have : (0 : Int32).toInt = 0 := qI_0; have t_n0 : (nI T).toInt = (T : Int) := tn231_ (); refine ⟨?_, by omega⟩; split <;> first | exact (nI_clamp (by omega)).symm | rfl | omega)⟩, ⟨by rw [ht]; exact hP9, hD9⟩⟩, hS.F ht⟩) hS.2.2 dX10_end_19
  · skip
    refine lv_iload_n hx hb dX10_end_4 rfl (lv_at hl 1 rfl) ?_
    refine lv_aload_n hx hb dX10_end_5 rfl (lv_at hl 0 rfl) ?_
    refine va_get (D := (dC, dI)) (ci := 10) (v := .ref rd) (C := RX10) (T := TX10) (N := 14) hx hb hg inG10 hown hK.1 hP 0 rfl rfl 0 (Nat.le_of_ble_eq_true rfl) (hg _ wt_302) (fun _ h9 => h9) rfl dX10_end_6 ?_
    refine va_getN (D := (dC, dI)) (ci := 5) (v := .ref tp) (C := RX5) (T := TX5) (N := 12) hx hb hg inG5 hown hK.1 hP 1 rfl rfl 0 (Nat.le_of_ble_eq_true rfl) (hK.nest wn_106) (fun _ h9 => h9) rfl dX10_end_9 ?_
    refine va_getN (D := (dC, dI)) (ci := 7) (v := .int (nI T)) (C := RX7) (T := TX7) (N := 2) hx hb hg inG7 hown hK.1 hP 2 rfl rfl 0 (Nat.le_of_ble_eq_true rfl) (hK.nest wn_42) (fun _ h9 => h9) rfl dX10_end_12 ?_
    refine lv_icmp_le (tgt := 20) hx hb dX10_end_15 rfl (fun c2 => ?_) (fun c2 => ?_)
    · skip
      obtain ⟨nn, hnn, rfl⟩ : ∃ j : Nat, j < 321 ∧ n = nI j := by
        have t_c1 := nltI c1
        have t_c2 := leI c2
        have : (0 : Int32).toInt = 0 := qI_0
        have t_n0 : (nI T).toInt = (T : Int) := tn231_ ()
        exact i32_nat (by omega) (by omega)
      refine lv_aload_n hx hb dX10_end_20 rfl (lv_at hl 0 rfl) ?_
      refine va_get (D := (dC, dI)) (ci := 10) (v := .ref rd) (C := RX10) (T := TX10) (N := 14) hx hb hg inG10 hown hK.1 hP 0 rfl rfl 0 (Nat.le_of_ble_eq_true rfl) (hg _ wt_302) (fun _ h9 => h9) rfl dX10_end_21 ?_
      refine va_getN (D := (dC, dI)) (ci := 5) (v := .ref tp) (C := RX5) (T := TX5) (N := 12) hx hb hg inG5 hown hK.1 hP 1 rfl rfl 0 (Nat.le_of_ble_eq_true rfl) (hK.nest wn_106) (fun _ h9 => h9) rfl dX10_end_24 ?_
      refine va_getN (D := (dC, dI)) (ci := 7) (v := .int (nI T)) (C := RX7) (T := TX7) (N := 2) hx hb hg inG7 hown hK.1 hP 2 rfl rfl 0 (Nat.le_of_ble_eq_true rfl) (hK.nest wn_42) (fun _ h9 => h9) rfl dX10_end_27 ?_
      refine lv_istore_n (lv' := [(2, .int (nI T)), (0, .ref h0), (1, .int (nI nn))]) hx hb dX10_end_30 rfl hl (by decide) rfl (fun ls hl => ?_)
      refine lv_aload_n hx hb dX10_end_31 rfl (lv_at hl 1 rfl) ?_
      refine va_get (D := (dC, dI)) (ci := 10) (v := .ref rd) (C := RX10) (T := TX10) (N := 14) hx hb hg inG10 hown hK.1 hP 0 rfl rfl 0 (Nat.le_of_ble_eq_true rfl) (hg _ wt_302) (fun _ h9 => h9) rfl dX10_end_32 ?_
      refine va_getN (D := (dC, dI)) (ci := 5) (v := .ref tp) (C := RX5) (T := TX5) (N := 12) hx hb hg inG5 hown hK.1 hP 1 rfl rfl 0 (Nat.le_of_ble_eq_true rfl) (hK.nest wn_106) (fun _ h9 => h9) rfl dX10_end_35 ?_
      refine lv_iload_n hx hb dX10_end_38 rfl (lv_at hl 2 rfl) ?_
      refine va_putN (D := (dC, dI)) (ci := 7) (v := .int (nI nn)) (ty := .int) (C := RX7) (T := TX7) (N := 2) hx hb hg inG7 tyX7 tyX7_ok nmX7 hown hK.1 hP hD hS 2 rfl rfl 0 (by decide) (hK.nest wn_42) (fun _ h9 => h9) rfl (by decide +kernel) rfl rfl (Nat.le_of_ble_eq_true rfl) dX10_end_39 (fun H locs hP hD hS => ?_)
      refine lv_iload_n hx hb dX10_end_42 rfl (lv_at hl 0 rfl) ?_
      have hpost : (nI T : Int32) = if 0 ≤ (nI nn).toInt ∧ (nI nn).toInt ≤ ((T : Nat) : Int) then nI T else -1 := by
        have t_c1 := nltI c1
        have t_c2 := leI c2
        have t_hnn := hnn
        have : (0 : Int32).toInt = 0 := qI_0
        have t_n0 : (nI T).toInt = (T : Int) := tn231_ ()
        have tn232_ : nIT nn := fun _ => nI_toInt (by omega)
        have t_n1 : (nI nn).toInt = (nn : Int) := tn232_ ()
        have t_n0 : (nI T).toInt = (T : Int) := tn231_ ()
        first | rfl | ((repeat' split) <;> first | rfl | omega)
      obtain ⟨hP9, hD9⟩ := va_sub2 (ws' := [(h0, .inr (10, [.ref rd, .ref wy, .ref tr, .ref im, .ref kp, .ref od, .ref ch, .ref cr, .ref le, .ref mk, .ref tl, .ref sh, .int tf, .int rf])), (rd, .inr (5, [.ref tp, .ref td, .int dr0, .int dr1, .int dr2, .int dr3, .int dr4, .int dr5, .int dr6, .int dr7, .int dr8, .int dr9])), (tp, .inr (7, [.int (nI nn), .ref ta]))]) hP hD [0, 1, 2] (by decide +kernel) rfl
      refine W.widen (k := 0) (n := 0) (Nat.le_of_ble_eq_true rfl) (Nat.le_of_ble_eq_true rfl) ?_
      have tn233_ : nIT nn := fun _ => nI_toInt (by first | omega | (have t_c1 := nltI c1; have t_c2 := leI c2; have t_hnn := hnn; have : (0 : Int32).toInt = 0 := qI_0; omega))
      exact W.iret (v := nI T) hx hb hr (fun t ht hW => ⟨⟨nI T, nn, rfl, ⟨hpost, (by have t_c1 := nltI c1; have t_c2 := leI c2; have t_hnn := hnn; have : (0 : Int32).toInt = 0 := qI_0; have tnb_ := nib2 tn231_ tn233_; refine ⟨?_, by omega⟩; split <;> first | exact (nI_clamp (by omega)).symm | rfl | omega)⟩, ⟨by rw [ht]; exact hP9, hD9⟩⟩, hS.F ht⟩) hS.2.2 dX10_end_43
    · skip
      refine lv_iconst (v := (-1)) hx hb dX10_end_18 rfl ?_
      have hpost : ((-1) : Int32) = if 0 ≤ n.toInt ∧ n.toInt ≤ ((T : Nat) : Int) then nI T else -1 := by
        have t_c1 := nltI c1
        have t_c2 := nleI c2
        have : (0 : Int32).toInt = 0 := qI_0
        have t_n0 : (nI T).toInt = (T : Int) := tn231_ ()
        first | rfl | ((repeat' split) <;> first | rfl | omega)
      obtain ⟨hP9, hD9⟩ := va_sub2 (ws' := [(h0, .inr (10, [.ref rd, .ref wy, .ref tr, .ref im, .ref kp, .ref od, .ref ch, .ref cr, .ref le, .ref mk, .ref tl, .ref sh, .int tf, .int rf])), (rd, .inr (5, [.ref tp, .ref td, .int dr0, .int dr1, .int dr2, .int dr3, .int dr4, .int dr5, .int dr6, .int dr7, .int dr8, .int dr9])), (tp, .inr (7, [.int (nI T), .ref ta]))]) hP hD [0, 1, 2] (by decide +kernel) rfl
      refine W.widen (k := 0) (n := 0) (Nat.le_of_ble_eq_true rfl) (Nat.le_of_ble_eq_true rfl) ?_
      exact W.iret (v := (-1)) hx hb hr (fun t ht hW => ⟨⟨(-1), T, rfl, ⟨hpost, (by have t_c1 := nltI c1; have t_c2 := nleI c2; have : (0 : Int32).toInt = 0 := qI_0; have t_n0 : (nI T).toInt = (T : Int) := tn231_ (); refine ⟨?_, by omega⟩; split <;> first | exact (nI_clamp (by omega)).symm | rfl | omega)⟩, ⟨by rw [ht]; exact hP9, hD9⟩⟩, hS.F ht⟩) hS.2.2 dX10_end_19

set_option maxHeartbeats 1000000 in
set_option maxRecDepth 100000 in
theorem c_X10_awake (l : Launch) (dC : Nat → ClassId) (dI : Nat → Nat → Nat) (G : Nat → ClassId) (sz : Nat) (h0 rd wy tr im kp od ch cr le mk tl sh sa aa a1 a2 a3 a4 a5 a6 N B D : Nat) (tf rf i what : Int32) (w0 : Int64) (f1 f2 f3 f4 f5 f6 : Nat → Int32) (f g : Nat → Int64) (hN_N : N ≤ 10) (hB_B : B ≤ 6) (hD_D : 1 ≤ D ∧ D ≤ 9) : Met l yX10_awake (Cond.code yX10_awake cX10_awake 3 (some .long) :: GT) ({ frames := 6, cells := 0, slots := 0, locals := 135 } : Room) (PcW [.ref h0, .int i, .int what] dC dI G [(h0, .inr (10, [.ref rd, .ref wy, .ref tr, .ref im, .ref kp, .ref od, .ref ch, .ref cr, .ref le, .ref mk, .ref tl, .ref sh, .int tf, .int rf])), (od, .inr (4, [.long w0, .ref sa, .ref aa])), (sa, .inl (G 1, 10, .inr (.inl f))), (aa, .inl (G 1, 10, .inr (.inl g))), (wy, .inr (9, [.int (nI N), .int (nI B), .int (nI D), .ref a1, .ref a2, .ref a3, .ref a4, .ref a5, .ref a6])), (a1, .inl (G 0, 10, .inl f1)), (a2, .inl (G 0, 10, .inl f2)), (a3, .inl (G 0, 10, .inl f3)), (a4, .inl (G 0, 6, .inl f4)), (a5, .inl (G 0, 6, .inl f5)), (a6, .inl (G 0, 6, .inl f6))] sz) (va_Ql (fun (r : Int64) (u : Int64 × (Nat → Int64) × (Nat → Int64)) => match u with | (u0, u1, u2) => (True) ∧ True) (fun (u : Int64 × (Nat → Int64) × (Nat → Int64)) (t : State) => match u with | (u0, u1, u2) => va_P (dC, dI) vwCl [(h0, .inr (10, [.ref rd, .ref wy, .ref tr, .ref im, .ref kp, .ref od, .ref ch, .ref cr, .ref le, .ref mk, .ref tl, .ref sh, .int tf, .int rf])), (od, .inr (4, [.long u0, .ref sa, .ref aa])), (sa, .inl (G 1, 10, .inr (.inl u1))), (aa, .inl (G 1, 10, .inr (.inl u2))), (wy, .inr (9, [.int (nI N), .int (nI B), .int (nI D), .ref a1, .ref a2, .ref a3, .ref a4, .ref a5, .ref a6])), (a1, .inl (G 0, 10, .inl f1)), (a2, .inl (G 0, 10, .inl f2)), (a3, .inl (G 0, 10, .inl f3)), (a4, .inl (G 0, 6, .inl f4)), (a5, .inl (G 0, 6, .inl f5)), (a6, .inl (G 0, 6, .inl f6))] t.heap ∧ va_D (va_A [(h0, .inr (10, [.ref rd, .ref wy, .ref tr, .ref im, .ref kp, .ref od, .ref ch, .ref cr, .ref le, .ref mk, .ref tl, .ref sh, .int tf, .int rf])), (od, .inr (4, [.long w0, .ref sa, .ref aa])), (sa, .inl (G 1, 10, .inr (.inl f))), (aa, .inl (G 1, 10, .inr (.inl g))), (wy, .inr (9, [.int (nI N), .int (nI B), .int (nI D), .ref a1, .ref a2, .ref a3, .ref a4, .ref a5, .ref a6])), (a1, .inl (G 0, 10, .inl f1)), (a2, .inl (G 0, 10, .inl f2)), (a3, .inl (G 0, 10, .inl f3)), (a4, .inl (G 0, 6, .inl f4)), (a5, .inl (G 0, 6, .inl f5)), (a6, .inl (G 0, 6, .inl f6))] sz) [(h0, .inr (10, [.ref rd, .ref wy, .ref tr, .ref im, .ref kp, .ref od, .ref ch, .ref cr, .ref le, .ref mk, .ref tl, .ref sh, .int tf, .int rf])), (od, .inr (4, [.long u0, .ref sa, .ref aa])), (sa, .inl (G 1, 10, .inr (.inl u1))), (aa, .inl (G 1, 10, .inr (.inl u2))), (wy, .inr (9, [.int (nI N), .int (nI B), .int (nI D), .ref a1, .ref a2, .ref a3, .ref a4, .ref a5, .ref a6])), (a1, .inl (G 0, 10, .inl f1)), (a2, .inl (G 0, 10, .inl f2)), (a3, .inl (G 0, 10, .inl f3)), (a4, .inl (G 0, 6, .inl f4)), (a5, .inl (G 0, 6, .inl f5)), (a6, .inl (G 0, 6, .inl f6))]) (va_A [(h0, .inr (10, [.ref rd, .ref wy, .ref tr, .ref im, .ref kp, .ref od, .ref ch, .ref cr, .ref le, .ref mk, .ref tl, .ref sh, .int tf, .int rf])), (od, .inr (4, [.long w0, .ref sa, .ref aa])), (sa, .inl (G 1, 10, .inr (.inl f))), (aa, .inl (G 1, 10, .inr (.inl g))), (wy, .inr (9, [.int (nI N), .int (nI B), .int (nI D), .ref a1, .ref a2, .ref a3, .ref a4, .ref a5, .ref a6])), (a1, .inl (G 0, 10, .inl f1)), (a2, .inl (G 0, 10, .inl f2)), (a3, .inl (G 0, 10, .inl f3)), (a4, .inl (G 0, 6, .inl f4)), (a5, .inl (G 0, 6, .inl f5)), (a6, .inl (G 0, 6, .inl f6))] sz)) 0 0 (va_A [(h0, .inr (10, [.ref rd, .ref wy, .ref tr, .ref im, .ref kp, .ref od, .ref ch, .ref cr, .ref le, .ref mk, .ref tl, .ref sh, .int tf, .int rf])), (od, .inr (4, [.long w0, .ref sa, .ref aa])), (sa, .inl (G 1, 10, .inr (.inl f))), (aa, .inl (G 1, 10, .inr (.inl g))), (wy, .inr (9, [.int (nI N), .int (nI B), .int (nI D), .ref a1, .ref a2, .ref a3, .ref a4, .ref a5, .ref a6])), (a1, .inl (G 0, 10, .inl f1)), (a2, .inl (G 0, 10, .inl f2)), (a3, .inl (G 0, 10, .inl f3)), (a4, .inl (G 0, 6, .inl f4)), (a5, .inl (G 0, 6, .inl f5)), (a6, .inl (G 0, 6, .inl f6))] sz) := by
  have tn256_ : nIT N := fun _ => nI_toInt (by omega)
  have tn257_ : nIT B := fun _ => nI_toInt (by omega)
  have tn258_ : nIT D := fun _ => nI_toInt (by omega)
  refine Met.ofW (cc := cX10_awake) (maxL := 3) (ret := (some .long)) (by decide) rfl ?_
  intro p e s m args below meth c s₁ Bd hml hv
  obtain ⟨rfl, hsz, hP, hK, hD0⟩ := hv
  have hx := Bd.exec
  have hb := Bd.bytes
  have hr := Bd.returns
  have hg : ∀ w ∈ GT, w.before ([.ref h0, .int i, .int what] : List Value).toArray s = true := fun w h => atoms_spec (ws := Cond.code yX10_awake cX10_awake 3 (some .long) :: GT) Bd.pre w (List.mem_cons_of_mem _ h)
  have hown : s.vm.findClass RX10 = some m.cls := findClass_of_methodNamed Bd.named
  have hlocks := Bd.notSynchronized
  subst hsz
  have hD := hD0.self (sz := s.heap.size)
  generalize hAe : va_A [(h0, .inr (10, [.ref rd, .ref wy, .ref tr, .ref im, .ref kp, .ref od, .ref ch, .ref cr, .ref le, .ref mk, .ref tl, .ref sh, .int tf, .int rf])), (od, .inr (4, [.long w0, .ref sa, .ref aa])), (sa, .inl (G 1, 10, .inr (.inl f))), (aa, .inl (G 1, 10, .inr (.inl g))), (wy, .inr (9, [.int (nI N), .int (nI B), .int (nI D), .ref a1, .ref a2, .ref a3, .ref a4, .ref a5, .ref a6])), (a1, .inl (G 0, 10, .inl f1)), (a2, .inl (G 0, 10, .inl f2)), (a3, .inl (G 0, 10, .inl f3)), (a4, .inl (G 0, 6, .inl f4)), (a5, .inl (G 0, 6, .inl f5)), (a6, .inl (G 0, 6, .inl f6))] s.heap.size = A at hD ⊢
  have hA : ∀ q : Nat, s.heap.size ≤ q → A q := fun q h => by rw [← hAe]; exact Or.inr h
  have hS : va_S A s.heap s.heap [] := va_S.rf
  have hl := lv_entry ([.ref h0, .int i, .int what]) (n := 3) (Nat.le_of_ble_eq_true rfl)
  rw [lg_entry_eq]
  generalize (lg_sl ([.ref h0, .int i, .int what]) ++ List.replicate (3 - (lg_sl ([.ref h0, .int i, .int what])).length) Slot.unset).toArray = ls at hl ⊢
  have hl : lv_has ls 3 [(0, .ref h0), (1, .int i), (2, .int what)] := hl
  refine lv_aload_n hx hb dX10_awake_0 rfl (lv_at hl 0 rfl) ?_
  refine lv_iload_n hx hb dX10_awake_1 rfl (lv_at hl 1 rfl) ?_
  refine lv_iconst (v := 0) hx hb dX10_awake_2 rfl ?_
  refine lv_iload_n hx hb dX10_awake_3 rfl (lv_at hl 2 rfl) ?_
  obtain ⟨hPc, hDc, hFc⟩ := va_sub3 (ws' := [(h0, .inr (10, [.ref rd, .ref wy, .ref tr, .ref im, .ref kp, .ref od, .ref ch, .ref cr, .ref le, .ref mk, .ref tl, .ref sh, .int tf, .int rf])), (od, .inr (4, [.long w0, .ref sa, .ref aa])), (sa, .inl (G 1, 10, .inr (.inl f))), (aa, .inl (G 1, 10, .inr (.inl g))), (wy, .inr (9, [.int (nI N), .int (nI B), .int (nI D), .ref a1, .ref a2, .ref a3, .ref a4, .ref a5, .ref a6])), (a1, .inl (G 0, 10, .inl f1)), (a2, .inl (G 0, 10, .inl f2)), (a3, .inl (G 0, 10, .inl f3)), (a4, .inl (G 0, 6, .inl f4)), (a5, .inl (G 0, 6, .inl f5)), (a6, .inl (G 0, 6, .inl f6))]) hP hD hS hA [0, 1, 2, 3, 4, 5, 6, 7, 8, 9, 10] (by decide +kernel) rfl
  refine va_calll (va_runV (As := [.int i, .int 0, .int what]) (rest := []) ⟨hx, hb, hml, hown, hg⟩ (c_X10_depth l dC dI G _ h0 rd wy tr im kp od ch cr le mk tl sh sa aa a1 a2 a3 a4 a5 a6 N B D tf rf i 0 what w0 f1 f2 f3 f4 f5 f6 f g hN_N hB_B hD_D) (kwV hg mfX10_depth wt_645 ⟨Nat.le_of_ble_eq_true rfl, Nat.le_of_ble_eq_true rfl⟩) (preVW hK hPc hDc (ci := 10) (r := (RX10, TX10, 14)) rfl rfl) rfl rfl hl.1 rfl (lv_room (Nat.le_of_ble_eq_true rfl)) dX10_awake_4 ⟨Nat.le_of_ble_eq_true rfl, Nat.le_of_ble_eq_true rfl⟩) hS (fun q _ h => hFc q h) hFc (fun r1 ur1 t H1 locs ht hvm w2 hB hz1 hk1 hS => ?_)
  obtain ⟨u3, u4, u5⟩ := ur1
  obtain ⟨hP1, hD1⟩ := hB
  rw [ht] at hP1
  obtain ⟨hP, hD⟩ := va_join (wr := []) (w1 := [(h0, .inr (10, [.ref rd, .ref wy, .ref tr, .ref im, .ref kp, .ref od, .ref ch, .ref cr, .ref le, .ref mk, .ref tl, .ref sh, .int tf, .int rf])), (od, .inr (4, [.long u3, .ref sa, .ref aa])), (sa, .inl (G 1, 10, .inr (.inl u4))), (aa, .inl (G 1, 10, .inr (.inl u5))), (wy, .inr (9, [.int (nI N), .int (nI B), .int (nI D), .ref a1, .ref a2, .ref a3, .ref a4, .ref a5, .ref a6])), (a1, .inl (G 0, 10, .inl f1)), (a2, .inl (G 0, 10, .inl f2)), (a3, .inl (G 0, 10, .inl f3)), (a4, .inl (G 0, 6, .inl f4)), (a5, .inl (G 0, 6, .inl f5)), (a6, .inl (G 0, 6, .inl f6))]) hP hD [0, 1, 2, 3, 4, 5, 6, 7, 8, 9, 10] [] rfl rfl (by decide +kernel) (by decide +kernel) hk1 hFc hP1 hD1
  generalize H1 = H at hP hS ⊢
  obtain ⟨w2, w2x⟩ := w2
  have hpost : True := by
    trivial
  obtain ⟨hP9, hD9⟩ := va_sub2 (ws' := [(h0, .inr (10, [.ref rd, .ref wy, .ref tr, .ref im, .ref kp, .ref od, .ref ch, .ref cr, .ref le, .ref mk, .ref tl, .ref sh, .int tf, .int rf])), (od, .inr (4, [.long u3, .ref sa, .ref aa])), (sa, .inl (G 1, 10, .inr (.inl u4))), (aa, .inl (G 1, 10, .inr (.inl u5))), (wy, .inr (9, [.int (nI N), .int (nI B), .int (nI D), .ref a1, .ref a2, .ref a3, .ref a4, .ref a5, .ref a6])), (a1, .inl (G 0, 10, .inl f1)), (a2, .inl (G 0, 10, .inl f2)), (a3, .inl (G 0, 10, .inl f3)), (a4, .inl (G 0, 6, .inl f4)), (a5, .inl (G 0, 6, .inl f5)), (a6, .inl (G 0, 6, .inl f6))]) hP hD [0, 1, 2, 3, 4, 5, 6, 7, 8, 9, 10] (by decide +kernel) rfl
  refine W.widen (k := 0) (n := 0) (Nat.le_of_ble_eq_true rfl) (Nat.le_of_ble_eq_true rfl) ?_
  exact W.lret (v := r1) hx hb hr (fun t ht hW => ⟨⟨r1, (u3, u4, u5), rfl, ⟨hpost, trivial⟩, ⟨by rw [ht]; exact hP9, hD9⟩⟩, hS.F ht⟩) hS.2.2 dX10_awake_7

set_option maxHeartbeats 1000000 in
set_option maxRecDepth 100000 in
theorem c_X10_next (l : Launch) (dC : Nat → ClassId) (dI : Nat → Nat → Nat) (G : Nat → ClassId) (sz : Nat) (h0 rd wy tr im kp od ch cr le mk tl sh wk cs a1 a2 a3 a4 a5 a6 N B D : Nat) (tf rf i g d : Int32) (w0 : Int64) (f1 f2 f4 f5 f6 : Nat → Int32) (rw rq : Nat → Nat) (F : Nat → Nat → Int64) (E : Nat → Nat → Int32) (hN_N : N ≤ 10) (hB_B : B ≤ 6) (hD_D : 1 ≤ D ∧ D ≤ 9) : Met l yX10_next (Cond.code yX10_next cX10_next 5 (some .int) :: GT) ({ frames := 5, cells := 0, slots := 0, locals := 116 } : Room) (PcW [.ref h0, .int i, .int g, .int d] dC dI G (([(h0, .inr (10, [.ref rd, .ref wy, .ref tr, .ref im, .ref kp, .ref od, .ref ch, .ref cr, .ref le, .ref mk, .ref tl, .ref sh, .int tf, .int rf])), (ch, .inr (0, [.long w0, .ref wk, .ref cs])), (wk, .inl (G 5, 11, .inr (.inr (.inr (.inr (fun ir => if ir < 11 then some (rw ir) else none)))))), (cs, .inl (G 4, 10, .inr (.inr (.inr (.inr (fun ir => if ir < 10 then some (rq ir) else none)))))), (wy, .inr (9, [.int (nI N), .int (nI B), .int (nI D), .ref a1, .ref a2, .ref a3, .ref a4, .ref a5, .ref a6])), (a1, .inl (G 0, 10, .inl f1)), (a2, .inl (G 0, 10, .inl f2)), (a4, .inl (G 0, 6, .inl f4)), (a5, .inl (G 0, 6, .inl f5)), (a6, .inl (G 0, 6, .inl f6))] : va_W) ++ ((((List.range 11).map (fun iq => (rw iq, .inl (G 1, 70, .inr (.inl (F iq)))))) : va_W) ++ ((((List.range 10).map (fun iq => (rq iq, .inl (G 0, 70, .inl (E iq))))) : va_W) ++ []))) sz) (va_Qi (fun (r : Int32) (u : Int64 × (Nat → Nat → Int64) × (Nat → Nat → Int32)) => match u with | (u0, u1, u2) => (True) ∧ True) (fun (u : Int64 × (Nat → Nat → Int64) × (Nat → Nat → Int32)) (t : State) => match u with | (u0, u1, u2) => va_P (dC, dI) vwCl (([(h0, .inr (10, [.ref rd, .ref wy, .ref tr, .ref im, .ref kp, .ref od, .ref ch, .ref cr, .ref le, .ref mk, .ref tl, .ref sh, .int tf, .int rf])), (ch, .inr (0, [.long u0, .ref wk, .ref cs])), (wk, .inl (G 5, 11, .inr (.inr (.inr (.inr (fun ir => if ir < 11 then some (rw ir) else none)))))), (cs, .inl (G 4, 10, .inr (.inr (.inr (.inr (fun ir => if ir < 10 then some (rq ir) else none)))))), (wy, .inr (9, [.int (nI N), .int (nI B), .int (nI D), .ref a1, .ref a2, .ref a3, .ref a4, .ref a5, .ref a6])), (a1, .inl (G 0, 10, .inl f1)), (a2, .inl (G 0, 10, .inl f2)), (a4, .inl (G 0, 6, .inl f4)), (a5, .inl (G 0, 6, .inl f5)), (a6, .inl (G 0, 6, .inl f6))] : va_W) ++ ((((List.range 11).map (fun iq => (rw iq, .inl (G 1, 70, .inr (.inl (u1 iq)))))) : va_W) ++ ((((List.range 10).map (fun iq => (rq iq, .inl (G 0, 70, .inl (u2 iq))))) : va_W) ++ []))) t.heap ∧ va_D (va_A (([(h0, .inr (10, [.ref rd, .ref wy, .ref tr, .ref im, .ref kp, .ref od, .ref ch, .ref cr, .ref le, .ref mk, .ref tl, .ref sh, .int tf, .int rf])), (ch, .inr (0, [.long w0, .ref wk, .ref cs])), (wk, .inl (G 5, 11, .inr (.inr (.inr (.inr (fun ir => if ir < 11 then some (rw ir) else none)))))), (cs, .inl (G 4, 10, .inr (.inr (.inr (.inr (fun ir => if ir < 10 then some (rq ir) else none)))))), (wy, .inr (9, [.int (nI N), .int (nI B), .int (nI D), .ref a1, .ref a2, .ref a3, .ref a4, .ref a5, .ref a6])), (a1, .inl (G 0, 10, .inl f1)), (a2, .inl (G 0, 10, .inl f2)), (a4, .inl (G 0, 6, .inl f4)), (a5, .inl (G 0, 6, .inl f5)), (a6, .inl (G 0, 6, .inl f6))] : va_W) ++ ((((List.range 11).map (fun iq => (rw iq, .inl (G 1, 70, .inr (.inl (F iq)))))) : va_W) ++ ((((List.range 10).map (fun iq => (rq iq, .inl (G 0, 70, .inl (E iq))))) : va_W) ++ []))) sz) (([(h0, .inr (10, [.ref rd, .ref wy, .ref tr, .ref im, .ref kp, .ref od, .ref ch, .ref cr, .ref le, .ref mk, .ref tl, .ref sh, .int tf, .int rf])), (ch, .inr (0, [.long u0, .ref wk, .ref cs])), (wk, .inl (G 5, 11, .inr (.inr (.inr (.inr (fun ir => if ir < 11 then some (rw ir) else none)))))), (cs, .inl (G 4, 10, .inr (.inr (.inr (.inr (fun ir => if ir < 10 then some (rq ir) else none)))))), (wy, .inr (9, [.int (nI N), .int (nI B), .int (nI D), .ref a1, .ref a2, .ref a3, .ref a4, .ref a5, .ref a6])), (a1, .inl (G 0, 10, .inl f1)), (a2, .inl (G 0, 10, .inl f2)), (a4, .inl (G 0, 6, .inl f4)), (a5, .inl (G 0, 6, .inl f5)), (a6, .inl (G 0, 6, .inl f6))] : va_W) ++ ((((List.range 11).map (fun iq => (rw iq, .inl (G 1, 70, .inr (.inl (u1 iq)))))) : va_W) ++ ((((List.range 10).map (fun iq => (rq iq, .inl (G 0, 70, .inl (u2 iq))))) : va_W) ++ [])))) (va_A (([(h0, .inr (10, [.ref rd, .ref wy, .ref tr, .ref im, .ref kp, .ref od, .ref ch, .ref cr, .ref le, .ref mk, .ref tl, .ref sh, .int tf, .int rf])), (ch, .inr (0, [.long w0, .ref wk, .ref cs])), (wk, .inl (G 5, 11, .inr (.inr (.inr (.inr (fun ir => if ir < 11 then some (rw ir) else none)))))), (cs, .inl (G 4, 10, .inr (.inr (.inr (.inr (fun ir => if ir < 10 then some (rq ir) else none)))))), (wy, .inr (9, [.int (nI N), .int (nI B), .int (nI D), .ref a1, .ref a2, .ref a3, .ref a4, .ref a5, .ref a6])), (a1, .inl (G 0, 10, .inl f1)), (a2, .inl (G 0, 10, .inl f2)), (a4, .inl (G 0, 6, .inl f4)), (a5, .inl (G 0, 6, .inl f5)), (a6, .inl (G 0, 6, .inl f6))] : va_W) ++ ((((List.range 11).map (fun iq => (rw iq, .inl (G 1, 70, .inr (.inl (F iq)))))) : va_W) ++ ((((List.range 10).map (fun iq => (rq iq, .inl (G 0, 70, .inl (E iq))))) : va_W) ++ []))) sz)) 0 0 (va_A (([(h0, .inr (10, [.ref rd, .ref wy, .ref tr, .ref im, .ref kp, .ref od, .ref ch, .ref cr, .ref le, .ref mk, .ref tl, .ref sh, .int tf, .int rf])), (ch, .inr (0, [.long w0, .ref wk, .ref cs])), (wk, .inl (G 5, 11, .inr (.inr (.inr (.inr (fun ir => if ir < 11 then some (rw ir) else none)))))), (cs, .inl (G 4, 10, .inr (.inr (.inr (.inr (fun ir => if ir < 10 then some (rq ir) else none)))))), (wy, .inr (9, [.int (nI N), .int (nI B), .int (nI D), .ref a1, .ref a2, .ref a3, .ref a4, .ref a5, .ref a6])), (a1, .inl (G 0, 10, .inl f1)), (a2, .inl (G 0, 10, .inl f2)), (a4, .inl (G 0, 6, .inl f4)), (a5, .inl (G 0, 6, .inl f5)), (a6, .inl (G 0, 6, .inl f6))] : va_W) ++ ((((List.range 11).map (fun iq => (rw iq, .inl (G 1, 70, .inr (.inl (F iq)))))) : va_W) ++ ((((List.range 10).map (fun iq => (rq iq, .inl (G 0, 70, .inl (E iq))))) : va_W) ++ []))) sz) := by
  have tn259_ : nIT N := fun _ => nI_toInt (by omega)
  have tn260_ : nIT B := fun _ => nI_toInt (by omega)
  have tn261_ : nIT D := fun _ => nI_toInt (by omega)
  refine Met.ofW (cc := cX10_next) (maxL := 5) (ret := (some .int)) (by decide) rfl ?_
  intro p e s m args below meth c s₁ Bd hml hv
  obtain ⟨rfl, hsz, hP, hK, hD0⟩ := hv
  have hx := Bd.exec
  have hb := Bd.bytes
  have hr := Bd.returns
  have hg : ∀ w ∈ GT, w.before ([.ref h0, .int i, .int g, .int d] : List Value).toArray s = true := fun w h => atoms_spec (ws := Cond.code yX10_next cX10_next 5 (some .int) :: GT) Bd.pre w (List.mem_cons_of_mem _ h)
  have hown : s.vm.findClass RX10 = some m.cls := findClass_of_methodNamed Bd.named
  have hlocks := Bd.notSynchronized
  subst hsz
  have hD := hD0.self (sz := s.heap.size)
  generalize hAe : va_A (([(h0, .inr (10, [.ref rd, .ref wy, .ref tr, .ref im, .ref kp, .ref od, .ref ch, .ref cr, .ref le, .ref mk, .ref tl, .ref sh, .int tf, .int rf])), (ch, .inr (0, [.long w0, .ref wk, .ref cs])), (wk, .inl (G 5, 11, .inr (.inr (.inr (.inr (fun ir => if ir < 11 then some (rw ir) else none)))))), (cs, .inl (G 4, 10, .inr (.inr (.inr (.inr (fun ir => if ir < 10 then some (rq ir) else none)))))), (wy, .inr (9, [.int (nI N), .int (nI B), .int (nI D), .ref a1, .ref a2, .ref a3, .ref a4, .ref a5, .ref a6])), (a1, .inl (G 0, 10, .inl f1)), (a2, .inl (G 0, 10, .inl f2)), (a4, .inl (G 0, 6, .inl f4)), (a5, .inl (G 0, 6, .inl f5)), (a6, .inl (G 0, 6, .inl f6))] : va_W) ++ ((((List.range 11).map (fun iq => (rw iq, .inl (G 1, 70, .inr (.inl (F iq)))))) : va_W) ++ ((((List.range 10).map (fun iq => (rq iq, .inl (G 0, 70, .inl (E iq))))) : va_W) ++ []))) s.heap.size = A at hD ⊢
  have hA : ∀ q : Nat, s.heap.size ≤ q → A q := fun q h => by rw [← hAe]; exact Or.inr h
  have hS : va_S A s.heap s.heap [] := va_S.rf
  have hl := lv_entry ([.ref h0, .int i, .int g, .int d]) (n := 5) (Nat.le_of_ble_eq_true rfl)
  rw [lg_entry_eq]
  generalize (lg_sl ([.ref h0, .int i, .int g, .int d]) ++ List.replicate (5 - (lg_sl ([.ref h0, .int i, .int g, .int d])).length) Slot.unset).toArray = ls at hl ⊢
  have hl : lv_has ls 5 [(0, .ref h0), (1, .int i), (2, .int g), (3, .int d)] := hl
  refine lv_iload_n hx hb dX10_next_0 rfl (lv_at hl 2 rfl) ?_
  refine lv_bipush (v := (-4)) hx hb dX10_next_1 rfl ?_
  refine lv_icmp_ne (tgt := 14) hx hb dX10_next_3 rfl (fun c1 => ?_) (fun c1 => ?_)
  · skip
    refine lv_iconst (v := 0) hx hb dX10_next_14 rfl ?_
    refine lv_istore (lv' := [(4, .int 0), (0, .ref h0), (1, .int i), (2, .int g), (3, .int d)]) hx hb dX10_next_15 hl (by decide) rfl (fun ls hl => ?_)
    refine lv_aload_n hx hb dX10_next_17 rfl (lv_at hl 1 rfl) ?_
    refine va_get (D := (dC, dI)) (ci := 10) (v := .ref wy) (C := RX10) (T := TX10) (N := 14) hx hb hg inG10 hown hK.1 hP 0 rfl rfl 1 (Nat.le_of_ble_eq_true rfl) (hg _ wt_303) (fun _ h9 => h9) rfl dX10_next_18 ?_
    refine lv_iload_n hx hb dX10_next_21 rfl (lv_at hl 2 rfl) ?_
    have hPc := hP.sub (ws' := [(wy, .inr (9, [.int (nI N), .int (nI B), .int (nI D), .ref a1, .ref a2, .ref a3, .ref a4, .ref a5, .ref a6]))]) [4] rfl
    refine va_calli (va_runVN (As := [.int i]) (rest := []) ⟨hx, hb, hml, hown, hg⟩ (c_X9_hasStretch l dC dI G _ wy a1 a2 a3 a4 a5 a6 N B D i hN_N hB_B hD_D) (kwVN hg hK mfX9_hasStretch wn_527 ⟨Nat.le_of_ble_eq_true rfl, Nat.le_of_ble_eq_true rfl⟩) (preVR hK hPc (ci := 9) (r := (RX9, TX9, 9)) rfl rfl) rfl rfl hl.1 rfl (lv_room (Nat.le_of_ble_eq_true rfl)) dX10_next_22 ⟨Nat.le_of_ble_eq_true rfl, Nat.le_of_ble_eq_true rfl⟩) hS (fun q h1 h2 => absurd h2 (Nat.not_le.mpr h1)) (fun q h => hA q (Nat.le_trans hS.1 h)) (fun r2 ur2 t H1 locs ht hvm w3 hB hz1 hk1 hS => ?_)
    have hP := keepR hP hk1
    obtain ⟨w3, w3x⟩ := w3
    try simp only [l_ii, show (0 : Int32).toInt = 0 from by decide] at w3
    try rw [show (nI (N)).toInt = ((N : Nat) : Int) from tn259_ ()] at w3
    subst w3
    refine lv_if_eq (tgt := 55) hx hb dX10_next_25 rfl (fun c4 => ?_) (fun c4 => ?_)
    · skip
      have b5 := if10_n c4
      refine lv_iconst (v := (-1)) hx hb dX10_next_55 rfl ?_
      have hpost : True := by
        trivial
      obtain ⟨hP9, hD9⟩ := va_sub2 (ws' := (([(h0, .inr (10, [.ref rd, .ref wy, .ref tr, .ref im, .ref kp, .ref od, .ref ch, .ref cr, .ref le, .ref mk, .ref tl, .ref sh, .int tf, .int rf])), (ch, .inr (0, [.long w0, .ref wk, .ref cs])), (wk, .inl (G 5, 11, .inr (.inr (.inr (.inr (fun ir => if ir < 11 then some (rw ir) else none)))))), (cs, .inl (G 4, 10, .inr (.inr (.inr (.inr (fun ir => if ir < 10 then some (rq ir) else none)))))), (wy, .inr (9, [.int (nI N), .int (nI B), .int (nI D), .ref a1, .ref a2, .ref a3, .ref a4, .ref a5, .ref a6])), (a1, .inl (G 0, 10, .inl f1)), (a2, .inl (G 0, 10, .inl f2)), (a4, .inl (G 0, 6, .inl f4)), (a5, .inl (G 0, 6, .inl f5)), (a6, .inl (G 0, 6, .inl f6))] : va_W) ++ ((((List.range 11).map (fun iq => (rw iq, .inl (G 1, 70, .inr (.inl (F iq)))))) : va_W) ++ ((((List.range 10).map (fun iq => (rq iq, .inl (G 0, 70, .inl (E iq))))) : va_W) ++ [])))) hP hD [0, 1, 2, 3, 4, 5, 6, 7, 8, 9, 10, 11, 12, 13, 14, 15, 16, 17, 18, 19, 20, 21, 22, 23, 24, 25, 26, 27, 28, 29, 30] (by decide +kernel) rfl
      refine W.widen (k := 0) (n := 0) (Nat.le_of_ble_eq_true rfl) (Nat.le_of_ble_eq_true rfl) ?_
      exact W.iret (v := (-1)) hx hb hr (fun t ht hW => ⟨⟨(-1), (w0, F, E), rfl, ⟨hpost, trivial⟩, ⟨by rw [ht]; exact hP9, hD9⟩⟩, hS.F ht⟩) hS.2.2 dX10_next_56
    · skip
      have b6 := if10_p c4
      refine lv_iload hx hb dX10_next_28 (lv_at hl 0 rfl) ?_
      refine lv_if_ne (tgt := 44) hx hb dX10_next_30 rfl (fun c7 => ?_) (fun c7 => ?_)
      · skip
        exact absurd c7 (by decide)
      · skip
        refine lv_aload_n hx hb dX10_next_33 rfl (lv_at hl 1 rfl) ?_
        refine va_get (D := (dC, dI)) (ci := 10) (v := .ref wy) (C := RX10) (T := TX10) (N := 14) hx hb hg inG10 hown hK.1 hP 0 rfl rfl 1 (Nat.le_of_ble_eq_true rfl) (hg _ wt_303) (fun _ h9 => h9) rfl dX10_next_34 ?_
        refine lv_iload_n hx hb dX10_next_37 rfl (lv_at hl 3 rfl) ?_
        have hPc := hP.sub (ws' := [(wy, .inr (9, [.int (nI N), .int (nI B), .int (nI D), .ref a1, .ref a2, .ref a3, .ref a4, .ref a5, .ref a6]))]) [4] rfl
        refine va_calli (va_runVN (As := [.int g]) (rest := []) ⟨hx, hb, hml, hown, hg⟩ (c_X9_hasBearer l dC dI G _ wy a1 a2 a3 a4 a5 a6 N B D g hN_N hB_B hD_D) (kwVN hg hK mfX9_hasBearer wn_535 ⟨Nat.le_of_ble_eq_true rfl, Nat.le_of_ble_eq_true rfl⟩) (preVR hK hPc (ci := 9) (r := (RX9, TX9, 9)) rfl rfl) rfl rfl hl.1 rfl (lv_room (Nat.le_of_ble_eq_true rfl)) dX10_next_38 ⟨Nat.le_of_ble_eq_true rfl, Nat.le_of_ble_eq_true rfl⟩) hS (fun q h1 h2 => absurd h2 (Nat.not_le.mpr h1)) (fun q h => hA q (Nat.le_trans hS.1 h)) (fun r8 ur8 t H1 locs ht hvm w9 hB hz1 hk1 hS => ?_)
        have hP := keepR hP hk1
        obtain ⟨w9, w9x⟩ := w9
        try simp only [l_ii, show (0 : Int32).toInt = 0 from by decide] at w9
        try rw [show (nI (B)).toInt = ((B : Nat) : Int) from tn260_ ()] at w9
        subst w9
        refine lv_if_eq (tgt := 55) hx hb dX10_next_41 rfl (fun c10 => ?_) (fun c10 => ?_)
        · skip
          have b11 := if10_n c10
          refine lv_iconst (v := (-1)) hx hb dX10_next_55 rfl ?_
          have hpost : True := by
            trivial
          obtain ⟨hP9, hD9⟩ := va_sub2 (ws' := (([(h0, .inr (10, [.ref rd, .ref wy, .ref tr, .ref im, .ref kp, .ref od, .ref ch, .ref cr, .ref le, .ref mk, .ref tl, .ref sh, .int tf, .int rf])), (ch, .inr (0, [.long w0, .ref wk, .ref cs])), (wk, .inl (G 5, 11, .inr (.inr (.inr (.inr (fun ir => if ir < 11 then some (rw ir) else none)))))), (cs, .inl (G 4, 10, .inr (.inr (.inr (.inr (fun ir => if ir < 10 then some (rq ir) else none)))))), (wy, .inr (9, [.int (nI N), .int (nI B), .int (nI D), .ref a1, .ref a2, .ref a3, .ref a4, .ref a5, .ref a6])), (a1, .inl (G 0, 10, .inl f1)), (a2, .inl (G 0, 10, .inl f2)), (a4, .inl (G 0, 6, .inl f4)), (a5, .inl (G 0, 6, .inl f5)), (a6, .inl (G 0, 6, .inl f6))] : va_W) ++ ((((List.range 11).map (fun iq => (rw iq, .inl (G 1, 70, .inr (.inl (F iq)))))) : va_W) ++ ((((List.range 10).map (fun iq => (rq iq, .inl (G 0, 70, .inl (E iq))))) : va_W) ++ [])))) hP hD [0, 1, 2, 3, 4, 5, 6, 7, 8, 9, 10, 11, 12, 13, 14, 15, 16, 17, 18, 19, 20, 21, 22, 23, 24, 25, 26, 27, 28, 29, 30] (by decide +kernel) rfl
          refine W.widen (k := 0) (n := 0) (Nat.le_of_ble_eq_true rfl) (Nat.le_of_ble_eq_true rfl) ?_
          exact W.iret (v := (-1)) hx hb hr (fun t ht hW => ⟨⟨(-1), (w0, F, E), rfl, ⟨hpost, trivial⟩, ⟨by rw [ht]; exact hP9, hD9⟩⟩, hS.F ht⟩) hS.2.2 dX10_next_56
        · skip
          have b12 := if10_p c10
          refine lv_iload_n hx hb dX10_next_44 rfl (lv_at hl 4 rfl) ?_
          refine lv_iconst (v := 1) hx hb dX10_next_45 rfl ?_
          refine lv_icmp_lt (tgt := 55) hx hb dX10_next_46 rfl (fun c13 => ?_) (fun c13 => ?_)
          · skip
            refine lv_iconst (v := (-1)) hx hb dX10_next_55 rfl ?_
            have hpost : True := by
              trivial
            obtain ⟨hP9, hD9⟩ := va_sub2 (ws' := (([(h0, .inr (10, [.ref rd, .ref wy, .ref tr, .ref im, .ref kp, .ref od, .ref ch, .ref cr, .ref le, .ref mk, .ref tl, .ref sh, .int tf, .int rf])), (ch, .inr (0, [.long w0, .ref wk, .ref cs])), (wk, .inl (G 5, 11, .inr (.inr (.inr (.inr (fun ir => if ir < 11 then some (rw ir) else none)))))), (cs, .inl (G 4, 10, .inr (.inr (.inr (.inr (fun ir => if ir < 10 then some (rq ir) else none)))))), (wy, .inr (9, [.int (nI N), .int (nI B), .int (nI D), .ref a1, .ref a2, .ref a3, .ref a4, .ref a5, .ref a6])), (a1, .inl (G 0, 10, .inl f1)), (a2, .inl (G 0, 10, .inl f2)), (a4, .inl (G 0, 6, .inl f4)), (a5, .inl (G 0, 6, .inl f5)), (a6, .inl (G 0, 6, .inl f6))] : va_W) ++ ((((List.range 11).map (fun iq => (rw iq, .inl (G 1, 70, .inr (.inl (F iq)))))) : va_W) ++ ((((List.range 10).map (fun iq => (rq iq, .inl (G 0, 70, .inl (E iq))))) : va_W) ++ [])))) hP hD [0, 1, 2, 3, 4, 5, 6, 7, 8, 9, 10, 11, 12, 13, 14, 15, 16, 17, 18, 19, 20, 21, 22, 23, 24, 25, 26, 27, 28, 29, 30] (by decide +kernel) rfl
            refine W.widen (k := 0) (n := 0) (Nat.le_of_ble_eq_true rfl) (Nat.le_of_ble_eq_true rfl) ?_
            exact W.iret (v := (-1)) hx hb hr (fun t ht hW => ⟨⟨(-1), (w0, F, E), rfl, ⟨hpost, trivial⟩, ⟨by rw [ht]; exact hP9, hD9⟩⟩, hS.F ht⟩) hS.2.2 dX10_next_56
          · skip
            refine lv_iload_n hx hb dX10_next_49 rfl (lv_at hl 4 rfl) ?_
            refine lv_bipush (v := 9) hx hb dX10_next_50 rfl ?_
            refine lv_icmp_le (tgt := 57) hx hb dX10_next_52 rfl (fun c14 => ?_) (fun c14 => ?_)
            · skip
              obtain ⟨ii, hii, rfl⟩ : ∃ j : Nat, j < 10 ∧ i = nI j := by
                have t_c1 := neI c1
                have t_b6 := b6
                have t_c7 := eqI c7
                have t_b12 := b12
                have t_c13 := nltI c13
                have t_c14 := leI c14
                have : ((-4) : Int32).toInt = -4 := qI_m4
                have : (0 : Int32).toInt = 0 := qI_0
                have : (1 : Int32).toInt = 1 := qI_1
                have : (9 : Int32).toInt = 9 := qI_9
                have t_n0 : (nI N).toInt = (N : Int) := tn259_ ()
                have t_n1 : (nI B).toInt = (B : Int) := tn260_ ()
                have t_n2 : (nI D).toInt = (D : Int) := tn261_ ()
                exact i32_nat (by omega) (by omega)
              obtain ⟨dd, hdd, rfl⟩ : ∃ j : Nat, j < 10 ∧ d = nI j := by
                have t_c1 := neI c1
                have t_b6 := b6
                have t_c7 := eqI c7
                have t_b12 := b12
                have t_c13 := nltI c13
                have t_c14 := leI c14
                have t_hii := hii
                have : ((-4) : Int32).toInt = -4 := qI_m4
                have : (0 : Int32).toInt = 0 := qI_0
                have : (1 : Int32).toInt = 1 := qI_1
                have : (9 : Int32).toInt = 9 := qI_9
                have t_n0 : (nI N).toInt = (N : Int) := tn259_ ()
                have t_n1 : (nI B).toInt = (B : Int) := tn260_ ()
                have t_n2 : (nI D).toInt = (D : Int) := tn261_ ()
                have tn262_ : nIT ii := fun _ => nI_toInt (by omega)
                have t_n3 : (nI ii).toInt = (ii : Int) := tn262_ ()
                exact i32_nat (by omega) (by omega)
              refine lv_aload_n hx hb dX10_next_57 rfl (lv_at hl 1 rfl) ?_
              refine va_get (D := (dC, dI)) (ci := 10) (v := .ref ch) (C := RX10) (T := TX10) (N := 14) hx hb hg inG10 hown hK.1 hP 0 rfl rfl 6 (Nat.le_of_ble_eq_true rfl) (hg _ wt_308) (fun _ h9 => h9) rfl dX10_next_58 ?_
              refine lv_aload_n hx hb dX10_next_61 rfl (lv_at hl 1 rfl) ?_
              refine va_get (D := (dC, dI)) (ci := 10) (v := .ref wy) (C := RX10) (T := TX10) (N := 14) hx hb hg inG10 hown hK.1 hP 0 rfl rfl 1 (Nat.le_of_ble_eq_true rfl) (hg _ wt_303) (fun _ h9 => h9) rfl dX10_next_62 ?_
              refine lv_bipush (v := (-4)) hx hb dX10_next_65 rfl ?_
              obtain ⟨hPc, hDc, hFc⟩ := va_sub3 (ws' := (([(ch, .inr (0, [.long w0, .ref wk, .ref cs])), (wk, .inl (G 5, 11, .inr (.inr (.inr (.inr (fun ir => if ir < 11 then some (rw ir) else none)))))), (cs, .inl (G 4, 10, .inr (.inr (.inr (.inr (fun ir => if ir < 10 then some (rq ir) else none)))))), (wy, .inr (9, [.int (nI N), .int (nI B), .int (nI D), .ref a1, .ref a2, .ref a3, .ref a4, .ref a5, .ref a6])), (a1, .inl (G 0, 10, .inl f1)), (a2, .inl (G 0, 10, .inl f2)), (a4, .inl (G 0, 6, .inl f4)), (a5, .inl (G 0, 6, .inl f5)), (a6, .inl (G 0, 6, .inl f6))] : va_W) ++ ((((List.range 11).map (fun iq => (rw iq, .inl (G 1, 70, .inr (.inl (F iq)))))) : va_W) ++ ((((List.range 10).map (fun iq => (rq iq, .inl (G 0, 70, .inl (E iq))))) : va_W) ++ [])))) hP hD hS hA [1, 2, 3, 4, 5, 6, 7, 8, 9, 10, 11, 12, 13, 14, 15, 16, 17, 18, 19, 20, 21, 22, 23, 24, 25, 26, 27, 28, 29, 30] (by decide +kernel) rfl
              have tn263_ : nIT ii := fun _ => nI_toInt (by first | omega | (have t_c1 := neI c1; have t_b6 := b6; have t_c7 := eqI c7; have t_b12 := b12; have t_c13 := nltI c13; have t_c14 := leI c14; have t_hii := hii; have t_hdd := hdd; have tqz_ := qz7_; omega))
              have tn264_ : nIT dd := fun _ => nI_toInt (by first | omega | (have t_c1 := neI c1; have t_b6 := b6; have t_c7 := eqI c7; have t_b12 := b12; have t_c13 := nltI c13; have t_c14 := leI c14; have t_hii := hii; have t_hdd := hdd; have tqz_ := qz7_; omega))
              refine va_callv (va_runVN (As := [.ref wy, .int (-4)]) (rest := []) ⟨hx, hb, hml, hown, hg⟩ (c_X0_plan l dC dI G _ ch wk cs wy a1 a2 a3 a4 a5 a6 N B D (-4) w0 f1 f2 f4 f5 f6 rw rq F E hN_N hB_B hD_D) (kwVN hg hK mfX0_plan wn_657 ⟨Nat.le_of_ble_eq_true rfl, Nat.le_of_ble_eq_true rfl⟩) (preVW hK hPc hDc (ci := 0) (r := (RX0, TX0, 3)) rfl rfl) rfl rfl hl.1 rfl (lv_room (Nat.le_of_ble_eq_true rfl)) dX10_next_67 ⟨Nat.le_of_ble_eq_true rfl, Nat.le_of_ble_eq_true rfl⟩) hS (fun q _ h => hFc q h) hFc (fun ur15 t H1 locs ht hvm w16 hB hz1 hk1 hS => ?_)
              obtain ⟨u17, u18, u19⟩ := ur15
              obtain ⟨hP1, hD1⟩ := hB
              rw [ht] at hP1
              obtain ⟨hP, hD⟩ := va_join (wr := [(h0, .inr (10, [.ref rd, .ref wy, .ref tr, .ref im, .ref kp, .ref od, .ref ch, .ref cr, .ref le, .ref mk, .ref tl, .ref sh, .int tf, .int rf]))]) (w1 := (([(ch, .inr (0, [.long u17, .ref wk, .ref cs])), (wk, .inl (G 5, 11, .inr (.inr (.inr (.inr (fun ir => if ir < 11 then some (rw ir) else none)))))), (cs, .inl (G 4, 10, .inr (.inr (.inr (.inr (fun ir => if ir < 10 then some (rq ir) else none)))))), (wy, .inr (9, [.int (nI N), .int (nI B), .int (nI D), .ref a1, .ref a2, .ref a3, .ref a4, .ref a5, .ref a6])), (a1, .inl (G 0, 10, .inl f1)), (a2, .inl (G 0, 10, .inl f2)), (a4, .inl (G 0, 6, .inl f4)), (a5, .inl (G 0, 6, .inl f5)), (a6, .inl (G 0, 6, .inl f6))] : va_W) ++ ((((List.range 11).map (fun iq => (rw iq, .inl (G 1, 70, .inr (.inl (u18 iq)))))) : va_W) ++ ((((List.range 10).map (fun iq => (rq iq, .inl (G 0, 70, .inl (u19 iq))))) : va_W) ++ [])))) hP hD [1, 2, 3, 4, 5, 6, 7, 8, 9, 10, 11, 12, 13, 14, 15, 16, 17, 18, 19, 20, 21, 22, 23, 24, 25, 26, 27, 28, 29, 30] [0] rfl rfl (by decide +kernel) (by decide +kernel) hk1 hFc hP1 hD1
              generalize H1 = H at hP hS ⊢
              obtain ⟨hP, hD⟩ := va_rls (ws' := (([(h0, .inr (10, [.ref rd, .ref wy, .ref tr, .ref im, .ref kp, .ref od, .ref ch, .ref cr, .ref le, .ref mk, .ref tl, .ref sh, .int tf, .int rf])), (ch, .inr (0, [.long u17, .ref wk, .ref cs])), (wk, .inl (G 5, 11, .inr (.inr (.inr (.inr (fun ir => if ir < 11 then some (rw ir) else none)))))), (cs, .inl (G 4, 10, .inr (.inr (.inr (.inr (fun ir => if ir < 10 then some (rq ir) else none)))))), (wy, .inr (9, [.int (nI N), .int (nI B), .int (nI D), .ref a1, .ref a2, .ref a3, .ref a4, .ref a5, .ref a6])), (a1, .inl (G 0, 10, .inl f1)), (a2, .inl (G 0, 10, .inl f2)), (a4, .inl (G 0, 6, .inl f4)), (a5, .inl (G 0, 6, .inl f5)), (a6, .inl (G 0, 6, .inl f6))] : va_W) ++ ((((List.range 11).map (fun iq => (rw iq, .inl (G 1, 70, .inr (.inl (u18 iq)))))) : va_W) ++ ((((List.range 10).map (fun iq => (rq iq, .inl (G 0, 70, .inl (u19 iq))))) : va_W) ++ [])))) hP hD rfl
              refine lv_aload_n hx hb dX10_next_70 rfl (lv_at hl 1 rfl) ?_
              refine va_get (D := (dC, dI)) (ci := 10) (v := .ref ch) (C := RX10) (T := TX10) (N := 14) hx hb hg inG10 hown hK.1 hP 0 rfl rfl 6 (Nat.le_of_ble_eq_true rfl) (hg _ wt_308) (fun _ h9 => h9) rfl dX10_next_71 ?_
              refine va_getN (D := (dC, dI)) (ci := 0) (v := .ref cs) (C := RX0) (T := TX0) (N := 3) hx hb hg inG0 hown hK.1 hP 1 rfl rfl 2 (Nat.le_of_ble_eq_true rfl) (hK.nest wn_184) (fun _ h9 => h9) rfl dX10_next_74 ?_
              refine lv_iload_n hx hb dX10_next_77 rfl (lv_at hl 2 rfl) ?_
              refine va_aldA hx hb hK.1 hP 3 4 rfl rfl (vp_in_nI (by first | omega | (have t_c1 := neI c1; have t_b6 := b6; have t_c7 := eqI c7; have t_b12 := b12; have t_c13 := nltI c13; have t_c14 := leI c14; have t_hii := hii; have t_hdd := hdd; have tqz_ := qz7_; have tnb_ := nib5 tn259_ tn260_ tn261_ tn263_ tn264_; omega)) (by decide)) dX10_next_78 ?_
              refine lv_cgv (y := .ref (rq ii)) (rowref (by first | omega | (have t_c1 := neI c1; have t_b6 := b6; have t_c7 := eqI c7; have t_b12 := b12; have t_c13 := nltI c13; have t_c14 := leI c14; have t_hii := hii; have t_hdd := hdd; have tqz_ := qz7_; have tnb_ := nib5 tn259_ tn260_ tn261_ tn263_ tn264_; omega)) (by decide)) ?_
              refine lv_iload_n hx hb dX10_next_79 rfl (lv_at hl 3 rfl) ?_
              refine lv_iload_n hx hb dX10_next_80 rfl (lv_at hl 4 rfl) ?_
              have hPc := hP.sub (ws' := []) [] rfl
              refine va_calli (va_runSN (As := [.int g, .int (nI dd)]) (rest := [.ref (rq ii)]) ⟨hx, hb, hml, hown, hg⟩ (c_X0_slot l dC dI G _ dd g (by have t_c1 := neI c1; have t_b6 := b6; have t_c7 := eqI c7; have t_b12 := b12; have t_c13 := nltI c13; have t_c14 := leI c14; have t_hii := hii; have t_hdd := hdd; have tqz_ := qz7_; have tnb_ := nib5 tn259_ tn260_ tn261_ tn263_ tn264_; omega) (by first | omega | (have t_c1 := neI c1; have t_b6 := b6; have t_c7 := eqI c7; have t_b12 := b12; have t_c13 := nltI c13; have t_c14 := leI c14; have t_hii := hii; have t_hdd := hdd; have tqz_ := qz7_; have tnb_ := nib5 tn259_ tn260_ tn261_ tn263_ tn264_; omega))) (kwSN hg hK mfX0_slot wn_684 ⟨Nat.le_of_ble_eq_true rfl, Nat.le_of_ble_eq_true rfl⟩) (preSR hK hPc) rfl rfl hl.1 rfl (lv_room (Nat.le_of_ble_eq_true rfl)) dX10_next_81 ⟨Nat.le_of_ble_eq_true rfl, Nat.le_of_ble_eq_true rfl⟩) hS (fun q h1 h2 => absurd h2 (Nat.not_le.mpr h1)) (fun q h => hA q (Nat.le_trans hS.1 h)) (fun r20 ur20 t H1 locs ht hvm w21 hB hz1 hk1 hS => ?_)
              have hP := keepR hP hk1
              obtain ⟨w21, w21x⟩ := w21
              have hs22 : slotF g dd < 70 := slotF_lt (by have t_c1 := neI c1; have t_b6 := b6; have t_c7 := eqI c7; have t_b12 := b12; have t_c13 := nltI c13; have t_c14 := leI c14; have t_hii := hii; have t_hdd := hdd; have tqz_ := qz7_; have tnb_ := nib5 tn259_ tn260_ tn261_ tn263_ tn264_; omega) (by have t_c1 := neI c1; have t_b6 := b6; have t_c7 := eqI c7; have t_b12 := b12; have t_c13 := nltI c13; have t_c14 := leI c14; have t_hii := hii; have t_hdd := hdd; have tqz_ := qz7_; have tnb_ := nib5 tn259_ tn260_ tn261_ tn263_ tn264_; omega)
              subst w21
              refine va_iald hx hb hK.1 (blk_P2 (j := ii) hP (by first | omega | (have t_c1 := neI c1; have t_b6 := b6; have t_c7 := eqI c7; have t_b12 := b12; have t_c13 := nltI c13; have t_c14 := leI c14; have t_hii := hii; have t_hdd := hdd; have t_hs22 := hs22; have tqz_ := qz7_; have tnb_ := nib5 tn259_ tn260_ tn261_ tn263_ tn264_; omega))) 0 0 rfl rfl (vp_in_nI (by first | omega | (have t_c1 := neI c1; have t_b6 := b6; have t_c7 := eqI c7; have t_b12 := b12; have t_c13 := nltI c13; have t_c14 := leI c14; have t_hii := hii; have t_hdd := hdd; have t_hs22 := hs22; have tqz_ := qz7_; have tnb_ := nib5 tn259_ tn260_ tn261_ tn263_ tn264_; omega)) (by decide)) dX10_next_84 ?_
              refine lv_cg (y := u19 ii (slotF g dd)) (by rw [nI_clamp (by first | omega | (have t_c1 := neI c1; have t_b6 := b6; have t_c7 := eqI c7; have t_b12 := b12; have t_c13 := nltI c13; have t_c14 := leI c14; have t_hii := hii; have t_hdd := hdd; have t_hs22 := hs22; have tqz_ := qz7_; have tnb_ := nib5 tn259_ tn260_ tn261_ tn263_ tn264_; omega))]) ?_
              have hpost : True := by
                trivial
              have hP9 := hP
              have hD9 := hD
              refine W.widen (k := 0) (n := 0) (Nat.le_of_ble_eq_true rfl) (Nat.le_of_ble_eq_true rfl) ?_
              exact W.iret (v := u19 ii (slotF g dd)) hx hb hr (fun t ht hW => ⟨⟨u19 ii (slotF g dd), (u17, u18, u19), rfl, ⟨hpost, trivial⟩, ⟨by rw [ht]; exact hP9, hD9⟩⟩, hS.F ht⟩) hS.2.2 dX10_next_85
            · skip
              refine lv_iconst (v := (-1)) hx hb dX10_next_55 rfl ?_
              have hpost : True := by
                trivial
              obtain ⟨hP9, hD9⟩ := va_sub2 (ws' := (([(h0, .inr (10, [.ref rd, .ref wy, .ref tr, .ref im, .ref kp, .ref od, .ref ch, .ref cr, .ref le, .ref mk, .ref tl, .ref sh, .int tf, .int rf])), (ch, .inr (0, [.long w0, .ref wk, .ref cs])), (wk, .inl (G 5, 11, .inr (.inr (.inr (.inr (fun ir => if ir < 11 then some (rw ir) else none)))))), (cs, .inl (G 4, 10, .inr (.inr (.inr (.inr (fun ir => if ir < 10 then some (rq ir) else none)))))), (wy, .inr (9, [.int (nI N), .int (nI B), .int (nI D), .ref a1, .ref a2, .ref a3, .ref a4, .ref a5, .ref a6])), (a1, .inl (G 0, 10, .inl f1)), (a2, .inl (G 0, 10, .inl f2)), (a4, .inl (G 0, 6, .inl f4)), (a5, .inl (G 0, 6, .inl f5)), (a6, .inl (G 0, 6, .inl f6))] : va_W) ++ ((((List.range 11).map (fun iq => (rw iq, .inl (G 1, 70, .inr (.inl (F iq)))))) : va_W) ++ ((((List.range 10).map (fun iq => (rq iq, .inl (G 0, 70, .inl (E iq))))) : va_W) ++ [])))) hP hD [0, 1, 2, 3, 4, 5, 6, 7, 8, 9, 10, 11, 12, 13, 14, 15, 16, 17, 18, 19, 20, 21, 22, 23, 24, 25, 26, 27, 28, 29, 30] (by decide +kernel) rfl
              refine W.widen (k := 0) (n := 0) (Nat.le_of_ble_eq_true rfl) (Nat.le_of_ble_eq_true rfl) ?_
              exact W.iret (v := (-1)) hx hb hr (fun t ht hW => ⟨⟨(-1), (w0, F, E), rfl, ⟨hpost, trivial⟩, ⟨by rw [ht]; exact hP9, hD9⟩⟩, hS.F ht⟩) hS.2.2 dX10_next_56
  · skip
    refine lv_iload_n hx hb dX10_next_6 rfl (lv_at hl 1 rfl) ?_
    refine lv_if_ne (tgt := 14) hx hb dX10_next_7 rfl (fun c23 => ?_) (fun c23 => ?_)
    · skip
      refine lv_iconst (v := 0) hx hb dX10_next_14 rfl ?_
      refine lv_istore (lv' := [(4, .int 0), (0, .ref h0), (1, .int i), (2, .int g), (3, .int d)]) hx hb dX10_next_15 hl (by decide) rfl (fun ls hl => ?_)
      refine lv_aload_n hx hb dX10_next_17 rfl (lv_at hl 1 rfl) ?_
      refine va_get (D := (dC, dI)) (ci := 10) (v := .ref wy) (C := RX10) (T := TX10) (N := 14) hx hb hg inG10 hown hK.1 hP 0 rfl rfl 1 (Nat.le_of_ble_eq_true rfl) (hg _ wt_303) (fun _ h9 => h9) rfl dX10_next_18 ?_
      refine lv_iload_n hx hb dX10_next_21 rfl (lv_at hl 2 rfl) ?_
      have hPc := hP.sub (ws' := [(wy, .inr (9, [.int (nI N), .int (nI B), .int (nI D), .ref a1, .ref a2, .ref a3, .ref a4, .ref a5, .ref a6]))]) [4] rfl
      refine va_calli (va_runVN (As := [.int i]) (rest := []) ⟨hx, hb, hml, hown, hg⟩ (c_X9_hasStretch l dC dI G _ wy a1 a2 a3 a4 a5 a6 N B D i hN_N hB_B hD_D) (kwVN hg hK mfX9_hasStretch wn_527 ⟨Nat.le_of_ble_eq_true rfl, Nat.le_of_ble_eq_true rfl⟩) (preVR hK hPc (ci := 9) (r := (RX9, TX9, 9)) rfl rfl) rfl rfl hl.1 rfl (lv_room (Nat.le_of_ble_eq_true rfl)) dX10_next_22 ⟨Nat.le_of_ble_eq_true rfl, Nat.le_of_ble_eq_true rfl⟩) hS (fun q h1 h2 => absurd h2 (Nat.not_le.mpr h1)) (fun q h => hA q (Nat.le_trans hS.1 h)) (fun r24 ur24 t H1 locs ht hvm w25 hB hz1 hk1 hS => ?_)
      have hP := keepR hP hk1
      obtain ⟨w25, w25x⟩ := w25
      try simp only [l_ii, show (0 : Int32).toInt = 0 from by decide] at w25
      try rw [show (nI (N)).toInt = ((N : Nat) : Int) from tn259_ ()] at w25
      subst w25
      refine lv_if_eq (tgt := 55) hx hb dX10_next_25 rfl (fun c26 => ?_) (fun c26 => ?_)
      · skip
        have b27 := if10_n c26
        refine lv_iconst (v := (-1)) hx hb dX10_next_55 rfl ?_
        have hpost : True := by
          trivial
        obtain ⟨hP9, hD9⟩ := va_sub2 (ws' := (([(h0, .inr (10, [.ref rd, .ref wy, .ref tr, .ref im, .ref kp, .ref od, .ref ch, .ref cr, .ref le, .ref mk, .ref tl, .ref sh, .int tf, .int rf])), (ch, .inr (0, [.long w0, .ref wk, .ref cs])), (wk, .inl (G 5, 11, .inr (.inr (.inr (.inr (fun ir => if ir < 11 then some (rw ir) else none)))))), (cs, .inl (G 4, 10, .inr (.inr (.inr (.inr (fun ir => if ir < 10 then some (rq ir) else none)))))), (wy, .inr (9, [.int (nI N), .int (nI B), .int (nI D), .ref a1, .ref a2, .ref a3, .ref a4, .ref a5, .ref a6])), (a1, .inl (G 0, 10, .inl f1)), (a2, .inl (G 0, 10, .inl f2)), (a4, .inl (G 0, 6, .inl f4)), (a5, .inl (G 0, 6, .inl f5)), (a6, .inl (G 0, 6, .inl f6))] : va_W) ++ ((((List.range 11).map (fun iq => (rw iq, .inl (G 1, 70, .inr (.inl (F iq)))))) : va_W) ++ ((((List.range 10).map (fun iq => (rq iq, .inl (G 0, 70, .inl (E iq))))) : va_W) ++ [])))) hP hD [0, 1, 2, 3, 4, 5, 6, 7, 8, 9, 10, 11, 12, 13, 14, 15, 16, 17, 18, 19, 20, 21, 22, 23, 24, 25, 26, 27, 28, 29, 30] (by decide +kernel) rfl
        refine W.widen (k := 0) (n := 0) (Nat.le_of_ble_eq_true rfl) (Nat.le_of_ble_eq_true rfl) ?_
        exact W.iret (v := (-1)) hx hb hr (fun t ht hW => ⟨⟨(-1), (w0, F, E), rfl, ⟨hpost, trivial⟩, ⟨by rw [ht]; exact hP9, hD9⟩⟩, hS.F ht⟩) hS.2.2 dX10_next_56
      · skip
        have b28 := if10_p c26
        refine lv_iload hx hb dX10_next_28 (lv_at hl 0 rfl) ?_
        refine lv_if_ne (tgt := 44) hx hb dX10_next_30 rfl (fun c29 => ?_) (fun c29 => ?_)
        · skip
          exact absurd c29 (by decide)
        · skip
          refine lv_aload_n hx hb dX10_next_33 rfl (lv_at hl 1 rfl) ?_
          refine va_get (D := (dC, dI)) (ci := 10) (v := .ref wy) (C := RX10) (T := TX10) (N := 14) hx hb hg inG10 hown hK.1 hP 0 rfl rfl 1 (Nat.le_of_ble_eq_true rfl) (hg _ wt_303) (fun _ h9 => h9) rfl dX10_next_34 ?_
          refine lv_iload_n hx hb dX10_next_37 rfl (lv_at hl 3 rfl) ?_
          have hPc := hP.sub (ws' := [(wy, .inr (9, [.int (nI N), .int (nI B), .int (nI D), .ref a1, .ref a2, .ref a3, .ref a4, .ref a5, .ref a6]))]) [4] rfl
          refine va_calli (va_runVN (As := [.int g]) (rest := []) ⟨hx, hb, hml, hown, hg⟩ (c_X9_hasBearer l dC dI G _ wy a1 a2 a3 a4 a5 a6 N B D g hN_N hB_B hD_D) (kwVN hg hK mfX9_hasBearer wn_535 ⟨Nat.le_of_ble_eq_true rfl, Nat.le_of_ble_eq_true rfl⟩) (preVR hK hPc (ci := 9) (r := (RX9, TX9, 9)) rfl rfl) rfl rfl hl.1 rfl (lv_room (Nat.le_of_ble_eq_true rfl)) dX10_next_38 ⟨Nat.le_of_ble_eq_true rfl, Nat.le_of_ble_eq_true rfl⟩) hS (fun q h1 h2 => absurd h2 (Nat.not_le.mpr h1)) (fun q h => hA q (Nat.le_trans hS.1 h)) (fun r30 ur30 t H1 locs ht hvm w31 hB hz1 hk1 hS => ?_)
          have hP := keepR hP hk1
          obtain ⟨w31, w31x⟩ := w31
          try simp only [l_ii, show (0 : Int32).toInt = 0 from by decide] at w31
          try rw [show (nI (B)).toInt = ((B : Nat) : Int) from tn260_ ()] at w31
          have w31 : r30 = 0 := w31.trans (if_neg (by have t_c1 := eqI c1; have t_c23 := neI c23; have t_b28 := b28; have t_c29 := eqI c29; have tqz_ := qz8_; have tnb_ := nib3 tn259_ tn260_ tn261_; omega))
          subst w31
          refine lv_if_eq (tgt := 55) hx hb dX10_next_41 rfl (fun c32 => ?_) (fun c32 => ?_)
          · skip
            refine lv_iconst (v := (-1)) hx hb dX10_next_55 rfl ?_
            have hpost : True := by
              trivial
            obtain ⟨hP9, hD9⟩ := va_sub2 (ws' := (([(h0, .inr (10, [.ref rd, .ref wy, .ref tr, .ref im, .ref kp, .ref od, .ref ch, .ref cr, .ref le, .ref mk, .ref tl, .ref sh, .int tf, .int rf])), (ch, .inr (0, [.long w0, .ref wk, .ref cs])), (wk, .inl (G 5, 11, .inr (.inr (.inr (.inr (fun ir => if ir < 11 then some (rw ir) else none)))))), (cs, .inl (G 4, 10, .inr (.inr (.inr (.inr (fun ir => if ir < 10 then some (rq ir) else none)))))), (wy, .inr (9, [.int (nI N), .int (nI B), .int (nI D), .ref a1, .ref a2, .ref a3, .ref a4, .ref a5, .ref a6])), (a1, .inl (G 0, 10, .inl f1)), (a2, .inl (G 0, 10, .inl f2)), (a4, .inl (G 0, 6, .inl f4)), (a5, .inl (G 0, 6, .inl f5)), (a6, .inl (G 0, 6, .inl f6))] : va_W) ++ ((((List.range 11).map (fun iq => (rw iq, .inl (G 1, 70, .inr (.inl (F iq)))))) : va_W) ++ ((((List.range 10).map (fun iq => (rq iq, .inl (G 0, 70, .inl (E iq))))) : va_W) ++ [])))) hP hD [0, 1, 2, 3, 4, 5, 6, 7, 8, 9, 10, 11, 12, 13, 14, 15, 16, 17, 18, 19, 20, 21, 22, 23, 24, 25, 26, 27, 28, 29, 30] (by decide +kernel) rfl
            refine W.widen (k := 0) (n := 0) (Nat.le_of_ble_eq_true rfl) (Nat.le_of_ble_eq_true rfl) ?_
            exact W.iret (v := (-1)) hx hb hr (fun t ht hW => ⟨⟨(-1), (w0, F, E), rfl, ⟨hpost, trivial⟩, ⟨by rw [ht]; exact hP9, hD9⟩⟩, hS.F ht⟩) hS.2.2 dX10_next_56
          · skip
            exact absurd c32 (by decide)
    · skip
      refine lv_iconst (v := 1) hx hb dX10_next_10 rfl ?_
      refine lv_goto (tgt := 15) hx hb dX10_next_11 rfl ?_
      refine lv_istore (lv' := [(4, .int 1), (0, .ref h0), (1, .int i), (2, .int g), (3, .int d)]) hx hb dX10_next_15 hl (by decide) rfl (fun ls hl => ?_)
      refine lv_aload_n hx hb dX10_next_17 rfl (lv_at hl 1 rfl) ?_
      refine va_get (D := (dC, dI)) (ci := 10) (v := .ref wy) (C := RX10) (T := TX10) (N := 14) hx hb hg inG10 hown hK.1 hP 0 rfl rfl 1 (Nat.le_of_ble_eq_true rfl) (hg _ wt_303) (fun _ h9 => h9) rfl dX10_next_18 ?_
      refine lv_iload_n hx hb dX10_next_21 rfl (lv_at hl 2 rfl) ?_
      have hPc := hP.sub (ws' := [(wy, .inr (9, [.int (nI N), .int (nI B), .int (nI D), .ref a1, .ref a2, .ref a3, .ref a4, .ref a5, .ref a6]))]) [4] rfl
      refine va_calli (va_runVN (As := [.int i]) (rest := []) ⟨hx, hb, hml, hown, hg⟩ (c_X9_hasStretch l dC dI G _ wy a1 a2 a3 a4 a5 a6 N B D i hN_N hB_B hD_D) (kwVN hg hK mfX9_hasStretch wn_527 ⟨Nat.le_of_ble_eq_true rfl, Nat.le_of_ble_eq_true rfl⟩) (preVR hK hPc (ci := 9) (r := (RX9, TX9, 9)) rfl rfl) rfl rfl hl.1 rfl (lv_room (Nat.le_of_ble_eq_true rfl)) dX10_next_22 ⟨Nat.le_of_ble_eq_true rfl, Nat.le_of_ble_eq_true rfl⟩) hS (fun q h1 h2 => absurd h2 (Nat.not_le.mpr h1)) (fun q h => hA q (Nat.le_trans hS.1 h)) (fun r33 ur33 t H1 locs ht hvm w34 hB hz1 hk1 hS => ?_)
      have hP := keepR hP hk1
      obtain ⟨w34, w34x⟩ := w34
      try simp only [l_ii, show (0 : Int32).toInt = 0 from by decide] at w34
      try rw [show (nI (N)).toInt = ((N : Nat) : Int) from tn259_ ()] at w34
      subst w34
      refine lv_if_eq (tgt := 55) hx hb dX10_next_25 rfl (fun c35 => ?_) (fun c35 => ?_)
      · skip
        have b36 := if10_n c35
        refine lv_iconst (v := (-1)) hx hb dX10_next_55 rfl ?_
        have hpost : True := by
          trivial
        obtain ⟨hP9, hD9⟩ := va_sub2 (ws' := (([(h0, .inr (10, [.ref rd, .ref wy, .ref tr, .ref im, .ref kp, .ref od, .ref ch, .ref cr, .ref le, .ref mk, .ref tl, .ref sh, .int tf, .int rf])), (ch, .inr (0, [.long w0, .ref wk, .ref cs])), (wk, .inl (G 5, 11, .inr (.inr (.inr (.inr (fun ir => if ir < 11 then some (rw ir) else none)))))), (cs, .inl (G 4, 10, .inr (.inr (.inr (.inr (fun ir => if ir < 10 then some (rq ir) else none)))))), (wy, .inr (9, [.int (nI N), .int (nI B), .int (nI D), .ref a1, .ref a2, .ref a3, .ref a4, .ref a5, .ref a6])), (a1, .inl (G 0, 10, .inl f1)), (a2, .inl (G 0, 10, .inl f2)), (a4, .inl (G 0, 6, .inl f4)), (a5, .inl (G 0, 6, .inl f5)), (a6, .inl (G 0, 6, .inl f6))] : va_W) ++ ((((List.range 11).map (fun iq => (rw iq, .inl (G 1, 70, .inr (.inl (F iq)))))) : va_W) ++ ((((List.range 10).map (fun iq => (rq iq, .inl (G 0, 70, .inl (E iq))))) : va_W) ++ [])))) hP hD [0, 1, 2, 3, 4, 5, 6, 7, 8, 9, 10, 11, 12, 13, 14, 15, 16, 17, 18, 19, 20, 21, 22, 23, 24, 25, 26, 27, 28, 29, 30] (by decide +kernel) rfl
        refine W.widen (k := 0) (n := 0) (Nat.le_of_ble_eq_true rfl) (Nat.le_of_ble_eq_true rfl) ?_
        exact W.iret (v := (-1)) hx hb hr (fun t ht hW => ⟨⟨(-1), (w0, F, E), rfl, ⟨hpost, trivial⟩, ⟨by rw [ht]; exact hP9, hD9⟩⟩, hS.F ht⟩) hS.2.2 dX10_next_56
      · skip
        have b37 := if10_p c35
        refine lv_iload hx hb dX10_next_28 (lv_at hl 0 rfl) ?_
        refine lv_if_ne (tgt := 44) hx hb dX10_next_30 rfl (fun c38 => ?_) (fun c38 => ?_)
        · skip
          refine lv_iload_n hx hb dX10_next_44 rfl (lv_at hl 4 rfl) ?_
          refine lv_iconst (v := 1) hx hb dX10_next_45 rfl ?_
          refine lv_icmp_lt (tgt := 55) hx hb dX10_next_46 rfl (fun c39 => ?_) (fun c39 => ?_)
          · skip
            refine lv_iconst (v := (-1)) hx hb dX10_next_55 rfl ?_
            have hpost : True := by
              trivial
            obtain ⟨hP9, hD9⟩ := va_sub2 (ws' := (([(h0, .inr (10, [.ref rd, .ref wy, .ref tr, .ref im, .ref kp, .ref od, .ref ch, .ref cr, .ref le, .ref mk, .ref tl, .ref sh, .int tf, .int rf])), (ch, .inr (0, [.long w0, .ref wk, .ref cs])), (wk, .inl (G 5, 11, .inr (.inr (.inr (.inr (fun ir => if ir < 11 then some (rw ir) else none)))))), (cs, .inl (G 4, 10, .inr (.inr (.inr (.inr (fun ir => if ir < 10 then some (rq ir) else none)))))), (wy, .inr (9, [.int (nI N), .int (nI B), .int (nI D), .ref a1, .ref a2, .ref a3, .ref a4, .ref a5, .ref a6])), (a1, .inl (G 0, 10, .inl f1)), (a2, .inl (G 0, 10, .inl f2)), (a4, .inl (G 0, 6, .inl f4)), (a5, .inl (G 0, 6, .inl f5)), (a6, .inl (G 0, 6, .inl f6))] : va_W) ++ ((((List.range 11).map (fun iq => (rw iq, .inl (G 1, 70, .inr (.inl (F iq)))))) : va_W) ++ ((((List.range 10).map (fun iq => (rq iq, .inl (G 0, 70, .inl (E iq))))) : va_W) ++ [])))) hP hD [0, 1, 2, 3, 4, 5, 6, 7, 8, 9, 10, 11, 12, 13, 14, 15, 16, 17, 18, 19, 20, 21, 22, 23, 24, 25, 26, 27, 28, 29, 30] (by decide +kernel) rfl
            refine W.widen (k := 0) (n := 0) (Nat.le_of_ble_eq_true rfl) (Nat.le_of_ble_eq_true rfl) ?_
            exact W.iret (v := (-1)) hx hb hr (fun t ht hW => ⟨⟨(-1), (w0, F, E), rfl, ⟨hpost, trivial⟩, ⟨by rw [ht]; exact hP9, hD9⟩⟩, hS.F ht⟩) hS.2.2 dX10_next_56
          · skip
            refine lv_iload_n hx hb dX10_next_49 rfl (lv_at hl 4 rfl) ?_
            refine lv_bipush (v := 9) hx hb dX10_next_50 rfl ?_
            refine lv_icmp_le (tgt := 57) hx hb dX10_next_52 rfl (fun c40 => ?_) (fun c40 => ?_)
            · skip
              obtain ⟨ii, hii, rfl⟩ : ∃ j : Nat, j < 10 ∧ i = nI j := by
                have t_c1 := eqI c1
                have t_c23 := eqI c23
                have t_b37 := b37
                have t_c38 := neI c38
                have t_c39 := nltI c39
                have t_c40 := leI c40
                have : ((-4) : Int32).toInt = -4 := qI_m4
                have : (0 : Int32).toInt = 0 := qI_0
                have : (1 : Int32).toInt = 1 := qI_1
                have : (9 : Int32).toInt = 9 := qI_9
                have t_n0 : (nI N).toInt = (N : Int) := tn259_ ()
                have t_n1 : (nI B).toInt = (B : Int) := tn260_ ()
                have t_n2 : (nI D).toInt = (D : Int) := tn261_ ()
                exact i32_nat (by omega) (by omega)
              obtain ⟨dd, hdd, rfl⟩ : ∃ j : Nat, j < 10 ∧ d = nI j := by
                have t_c1 := eqI c1
                have t_c23 := eqI c23
                have t_b37 := b37
                have t_c38 := neI c38
                have t_c39 := nltI c39
                have t_c40 := leI c40
                have t_hii := hii
                have : ((-4) : Int32).toInt = -4 := qI_m4
                have : (0 : Int32).toInt = 0 := qI_0
                have : (1 : Int32).toInt = 1 := qI_1
                have : (9 : Int32).toInt = 9 := qI_9
                have t_n0 : (nI N).toInt = (N : Int) := tn259_ ()
                have t_n1 : (nI B).toInt = (B : Int) := tn260_ ()
                have t_n2 : (nI D).toInt = (D : Int) := tn261_ ()
                have tn265_ : nIT ii := fun _ => nI_toInt (by omega)
                have t_n3 : (nI ii).toInt = (ii : Int) := tn265_ ()
                exact i32_nat (by omega) (by omega)
              refine lv_aload_n hx hb dX10_next_57 rfl (lv_at hl 1 rfl) ?_
              refine va_get (D := (dC, dI)) (ci := 10) (v := .ref ch) (C := RX10) (T := TX10) (N := 14) hx hb hg inG10 hown hK.1 hP 0 rfl rfl 6 (Nat.le_of_ble_eq_true rfl) (hg _ wt_308) (fun _ h9 => h9) rfl dX10_next_58 ?_
              refine lv_aload_n hx hb dX10_next_61 rfl (lv_at hl 1 rfl) ?_
              refine va_get (D := (dC, dI)) (ci := 10) (v := .ref wy) (C := RX10) (T := TX10) (N := 14) hx hb hg inG10 hown hK.1 hP 0 rfl rfl 1 (Nat.le_of_ble_eq_true rfl) (hg _ wt_303) (fun _ h9 => h9) rfl dX10_next_62 ?_
              refine lv_bipush (v := (-4)) hx hb dX10_next_65 rfl ?_
              obtain ⟨hPc, hDc, hFc⟩ := va_sub3 (ws' := (([(ch, .inr (0, [.long w0, .ref wk, .ref cs])), (wk, .inl (G 5, 11, .inr (.inr (.inr (.inr (fun ir => if ir < 11 then some (rw ir) else none)))))), (cs, .inl (G 4, 10, .inr (.inr (.inr (.inr (fun ir => if ir < 10 then some (rq ir) else none)))))), (wy, .inr (9, [.int (nI N), .int (nI B), .int (nI D), .ref a1, .ref a2, .ref a3, .ref a4, .ref a5, .ref a6])), (a1, .inl (G 0, 10, .inl f1)), (a2, .inl (G 0, 10, .inl f2)), (a4, .inl (G 0, 6, .inl f4)), (a5, .inl (G 0, 6, .inl f5)), (a6, .inl (G 0, 6, .inl f6))] : va_W) ++ ((((List.range 11).map (fun iq => (rw iq, .inl (G 1, 70, .inr (.inl (F iq)))))) : va_W) ++ ((((List.range 10).map (fun iq => (rq iq, .inl (G 0, 70, .inl (E iq))))) : va_W) ++ [])))) hP hD hS hA [1, 2, 3, 4, 5, 6, 7, 8, 9, 10, 11, 12, 13, 14, 15, 16, 17, 18, 19, 20, 21, 22, 23, 24, 25, 26, 27, 28, 29, 30] (by decide +kernel) rfl
              have tn266_ : nIT ii := fun _ => nI_toInt (by first | omega | (have t_c1 := eqI c1; have t_c23 := eqI c23; have t_b37 := b37; have t_c38 := neI c38; have t_c39 := nltI c39; have t_c40 := leI c40; have t_hii := hii; have t_hdd := hdd; have tqz_ := qz7_; omega))
              have tn267_ : nIT dd := fun _ => nI_toInt (by first | omega | (have t_c1 := eqI c1; have t_c23 := eqI c23; have t_b37 := b37; have t_c38 := neI c38; have t_c39 := nltI c39; have t_c40 := leI c40; have t_hii := hii; have t_hdd := hdd; have tqz_ := qz7_; omega))
              refine va_callv (va_runVN (As := [.ref wy, .int (-4)]) (rest := []) ⟨hx, hb, hml, hown, hg⟩ (c_X0_plan l dC dI G _ ch wk cs wy a1 a2 a3 a4 a5 a6 N B D (-4) w0 f1 f2 f4 f5 f6 rw rq F E hN_N hB_B hD_D) (kwVN hg hK mfX0_plan wn_657 ⟨Nat.le_of_ble_eq_true rfl, Nat.le_of_ble_eq_true rfl⟩) (preVW hK hPc hDc (ci := 0) (r := (RX0, TX0, 3)) rfl rfl) rfl rfl hl.1 rfl (lv_room (Nat.le_of_ble_eq_true rfl)) dX10_next_67 ⟨Nat.le_of_ble_eq_true rfl, Nat.le_of_ble_eq_true rfl⟩) hS (fun q _ h => hFc q h) hFc (fun ur41 t H1 locs ht hvm w42 hB hz1 hk1 hS => ?_)
              obtain ⟨u43, u44, u45⟩ := ur41
              obtain ⟨hP1, hD1⟩ := hB
              rw [ht] at hP1
              obtain ⟨hP, hD⟩ := va_join (wr := [(h0, .inr (10, [.ref rd, .ref wy, .ref tr, .ref im, .ref kp, .ref od, .ref ch, .ref cr, .ref le, .ref mk, .ref tl, .ref sh, .int tf, .int rf]))]) (w1 := (([(ch, .inr (0, [.long u43, .ref wk, .ref cs])), (wk, .inl (G 5, 11, .inr (.inr (.inr (.inr (fun ir => if ir < 11 then some (rw ir) else none)))))), (cs, .inl (G 4, 10, .inr (.inr (.inr (.inr (fun ir => if ir < 10 then some (rq ir) else none)))))), (wy, .inr (9, [.int (nI N), .int (nI B), .int (nI D), .ref a1, .ref a2, .ref a3, .ref a4, .ref a5, .ref a6])), (a1, .inl (G 0, 10, .inl f1)), (a2, .inl (G 0, 10, .inl f2)), (a4, .inl (G 0, 6, .inl f4)), (a5, .inl (G 0, 6, .inl f5)), (a6, .inl (G 0, 6, .inl f6))] : va_W) ++ ((((List.range 11).map (fun iq => (rw iq, .inl (G 1, 70, .inr (.inl (u44 iq)))))) : va_W) ++ ((((List.range 10).map (fun iq => (rq iq, .inl (G 0, 70, .inl (u45 iq))))) : va_W) ++ [])))) hP hD [1, 2, 3, 4, 5, 6, 7, 8, 9, 10, 11, 12, 13, 14, 15, 16, 17, 18, 19, 20, 21, 22, 23, 24, 25, 26, 27, 28, 29, 30] [0] rfl rfl (by decide +kernel) (by decide +kernel) hk1 hFc hP1 hD1
              generalize H1 = H at hP hS ⊢
              obtain ⟨hP, hD⟩ := va_rls (ws' := (([(h0, .inr (10, [.ref rd, .ref wy, .ref tr, .ref im, .ref kp, .ref od, .ref ch, .ref cr, .ref le, .ref mk, .ref tl, .ref sh, .int tf, .int rf])), (ch, .inr (0, [.long u43, .ref wk, .ref cs])), (wk, .inl (G 5, 11, .inr (.inr (.inr (.inr (fun ir => if ir < 11 then some (rw ir) else none)))))), (cs, .inl (G 4, 10, .inr (.inr (.inr (.inr (fun ir => if ir < 10 then some (rq ir) else none)))))), (wy, .inr (9, [.int (nI N), .int (nI B), .int (nI D), .ref a1, .ref a2, .ref a3, .ref a4, .ref a5, .ref a6])), (a1, .inl (G 0, 10, .inl f1)), (a2, .inl (G 0, 10, .inl f2)), (a4, .inl (G 0, 6, .inl f4)), (a5, .inl (G 0, 6, .inl f5)), (a6, .inl (G 0, 6, .inl f6))] : va_W) ++ ((((List.range 11).map (fun iq => (rw iq, .inl (G 1, 70, .inr (.inl (u44 iq)))))) : va_W) ++ ((((List.range 10).map (fun iq => (rq iq, .inl (G 0, 70, .inl (u45 iq))))) : va_W) ++ [])))) hP hD rfl
              refine lv_aload_n hx hb dX10_next_70 rfl (lv_at hl 1 rfl) ?_
              refine va_get (D := (dC, dI)) (ci := 10) (v := .ref ch) (C := RX10) (T := TX10) (N := 14) hx hb hg inG10 hown hK.1 hP 0 rfl rfl 6 (Nat.le_of_ble_eq_true rfl) (hg _ wt_308) (fun _ h9 => h9) rfl dX10_next_71 ?_
              refine va_getN (D := (dC, dI)) (ci := 0) (v := .ref cs) (C := RX0) (T := TX0) (N := 3) hx hb hg inG0 hown hK.1 hP 1 rfl rfl 2 (Nat.le_of_ble_eq_true rfl) (hK.nest wn_184) (fun _ h9 => h9) rfl dX10_next_74 ?_
              refine lv_iload_n hx hb dX10_next_77 rfl (lv_at hl 2 rfl) ?_
              refine va_aldA hx hb hK.1 hP 3 4 rfl rfl (vp_in_nI (by first | omega | (have t_c1 := eqI c1; have t_c23 := eqI c23; have t_b37 := b37; have t_c38 := neI c38; have t_c39 := nltI c39; have t_c40 := leI c40; have t_hii := hii; have t_hdd := hdd; have tqz_ := qz7_; have tnb_ := nib5 tn259_ tn260_ tn261_ tn266_ tn267_; omega)) (by decide)) dX10_next_78 ?_
              refine lv_cgv (y := .ref (rq ii)) (rowref (by first | omega | (have t_c1 := eqI c1; have t_c23 := eqI c23; have t_b37 := b37; have t_c38 := neI c38; have t_c39 := nltI c39; have t_c40 := leI c40; have t_hii := hii; have t_hdd := hdd; have tqz_ := qz7_; have tnb_ := nib5 tn259_ tn260_ tn261_ tn266_ tn267_; omega)) (by decide)) ?_
              refine lv_iload_n hx hb dX10_next_79 rfl (lv_at hl 3 rfl) ?_
              refine lv_iload_n hx hb dX10_next_80 rfl (lv_at hl 4 rfl) ?_
              have hPc := hP.sub (ws' := []) [] rfl
              refine va_calli (va_runSN (As := [.int g, .int (nI dd)]) (rest := [.ref (rq ii)]) ⟨hx, hb, hml, hown, hg⟩ (c_X0_slot l dC dI G _ dd g (by have t_c1 := eqI c1; have t_c23 := eqI c23; have t_b37 := b37; have t_c38 := neI c38; have t_c39 := nltI c39; have t_c40 := leI c40; have t_hii := hii; have t_hdd := hdd; have tqz_ := qz7_; have tnb_ := nib5 tn259_ tn260_ tn261_ tn266_ tn267_; omega) (by first | omega | (have t_c1 := eqI c1; have t_c23 := eqI c23; have t_b37 := b37; have t_c38 := neI c38; have t_c39 := nltI c39; have t_c40 := leI c40; have t_hii := hii; have t_hdd := hdd; have tqz_ := qz7_; have tnb_ := nib5 tn259_ tn260_ tn261_ tn266_ tn267_; omega))) (kwSN hg hK mfX0_slot wn_684 ⟨Nat.le_of_ble_eq_true rfl, Nat.le_of_ble_eq_true rfl⟩) (preSR hK hPc) rfl rfl hl.1 rfl (lv_room (Nat.le_of_ble_eq_true rfl)) dX10_next_81 ⟨Nat.le_of_ble_eq_true rfl, Nat.le_of_ble_eq_true rfl⟩) hS (fun q h1 h2 => absurd h2 (Nat.not_le.mpr h1)) (fun q h => hA q (Nat.le_trans hS.1 h)) (fun r46 ur46 t H1 locs ht hvm w47 hB hz1 hk1 hS => ?_)
              have hP := keepR hP hk1
              obtain ⟨w47, w47x⟩ := w47
              have hs48 : slotF g dd < 70 := slotF_lt (by have t_c1 := eqI c1; have t_c23 := eqI c23; have t_b37 := b37; have t_c38 := neI c38; have t_c39 := nltI c39; have t_c40 := leI c40; have t_hii := hii; have t_hdd := hdd; have tqz_ := qz7_; have tnb_ := nib5 tn259_ tn260_ tn261_ tn266_ tn267_; omega) (by have t_c1 := eqI c1; have t_c23 := eqI c23; have t_b37 := b37; have t_c38 := neI c38; have t_c39 := nltI c39; have t_c40 := leI c40; have t_hii := hii; have t_hdd := hdd; have tqz_ := qz7_; have tnb_ := nib5 tn259_ tn260_ tn261_ tn266_ tn267_; omega)
              subst w47
              refine va_iald hx hb hK.1 (blk_P2 (j := ii) hP (by first | omega | (have t_c1 := eqI c1; have t_c23 := eqI c23; have t_b37 := b37; have t_c38 := neI c38; have t_c39 := nltI c39; have t_c40 := leI c40; have t_hii := hii; have t_hdd := hdd; have t_hs48 := hs48; have tqz_ := qz7_; have tnb_ := nib5 tn259_ tn260_ tn261_ tn266_ tn267_; omega))) 0 0 rfl rfl (vp_in_nI (by first | omega | (have t_c1 := eqI c1; have t_c23 := eqI c23; have t_b37 := b37; have t_c38 := neI c38; have t_c39 := nltI c39; have t_c40 := leI c40; have t_hii := hii; have t_hdd := hdd; have t_hs48 := hs48; have tqz_ := qz7_; have tnb_ := nib5 tn259_ tn260_ tn261_ tn266_ tn267_; omega)) (by decide)) dX10_next_84 ?_
              refine lv_cg (y := u45 ii (slotF g dd)) (by rw [nI_clamp (by first | omega | (have t_c1 := eqI c1; have t_c23 := eqI c23; have t_b37 := b37; have t_c38 := neI c38; have t_c39 := nltI c39; have t_c40 := leI c40; have t_hii := hii; have t_hdd := hdd; have t_hs48 := hs48; have tqz_ := qz7_; have tnb_ := nib5 tn259_ tn260_ tn261_ tn266_ tn267_; omega))]) ?_
              have hpost : True := by
                trivial
              have hP9 := hP
              have hD9 := hD
              refine W.widen (k := 0) (n := 0) (Nat.le_of_ble_eq_true rfl) (Nat.le_of_ble_eq_true rfl) ?_
              exact W.iret (v := u45 ii (slotF g dd)) hx hb hr (fun t ht hW => ⟨⟨u45 ii (slotF g dd), (u43, u44, u45), rfl, ⟨hpost, trivial⟩, ⟨by rw [ht]; exact hP9, hD9⟩⟩, hS.F ht⟩) hS.2.2 dX10_next_85
            · skip
              refine lv_iconst (v := (-1)) hx hb dX10_next_55 rfl ?_
              have hpost : True := by
                trivial
              obtain ⟨hP9, hD9⟩ := va_sub2 (ws' := (([(h0, .inr (10, [.ref rd, .ref wy, .ref tr, .ref im, .ref kp, .ref od, .ref ch, .ref cr, .ref le, .ref mk, .ref tl, .ref sh, .int tf, .int rf])), (ch, .inr (0, [.long w0, .ref wk, .ref cs])), (wk, .inl (G 5, 11, .inr (.inr (.inr (.inr (fun ir => if ir < 11 then some (rw ir) else none)))))), (cs, .inl (G 4, 10, .inr (.inr (.inr (.inr (fun ir => if ir < 10 then some (rq ir) else none)))))), (wy, .inr (9, [.int (nI N), .int (nI B), .int (nI D), .ref a1, .ref a2, .ref a3, .ref a4, .ref a5, .ref a6])), (a1, .inl (G 0, 10, .inl f1)), (a2, .inl (G 0, 10, .inl f2)), (a4, .inl (G 0, 6, .inl f4)), (a5, .inl (G 0, 6, .inl f5)), (a6, .inl (G 0, 6, .inl f6))] : va_W) ++ ((((List.range 11).map (fun iq => (rw iq, .inl (G 1, 70, .inr (.inl (F iq)))))) : va_W) ++ ((((List.range 10).map (fun iq => (rq iq, .inl (G 0, 70, .inl (E iq))))) : va_W) ++ [])))) hP hD [0, 1, 2, 3, 4, 5, 6, 7, 8, 9, 10, 11, 12, 13, 14, 15, 16, 17, 18, 19, 20, 21, 22, 23, 24, 25, 26, 27, 28, 29, 30] (by decide +kernel) rfl
              refine W.widen (k := 0) (n := 0) (Nat.le_of_ble_eq_true rfl) (Nat.le_of_ble_eq_true rfl) ?_
              exact W.iret (v := (-1)) hx hb hr (fun t ht hW => ⟨⟨(-1), (w0, F, E), rfl, ⟨hpost, trivial⟩, ⟨by rw [ht]; exact hP9, hD9⟩⟩, hS.F ht⟩) hS.2.2 dX10_next_56
        · skip
          exact absurd c38 (by decide)

