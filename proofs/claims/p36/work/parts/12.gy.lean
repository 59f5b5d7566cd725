set_option maxHeartbeats 1000000 in
set_option maxRecDepth 100000 in
theorem c_X2_add (l : Launch) (dC : Nat → ClassId) (dI : Nat → Nat → Nat) (G : Nat → ClassId) (sz : Nat) (h0 l1 l2 l3 l4 S : Nat) (i g k x1 : Int32) (z1 z2 z3 z4 : Nat → Int32) (hS0 : S ≤ 8) : Met l yX2_add (Cond.code yX2_add cX2_add 5 (some .boolean) :: GT) ({ frames := 0, cells := 0, slots := 0, locals := 0 } : Room) (PcW [.ref h0, .int i, .int g, .int k, .int x1] dC dI G [(h0, .inr (2, [.int (nI S), .ref l1, .ref l2, .ref l3, .ref l4])), (l1, .inl (G 0, 8, .inl z1)), (l2, .inl (G 0, 8, .inl z2)), (l3, .inl (G 0, 8, .inl z3)), (l4, .inl (G 0, 8, .inl z4))] sz) (va_Qi (fun (r : Int32) (u : Nat × (Nat → Int32) × (Nat → Int32) × (Nat → Int32) × (Nat → Int32)) => match u with | (u0, u1, u2, u3, u4) => (r = if S < 8 then 1 else 0) ∧ u0 = (if S < 8 then S + 1 else S)) (fun (u : Nat × (Nat → Int32) × (Nat → Int32) × (Nat → Int32) × (Nat → Int32)) (t : State) => match u with | (u0, u1, u2, u3, u4) => va_P (dC, dI) vwCl [(h0, .inr (2, [.int (nI u0), .ref l1, .ref l2, .ref l3, .ref l4])), (l1, .inl (G 0, 8, .inl u1)), (l2, .inl (G 0, 8, .inl u2)), (l3, .inl (G 0, 8, .inl u3)), (l4, .inl (G 0, 8, .inl u4))] t.heap ∧ va_D (va_A [(h0, .inr (2, [.int (nI S), .ref l1, .ref l2, .ref l3, .ref l4])), (l1, .inl (G 0, 8, .inl z1)), (l2, .inl (G 0, 8, .inl z2)), (l3, .inl (G 0, 8, .inl z3)), (l4, .inl (G 0, 8, .inl z4))] sz) [(h0, .inr (2, [.int (nI u0), .ref l1, .ref l2, .ref l3, .ref l4])), (l1, .inl (G 0, 8, .inl u1)), (l2, .inl (G 0, 8, .inl u2)), (l3, .inl (G 0, 8, .inl u3)), (l4, .inl (G 0, 8, .inl u4))]) (va_A [(h0, .inr (2, [.int (nI S), .ref l1, .ref l2, .ref l3, .ref l4])), (l1, .inl (G 0, 8, .inl z1)), (l2, .inl (G 0, 8, .inl z2)), (l3, .inl (G 0, 8, .inl z3)), (l4, .inl (G 0, 8, .inl z4))] sz)) 0 0 (va_A [(h0, .inr (2, [.int (nI S), .ref l1, .ref l2, .ref l3, .ref l4])), (l1, .inl (G 0, 8, .inl z1)), (l2, .inl (G 0, 8, .inl z2)), (l3, .inl (G 0, 8, .inl z3)), (l4, .inl (G 0, 8, .inl z4))] sz) := by
  refine Met.ofW (cc := cX2_add) (maxL := 5) (ret := (some .boolean)) (by decide) rfl ?_
  intro p e s m args below meth c s₁ Bd hml hv
  obtain ⟨rfl, hsz, hP, hK, hD0⟩ := hv
  have hx := Bd.exec
  have hb := Bd.bytes
  have hr := Bd.returns
  have hg : ∀ w ∈ GT, w.before ([.ref h0, .int i, .int g, .int k, .int x1] : List Value).toArray s = true := fun w h => atoms_spec (ws := Cond.code yX2_add cX2_add 5 (some .boolean) :: GT) Bd.pre w (List.mem_cons_of_mem _ h)
  have hown : s.vm.findClass RX2 = some m.cls := findClass_of_methodNamed Bd.named
  have hlocks := Bd.notSynchronized
  subst hsz
  have hD := hD0.self (sz := s.heap.size)
  generalize hAe : va_A [(h0, .inr (2, [.int (nI S), .ref l1, .ref l2, .ref l3, .ref l4])), (l1, .inl (G 0, 8, .inl z1)), (l2, .inl (G 0, 8, .inl z2)), (l3, .inl (G 0, 8, .inl z3)), (l4, .inl (G 0, 8, .inl z4))] s.heap.size = A at hD ⊢
  have hA : ∀ q : Nat, s.heap.size ≤ q → A q := fun q h => by rw [← hAe]; exact Or.inr h
  have hS : va_S A s.heap s.heap [] := va_S.rf
  have hl := lv_entry ([.ref h0, .int i, .int g, .int k, .int x1]) (n := 5) (Nat.le_of_ble_eq_true rfl)
  rw [lg_entry_eq]
  generalize (lg_sl ([.ref h0, .int i, .int g, .int k, .int x1]) ++ List.replicate (5 - (lg_sl ([.ref h0, .int i, .int g, .int k, .int x1])).length) Slot.unset).toArray = ls at hl ⊢
  have hl : lv_has ls 5 [(0, .ref h0), (1, .int i), (2, .int g), (3, .int k), (4, .int x1)] := hl
  refine lv_aload_n hx hb dX2_add_0 rfl (lv_at hl 0 rfl) ?_
  refine va_get (D := (dC, dI)) (ci := 2) (v := .int (nI S)) (C := RX2) (T := TX2) (N := 5) hx hb hg inG2 hown hK.1 hP 0 rfl rfl 0 (by decide) (hg _ wt_217) (fun _ h9 => h9) rfl dX2_add_1 ?_
  refine lv_if_lt (tgt := 16) hx hb dX2_add_4 (by decide) (fun c1 => ?_) (fun c1 => ?_)
  · skip
    have t_c1 := ltI c1
    have : (0 : Int32).toInt = 0 := (by decide)
    have t_n0 : (nI S).toInt = (S : Int) := nI_toInt (by omega)
    have t_n0 : (nI S).toInt = (S : Int) := nI_toInt (by omega)
    exfalso; omega
  · skip
    have n2 : 0 ≤ S := by have t := nltI c1; rw [nI_toInt (n := S) (by omega)] at t; have : (0 : Int32).toInt = 0 := (by decide); omega
    refine lv_aload_n hx hb dX2_add_7 rfl (lv_at hl 0 rfl) ?_
    refine va_get (D := (dC, dI)) (ci := 2) (v := .int (nI S)) (C := RX2) (T := TX2) (N := 5) hx hb hg inG2 hown hK.1 hP 0 rfl rfl 0 (by decide) (hg _ wt_217) (fun _ h9 => h9) rfl dX2_add_8 ?_
    refine lv_bipush (v := 8) hx hb dX2_add_11 (by decide) ?_
    refine lv_icmp_lt (tgt := 18) hx hb dX2_add_13 (by decide) (fun c3 => ?_) (fun c3 => ?_)
    · skip
      have n4 : S < 8 := by have t := ltI c3; rw [nI_toInt (n := S) (by omega)] at t; have : (8 : Int32).toInt = 8 := (by decide); omega
      refine lv_aload_n hx hb dX2_add_18 rfl (lv_at hl 0 rfl) ?_
      refine va_get (D := (dC, dI)) (ci := 2) (v := .ref l1) (C := RX2) (T := TX2) (N := 5) hx hb hg inG2 hown hK.1 hP 0 rfl rfl 1 (by decide) (hg _ wt_219) (fun _ h9 => h9) rfl dX2_add_19 ?_
      refine lv_aload_n hx hb dX2_add_22 rfl (lv_at hl 0 rfl) ?_
      refine va_get (D := (dC, dI)) (ci := 2) (v := .int (nI S)) (C := RX2) (T := TX2) (N := 5) hx hb hg inG2 hown hK.1 hP 0 rfl rfl 0 (by decide) (hg _ wt_217) (fun _ h9 => h9) rfl dX2_add_23 ?_
      refine lv_iload_n hx hb dX2_add_26 rfl (lv_at hl 1 rfl) ?_
      refine va_iast hx hb hK.1 hP hD hS 1 0 rfl rfl (vp_in_nI (by have t_n2 := n2; have t_n4 := n4; have t_n0 : (nI S).toInt = (S : Int) := nI_toInt (by omega); omega) (by decide)) dX2_add_27 (fun H locs hP hD hS => ?_)
      rw [nI_clamp (by omega)] at hP hD
      have hP : va_P (dC, dI) vwCl [(h0, .inr (2, [.int (nI S), .ref l1, .ref l2, .ref l3, .ref l4])), (l1, .inl (G 0, 8, .inl (upd z1 S i))), (l2, .inl (G 0, 8, .inl z2)), (l3, .inl (G 0, 8, .inl z3)), (l4, .inl (G 0, 8, .inl z4))] H := hP
      have hD : va_D A [(h0, .inr (2, [.int (nI S), .ref l1, .ref l2, .ref l3, .ref l4])), (l1, .inl (G 0, 8, .inl (upd z1 S i))), (l2, .inl (G 0, 8, .inl z2)), (l3, .inl (G 0, 8, .inl z3)), (l4, .inl (G 0, 8, .inl z4))] := hD
      refine lv_aload_n hx hb dX2_add_28 rfl (lv_at hl 0 rfl) ?_
      refine va_get (D := (dC, dI)) (ci := 2) (v := .ref l2) (C := RX2) (T := TX2) (N := 5) hx hb hg inG2 hown hK.1 hP 0 rfl rfl 2 (by decide) (hg _ wt_220) (fun _ h9 => h9) rfl dX2_add_29 ?_
      refine lv_aload_n hx hb dX2_add_32 rfl (lv_at hl 0 rfl) ?_
      refine va_get (D := (dC, dI)) (ci := 2) (v := .int (nI S)) (C := RX2) (T := TX2) (N := 5) hx hb hg inG2 hown hK.1 hP 0 rfl rfl 0 (by decide) (hg _ wt_217) (fun _ h9 => h9) rfl dX2_add_33 ?_
      refine lv_iload_n hx hb dX2_add_36 rfl (lv_at hl 2 rfl) ?_
      refine va_iast hx hb hK.1 hP hD hS 2 0 rfl rfl (vp_in_nI (by have t_n2 := n2; have t_n4 := n4; have t_n0 : (nI S).toInt = (S : Int) := nI_toInt (by omega); omega) (by decide)) dX2_add_37 (fun H locs hP hD hS => ?_)
      rw [nI_clamp (by omega)] at hP hD
      have hP : va_P (dC, dI) vwCl [(h0, .inr (2, [.int (nI S), .ref l1, .ref l2, .ref l3, .ref l4])), (l1, .inl (G 0, 8, .inl (upd z1 S i))), (l2, .inl (G 0, 8, .inl (upd z2 S g))), (l3, .inl (G 0, 8, .inl z3)), (l4, .inl (G 0, 8, .inl z4))] H := hP
      have hD : va_D A [(h0, .inr (2, [.int (nI S), .ref l1, .ref l2, .ref l3, .ref l4])), (l1, .inl (G 0, 8, .inl (upd z1 S i))), (l2, .inl (G 0, 8, .inl (upd z2 S g))), (l3, .inl (G 0, 8, .inl z3)), (l4, .inl (G 0, 8, .inl z4))] := hD
      refine lv_aload_n hx hb dX2_add_38 rfl (lv_at hl 0 rfl) ?_
      refine va_get (D := (dC, dI)) (ci := 2) (v := .ref l3) (C := RX2) (T := TX2) (N := 5) hx hb hg inG2 hown hK.1 hP 0 rfl rfl 3 (by decide) (hg _ wt_221) (fun _ h9 => h9) rfl dX2_add_39 ?_
      refine lv_aload_n hx hb dX2_add_42 rfl (lv_at hl 0 rfl) ?_
      refine va_get (D := (dC, dI)) (ci := 2) (v := .int (nI S)) (C := RX2) (T := TX2) (N := 5) hx hb hg inG2 hown hK.1 hP 0 rfl rfl 0 (by decide) (hg _ wt_217) (fun _ h9 => h9) rfl dX2_add_43 ?_
      refine lv_iload_n hx hb dX2_add_46 rfl (lv_at hl 3 rfl) ?_
      refine va_iast hx hb hK.1 hP hD hS 3 0 rfl rfl (vp_in_nI (by have t_n2 := n2; have t_n4 := n4; have t_n0 : (nI S).toInt = (S : Int) := nI_toInt (by omega); omega) (by decide)) dX2_add_47 (fun H locs hP hD hS => ?_)
      rw [nI_clamp (by omega)] at hP hD
      have hP : va_P (dC, dI) vwCl [(h0, .inr (2, [.int (nI S), .ref l1, .ref l2, .ref l3, .ref l4])), (l1, .inl (G 0, 8, .inl (upd z1 S i))), (l2, .inl (G 0, 8, .inl (upd z2 S g))), (l3, .inl (G 0, 8, .inl (upd z3 S k))), (l4, .inl (G 0, 8, .inl z4))] H := hP
      have hD : va_D A [(h0, .inr (2, [.int (nI S), .ref l1, .ref l2, .ref l3, .ref l4])), (l1, .inl (G 0, 8, .inl (upd z1 S i))), (l2, .inl (G 0, 8, .inl (upd z2 S g))), (l3, .inl (G 0, 8, .inl (upd z3 S k))), (l4, .inl (G 0, 8, .inl z4))] := hD
      refine lv_aload_n hx hb dX2_add_48 rfl (lv_at hl 0 rfl) ?_
      refine va_get (D := (dC, dI)) (ci := 2) (v := .ref l4) (C := RX2) (T := TX2) (N := 5) hx hb hg inG2 hown hK.1 hP 0 rfl rfl 4 (by decide) (hg _ wt_222) (fun _ h9 => h9) rfl dX2_add_49 ?_
      refine lv_aload_n hx hb dX2_add_52 rfl (lv_at hl 0 rfl) ?_
      refine va_get (D := (dC, dI)) (ci := 2) (v := .int (nI S)) (C := RX2) (T := TX2) (N := 5) hx hb hg inG2 hown hK.1 hP 0 rfl rfl 0 (by decide) (hg _ wt_217) (fun _ h9 => h9) rfl dX2_add_53 ?_
      refine lv_iload hx hb dX2_add_56 (lv_at hl 4 rfl) ?_
      refine va_iast hx hb hK.1 hP hD hS 4 0 rfl rfl (vp_in_nI (by have t_n2 := n2; have t_n4 := n4; have t_n0 : (nI S).toInt = (S : Int) := nI_toInt (by omega); omega) (by decide)) dX2_add_58 (fun H locs hP hD hS => ?_)
      rw [nI_clamp (by omega)] at hP hD
      have hP : va_P (dC, dI) vwCl [(h0, .inr (2, [.int (nI S), .ref l1, .ref l2, .ref l3, .ref l4])), (l1, .inl (G 0, 8, .inl (upd z1 S i))), (l2, .inl (G 0, 8, .inl (upd z2 S g))), (l3, .inl (G 0, 8, .inl (upd z3 S k))), (l4, .inl (G 0, 8, .inl (upd z4 S x1)))] H := hP
      have hD : va_D A [(h0, .inr (2, [.int (nI S), .ref l1, .ref l2, .ref l3, .ref l4])), (l1, .inl (G 0, 8, .inl (upd z1 S i))), (l2, .inl (G 0, 8, .inl (upd z2 S g))), (l3, .inl (G 0, 8, .inl (upd z3 S k))), (l4, .inl (G 0, 8, .inl (upd z4 S x1)))] := hD
      refine lv_aload_n hx hb dX2_add_59 rfl (lv_at hl 0 rfl) ?_
      refine lv_dup hx hb dX2_add_60 rfl ?_
      refine va_get (D := (dC, dI)) (ci := 2) (v := .int (nI S)) (C := RX2) (T := TX2) (N := 5) hx hb hg inG2 hown hK.1 hP 0 rfl rfl 0 (by decide) (hg _ wt_217) (fun _ h9 => h9) rfl dX2_add_61 ?_
      refine lv_iconst (v := 1) hx hb dX2_add_64 (by decide) ?_
      refine lv_iadd hx hb dX2_add_65 ?_
      refine lv_cg (y := nI (S + 1)) (by rw [show (1 : Int32) = nI 1 from rfl]; exact nI_add _ _) ?_
      refine va_put (D := (dC, dI)) (ci := 2) (v := .int (nI (S + 1))) (ty := .int) (C := RX2) (T := TX2) (N := 5) hx hb hg inG2 tyX2 tyX2_ok nmX2 hown hK.1 hP hD hS 0 rfl rfl 0 (by decide) (hg _ wt_217) (fun _ h9 => h9) rfl (by decide +kernel) rfl rfl (Nat.le_of_ble_eq_true rfl) dX2_add_66 (fun H locs hP hD hS => ?_)
      have hP : va_P (dC, dI) vwCl [(h0, .inr (2, [.int (nI (S + 1)), .ref l1, .ref l2, .ref l3, .ref l4])), (l1, .inl (G 0, 8, .inl (upd z1 S i))), (l2, .inl (G 0, 8, .inl (upd z2 S g))), (l3, .inl (G 0, 8, .inl (upd z3 S k))), (l4, .inl (G 0, 8, .inl (upd z4 S x1)))] H := hP
      have hD : va_D A [(h0, .inr (2, [.int (nI (S + 1)), .ref l1, .ref l2, .ref l3, .ref l4])), (l1, .inl (G 0, 8, .inl (upd z1 S i))), (l2, .inl (G 0, 8, .inl (upd z2 S g))), (l3, .inl (G 0, 8, .inl (upd z3 S k))), (l4, .inl (G 0, 8, .inl (upd z4 S x1)))] := hD
      refine lv_iconst (v := 1) hx hb dX2_add_69 (by decide) ?_
      have hpost : (1 : Int32) = if S < 8 then 1 else 0 := by
        have t_n2 := n2
        have t_n4 := n4
        have t_n0 : (nI S).toInt = (S : Int) := nI_toInt (by omega)
        have t_n0 : (nI S).toInt = (S : Int) := nI_toInt (by omega)
        first | rfl | ((repeat' split) <;> first | rfl | omega)
      have hP9 := hP.sub (ws' := [(h0, .inr (2, [.int (nI (S + 1)), .ref l1, .ref l2, .ref l3, .ref l4])), (l1, .inl (G 0, 8, .inl (upd z1 S i))), (l2, .inl (G 0, 8, .inl (upd z2 S g))), (l3, .inl (G 0, 8, .inl (upd z3 S k))), (l4, .inl (G 0, 8, .inl (upd z4 S x1)))]) [0, 1, 2, 3, 4] rfl
      have hD9 := hD.sub (ws' := [(h0, .inr (2, [.int (nI (S + 1)), .ref l1, .ref l2, .ref l3, .ref l4])), (l1, .inl (G 0, 8, .inl (upd z1 S i))), (l2, .inl (G 0, 8, .inl (upd z2 S g))), (l3, .inl (G 0, 8, .inl (upd z3 S k))), (l4, .inl (G 0, 8, .inl (upd z4 S x1)))]) [0, 1, 2, 3, 4] (by decide) rfl
      refine W.widen (k := 0) (n := 0) (by omega) (by omega) ?_
      exact W.zret (v := 1) hx hb hr (by first | rfl | decide | exact rfl) (fun t ht hW => ⟨⟨1, ((S + 1), (upd z1 S i), (upd z2 S g), (upd z3 S k), (upd z4 S x1)), rfl, ⟨hpost, (by have t_n2 := n2; have t_n4 := n4; have t_n0 : (nI S).toInt = (S : Int) := nI_toInt (by omega); split <;> omega)⟩, ⟨by rw [ht]; exact hP9, hD9⟩⟩, hS.F ht⟩) hS.2.2 dX2_add_70
    · skip
      have n5 : 8 ≤ S := by have t := nltI c3; rw [nI_toInt (n := S) (by omega)] at t; have : (8 : Int32).toInt = 8 := (by decide); omega
      refine lv_iconst (v := 0) hx hb dX2_add_16 (by decide) ?_
      have hpost : (0 : Int32) = if S < 8 then 1 else 0 := by
        have t_n2 := n2
        have t_n5 := n5
        have t_n0 : (nI S).toInt = (S : Int) := nI_toInt (by omega)
        have t_n0 : (nI S).toInt = (S : Int) := nI_toInt (by omega)
        first | rfl | ((repeat' split) <;> first | rfl | omega)
      have hP9 := hP.sub (ws' := [(h0, .inr (2, [.int (nI S), .ref l1, .ref l2, .ref l3, .ref l4])), (l1, .inl (G 0, 8, .inl z1)), (l2, .inl (G 0, 8, .inl z2)), (l3, .inl (G 0, 8, .inl z3)), (l4, .inl (G 0, 8, .inl z4))]) [0, 1, 2, 3, 4] rfl
      have hD9 := hD.sub (ws' := [(h0, .inr (2, [.int (nI S), .ref l1, .ref l2, .ref l3, .ref l4])), (l1, .inl (G 0, 8, .inl z1)), (l2, .inl (G 0, 8, .inl z2)), (l3, .inl (G 0, 8, .inl z3)), (l4, .inl (G 0, 8, .inl z4))]) [0, 1, 2, 3, 4] (by decide) rfl
      refine W.widen (k := 0) (n := 0) (by omega) (by omega) ?_
      exact W.zret (v := 0) hx hb hr (by first | rfl | decide | exact rfl) (fun t ht hW => ⟨⟨0, (S, z1, z2, z3, z4), rfl, ⟨hpost, (by have t_n2 := n2; have t_n5 := n5; have t_n0 : (nI S).toInt = (S : Int) := nI_toInt (by omega); split <;> omega)⟩, ⟨by rw [ht]; exact hP9, hD9⟩⟩, hS.F ht⟩) hS.2.2 dX2_add_17

set_option maxHeartbeats 1000000 in
set_option maxRecDepth 100000 in
theorem c_X2_isSo (l : Launch) (dC : Nat → ClassId) (dI : Nat → Nat → Nat) (G : Nat → ClassId) (sz : Nat) (h0 l1 l2 l3 l4 S wy a1 a2 a3 a4 a5 a6 N B D : Nat) (z1 z2 z3 z4 f1 f2 f4 f5 f6 : Nat → Int32) (hS0 : S ≤ 8) (hN_N : N ≤ 10) (hB_B : B ≤ 6) (hD_D : 1 ≤ D ∧ D ≤ 9) : Met l yX2_isSo (Cond.code yX2_isSo cX2_isSo 3 (some .boolean) :: GT) ({ frames := 3, cells := 0, slots := 0, locals := 67 } : Room) (PcR [.ref h0, .ref wy] dC dI G [(h0, .inr (2, [.int (nI S), .ref l1, .ref l2, .ref l3, .ref l4])), (l1, .inl (G 0, 8, .inl z1)), (l2, .inl (G 0, 8, .inl z2)), (l3, .inl (G 0, 8, .inl z3)), (l4, .inl (G 0, 8, .inl z4)), (wy, .inr (9, [.int (nI N), .int (nI B), .int (nI D), .ref a1, .ref a2, .ref a3, .ref a4, .ref a5, .ref a6])), (a1, .inl (G 0, 10, .inl f1)), (a2, .inl (G 0, 10, .inl f2)), (a4, .inl (G 0, 6, .inl f4)), (a5, .inl (G 0, 6, .inl f5)), (a6, .inl (G 0, 6, .inl f6))] sz) (va_Qi (fun (r : Int32) (u : Unit) => match u with | _ => (r = 0 ∨ r = 1) ∧ True) (fun _ _ => True) (fun q : Nat => sz ≤ q)) 0 0 (fun q : Nat => sz ≤ q) := by
  refine Met.ofW (cc := cX2_isSo) (maxL := 3) (ret := (some .boolean)) (by decide) rfl ?_
  intro p e s m args below meth c s₁ Bd hml hv
  obtain ⟨rfl, hsz, hP, hK⟩ := hv
  have hx := Bd.exec
  have hb := Bd.bytes
  have hr := Bd.returns
  have hg : ∀ w ∈ GT, w.before ([.ref h0, .ref wy] : List Value).toArray s = true := fun w h => atoms_spec (ws := Cond.code yX2_isSo cX2_isSo 3 (some .boolean) :: GT) Bd.pre w (List.mem_cons_of_mem _ h)
  have hown : s.vm.findClass RX2 = some m.cls := findClass_of_methodNamed Bd.named
  have hlocks := Bd.notSynchronized
  subst hsz
  have hA : ∀ q : Nat, s.heap.size ≤ q → (fun q : Nat => s.heap.size ≤ q) q := fun _ h => h
  have hS : va_S (fun q : Nat => s.heap.size ≤ q) s.heap s.heap [] := va_S.rf
  have hl := lv_entry ([.ref h0, .ref wy]) (n := 3) (Nat.le_of_ble_eq_true rfl)
  rw [lg_entry_eq]
  generalize (lg_sl ([.ref h0, .ref wy]) ++ List.replicate (3 - (lg_sl ([.ref h0, .ref wy])).length) Slot.unset).toArray = ls at hl ⊢
  have hl : lv_has ls 3 [(0, .ref h0), (1, .ref wy)] := hl
  refine lv_iconst (v := 0) hx hb dX2_isSo_0 (by decide) ?_
  refine lv_istore_n (lv' := [(2, .int 0), (0, .ref h0), (1, .ref wy)]) hx hb dX2_isSo_1 rfl hl (by decide) rfl (fun ls hl => ?_)
  have loop2_2 : ∀ (nf j1 : Nat), S + 1 ≤ j1 + nf → j1 ≤ S → ∀ (H : Heap) (locs : List Loc), va_P (dC, dI) vwCl [(h0, .inr (2, [.int (nI S), .ref l1, .ref l2, .ref l3, .ref l4])), (l1, .inl (G 0, 8, .inl z1)), (l2, .inl (G 0, 8, .inl z2)), (l3, .inl (G 0, 8, .inl z3)), (l4, .inl (G 0, 8, .inl z4)), (wy, .inr (9, [.int (nI N), .int (nI B), .int (nI D), .ref a1, .ref a2, .ref a3, .ref a4, .ref a5, .ref a6])), (a1, .inl (G 0, 10, .inl f1)), (a2, .inl (G 0, 10, .inl f2)), (a4, .inl (G 0, 6, .inl f4)), (a5, .inl (G 0, 6, .inl f5)), (a6, .inl (G 0, 6, .inl f6))] H → va_S (fun q : Nat => s.heap.size ≤ q) s.heap H locs → ∀ (ls : Array Slot), lv_has ls 3 [(2, .int (nI j1)), (0, .ref h0), (1, .ref wy)] → W p l e (headSpec (Cond.code yX2_isSo cX2_isSo 3 (some .boolean) :: GT) ({ frames := 3, cells := 0, slots := 0, locals := 67 } : Room)).room s m ([.ref h0, .ref wy] : List Value).toArray below meth c H locs 0 0 (MQ below (va_Qi (fun (r : Int32) (u : Unit) => match u with | _ => (r = 0 ∨ r = 1) ∧ True) (fun _ _ => True) (fun q : Nat => s.heap.size ≤ q)) ([.ref h0, .ref wy] : List Value).toArray s 0 0 (fun q : Nat => s.heap.size ≤ q)) (F0 m 2 ls []) := by
    intro nf
    induction nf with
    | zero => intro j1 h1 h2; exact absurd h1 (by omega)
    | succ nf ih2_2 =>
      intro j1 hn3 hj4  H locs hP hS ls hl
      refine lv_iload_n hx hb dX2_isSo_2 rfl (lv_at hl 0 rfl) ?_
      refine lv_aload_n hx hb dX2_isSo_3 rfl (lv_at hl 1 rfl) ?_
      refine va_get (D := (dC, dI)) (ci := 2) (v := .int (nI S)) (C := RX2) (T := TX2) (N := 5) hx hb hg inG2 hown hK.1 hP 0 rfl rfl 0 (by decide) (hg _ wt_217) (fun _ h9 => h9) rfl dX2_isSo_4 ?_
      refine lv_icmp_ge (tgt := 49) hx hb dX2_isSo_7 (by decide) (fun c5 => ?_) (fun c5 => ?_)
      · skip
        have n6 : S ≤ j1 := by have t := leI c5; rw [nI_toInt (n := j1) (by omega)] at t; rw [nI_toInt (n := S) (by omega)] at t; omega
        refine lv_iconst (v := 1) hx hb dX2_isSo_49 (by decide) ?_
        have hpost : (1 : Int32) = 0 ∨ (1 : Int32) = 1 := by
          exact Or.inr rfl
        refine W.widen (k := 0) (n := 0) (by omega) (by omega) ?_
        exact W.zret (v := 1) hx hb hr (by first | rfl | decide | exact rfl) (fun t ht hW => ⟨⟨1, (), rfl, ⟨hpost, trivial⟩, trivial⟩, hS.F ht⟩) hS.2.2 dX2_isSo_50
      · skip
        have n7 : j1 < S := by have t := nleI c5; rw [nI_toInt (n := j1) (by omega)] at t; rw [nI_toInt (n := S) (by omega)] at t; omega
        refine lv_aload_n hx hb dX2_isSo_10 rfl (lv_at hl 2 rfl) ?_
        refine lv_aload_n hx hb dX2_isSo_11 rfl (lv_at hl 1 rfl) ?_
        refine va_get (D := (dC, dI)) (ci := 2) (v := .ref l1) (C := RX2) (T := TX2) (N := 5) hx hb hg inG2 hown hK.1 hP 0 rfl rfl 1 (by decide) (hg _ wt_219) (fun _ h9 => h9) rfl dX2_isSo_12 ?_
        refine lv_iload_n hx hb dX2_isSo_15 rfl (lv_at hl 0 rfl) ?_
        refine va_iald hx hb hK.1 hP 1 0 rfl rfl (vp_in_nI (by have t_hj4 := hj4; have t_n7 := n7; have t_n0 : (nI S).toInt = (S : Int) := nI_toInt (by omega); have t_n1 : (nI N).toInt = (N : Int) := nI_toInt (by omega); have t_n2 : (nI B).toInt = (B : Int) := nI_toInt (by omega); have t_n3 : (nI D).toInt = (D : Int) := nI_toInt (by omega); have t_n4 : (nI j1).toInt = (j1 : Int) := nI_toInt (by omega); omega) (by decide)) dX2_isSo_16 ?_
        refine lv_cg (y := z1 j1) (by rw [nI_clamp (by omega)]) ?_
        refine lv_aload_n hx hb dX2_isSo_17 rfl (lv_at hl 1 rfl) ?_
        refine va_get (D := (dC, dI)) (ci := 2) (v := .ref l2) (C := RX2) (T := TX2) (N := 5) hx hb hg inG2 hown hK.1 hP 0 rfl rfl 2 (by decide) (hg _ wt_220) (fun _ h9 => h9) rfl dX2_isSo_18 ?_
        refine lv_iload_n hx hb dX2_isSo_21 rfl (lv_at hl 0 rfl) ?_
        refine va_iald hx hb hK.1 hP 2 0 rfl rfl (vp_in_nI (by have t_hj4 := hj4; have t_n7 := n7; have t_n0 : (nI S).toInt = (S : Int) := nI_toInt (by omega); have t_n1 : (nI N).toInt = (N : Int) := nI_toInt (by omega); have t_n2 : (nI B).toInt = (B : Int) := nI_toInt (by omega); have t_n3 : (nI D).toInt = (D : Int) := nI_toInt (by omega); have t_n4 : (nI j1).toInt = (j1 : Int) := nI_toInt (by omega); omega) (by decide)) dX2_isSo_22 ?_
        refine lv_cg (y := z2 j1) (by rw [nI_clamp (by omega)]) ?_
        refine lv_aload_n hx hb dX2_isSo_23 rfl (lv_at hl 1 rfl) ?_
        refine va_get (D := (dC, dI)) (ci := 2) (v := .ref l3) (C := RX2) (T := TX2) (N := 5) hx hb hg inG2 hown hK.1 hP 0 rfl rfl 3 (by decide) (hg _ wt_221) (fun _ h9 => h9) rfl dX2_isSo_24 ?_
        refine lv_iload_n hx hb dX2_isSo_27 rfl (lv_at hl 0 rfl) ?_
        refine va_iald hx hb hK.1 hP 3 0 rfl rfl (vp_in_nI (by have t_hj4 := hj4; have t_n7 := n7; have t_n0 : (nI S).toInt = (S : Int) := nI_toInt (by omega); have t_n1 : (nI N).toInt = (N : Int) := nI_toInt (by omega); have t_n2 : (nI B).toInt = (B : Int) := nI_toInt (by omega); have t_n3 : (nI D).toInt = (D : Int) := nI_toInt (by omega); have t_n4 : (nI j1).toInt = (j1 : Int) := nI_toInt (by omega); omega) (by decide)) dX2_isSo_28 ?_
        refine lv_cg (y := z3 j1) (by rw [nI_clamp (by omega)]) ?_
        have hPc := hP.sub (ws' := [(wy, .inr (9, [.int (nI N), .int (nI B), .int (nI D), .ref a1, .ref a2, .ref a3, .ref a4, .ref a5, .ref a6])), (a1, .inl (G 0, 10, .inl f1)), (a2, .inl (G 0, 10, .inl f2)), (a4, .inl (G 0, 6, .inl f4)), (a5, .inl (G 0, 6, .inl f5)), (a6, .inl (G 0, 6, .inl f6))]) [5, 6, 7, 8, 9, 10] rfl
        refine va_calli (va_runVN (As := [.int (z1 j1), .int (z2 j1), .int (z3 j1)]) (rest := []) ⟨hx, hb, hml, hown, hg⟩ (c_X9_harmBy l dC dI G _ wy a1 a2 a3 a4 a5 a6 N B D (z1 j1) (z2 j1) (z3 j1) f1 f2 f4 f5 f6 (by have t_hj4 := hj4; have t_n7 := n7; have t_n0 : (nI S).toInt = (S : Int) := nI_toInt (by omega); have t_n1 : (nI N).toInt = (N : Int) := nI_toInt (by omega); have t_n2 : (nI B).toInt = (B : Int) := nI_toInt (by omega); have t_n3 : (nI D).toInt = (D : Int) := nI_toInt (by omega); have t_n4 : (nI j1).toInt = (j1 : Int) := nI_toInt (by omega); have t_n0 : (nI S).toInt = (S : Int) := nI_toInt (by omega); have t_n1 : (nI N).toInt = (N : Int) := nI_toInt (by omega); have t_n2 : (nI B).toInt = (B : Int) := nI_toInt (by omega); have t_n3 : (nI D).toInt = (D : Int) := nI_toInt (by omega); have t_n4 : (nI j1).toInt = (j1 : Int) := nI_toInt (by omega); omega) (by have t_hj4 := hj4; have t_n7 := n7; have t_n0 : (nI S).toInt = (S : Int) := nI_toInt (by omega); have t_n1 : (nI N).toInt = (N : Int) := nI_toInt (by omega); have t_n2 : (nI B).toInt = (B : Int) := nI_toInt (by omega); have t_n3 : (nI D).toInt = (D : Int) := nI_toInt (by omega); have t_n4 : (nI j1).toInt = (j1 : Int) := nI_toInt (by omega); have t_n0 : (nI S).toInt = (S : Int) := nI_toInt (by omega); have t_n1 : (nI N).toInt = (N : Int) := nI_toInt (by omega); have t_n2 : (nI B).toInt = (B : Int) := nI_toInt (by omega); have t_n3 : (nI D).toInt = (D : Int) := nI_toInt (by omega); have t_n4 : (nI j1).toInt = (j1 : Int) := nI_toInt (by omega); omega) (by have t_hj4 := hj4; have t_n7 := n7; have t_n0 : (nI S).toInt = (S : Int) := nI_toInt (by omega); have t_n1 : (nI N).toInt = (N : Int) := nI_toInt (by omega); have t_n2 : (nI B).toInt = (B : Int) := nI_toInt (by omega); have t_n3 : (nI D).toInt = (D : Int) := nI_toInt (by omega); have t_n4 : (nI j1).toInt = (j1 : Int) := nI_toInt (by omega); have t_n0 : (nI S).toInt = (S : Int) := nI_toInt (by omega); have t_n1 : (nI N).toInt = (N : Int) := nI_toInt (by omega); have t_n2 : (nI B).toInt = (B : Int) := nI_toInt (by omega); have t_n3 : (nI D).toInt = (D : Int) := nI_toInt (by omega); have t_n4 : (nI j1).toInt = (j1 : Int) := nI_toInt (by omega); omega)) (kwVN hg hK mfX9_harmBy wn_750 ⟨Nat.le_of_ble_eq_true rfl, Nat.le_of_ble_eq_true rfl⟩) (preVR hK hPc (ci := 9) rfl rfl) rfl rfl hl.1 rfl (lv_room (Nat.le_of_ble_eq_true rfl)) dX2_isSo_29 ⟨Nat.le_of_ble_eq_true rfl, Nat.le_of_ble_eq_true rfl⟩) hS (fun q h1 h2 => absurd h2 (Nat.not_le.mpr h1)) (fun q h => hA q (Nat.le_trans hS.1 h)) (fun r8 ur8 t H1 locs ht hvm w9 hB hz1 hk1 hS => ?_)
        have hP := keepR hP hk1
        obtain ⟨w9, w9x⟩ := w9
        subst w9
        refine lv_aload_n hx hb dX2_isSo_32 rfl (lv_at hl 1 rfl) ?_
        refine va_get (D := (dC, dI)) (ci := 2) (v := .ref l4) (C := RX2) (T := TX2) (N := 5) hx hb hg inG2 hown hK.1 hP 0 rfl rfl 4 (by decide) (hg _ wt_222) (fun _ h9 => h9) rfl dX2_isSo_33 ?_
        refine lv_iload_n hx hb dX2_isSo_36 rfl (lv_at hl 0 rfl) ?_
        refine va_iald hx hb hK.1 hP 4 0 rfl rfl (vp_in_nI (by have t_hj4 := hj4; have t_n7 := n7; have t_n0 : (nI S).toInt = (S : Int) := nI_toInt (by omega); have t_n1 : (nI N).toInt = (N : Int) := nI_toInt (by omega); have t_n2 : (nI B).toInt = (B : Int) := nI_toInt (by omega); have t_n3 : (nI D).toInt = (D : Int) := nI_toInt (by omega); have t_n4 : (nI j1).toInt = (j1 : Int) := nI_toInt (by omega); omega) (by decide)) dX2_isSo_37 ?_
        refine lv_cg (y := z4 j1) (by rw [nI_clamp (by omega)]) ?_
        refine lv_icmp_eq (tgt := 43) hx hb dX2_isSo_38 (by decide) (fun c10 => ?_) (fun c10 => ?_)
        · skip
          refine lv_iinc (v := nI (j1 + 1)) (lv' := [(2, .int (nI (j1 + 1))), (0, .ref h0), (1, .ref wy)]) hx hb dX2_isSo_43 hl (k := 0) rfl (by rw [show Int32.ofInt 1 = nI 1 from by decide]; exact nI_add _ _) (by decide) rfl (fun ls hl => ?_)
          refine lv_goto (tgt := 2) hx hb dX2_isSo_46 (by decide) ?_
          exact ih2_2 (j1 + 1) (by omega) (by omega)  _ _ hP hS ls (lv_sub hl [0, 1, 2] rfl)
        · skip
          refine lv_iconst (v := 0) hx hb dX2_isSo_41 (by decide) ?_
          have hpost : (0 : Int32) = 0 ∨ (0 : Int32) = 1 := by
            exact Or.inl rfl
          refine W.widen (k := 0) (n := 0) (by omega) (by omega) ?_
          exact W.zret (v := 0) hx hb hr (by first | rfl | decide | exact rfl) (fun t ht hW => ⟨⟨0, (), rfl, ⟨hpost, trivial⟩, trivial⟩, hS.F ht⟩) hS.2.2 dX2_isSo_42
  exact loop2_2 (S + 1) 0 (by omega) (by omega)  _ _ hP hS ls (lv_sub hl [0, 1, 2] rfl)

set_option maxHeartbeats 1000000 in
set_option maxRecDepth 100000 in
theorem c_X3_add (l : Launch) (dC : Nat → ClassId) (dI : Nat → Nat → Nat) (G : Nat → ClassId) (sz : Nat) (h0 m1 m2 S : Nat) (i g : Int32) (z1 z2 : Nat → Int32) (hS0 : S ≤ 6) : Met l yX3_add (Cond.code yX3_add cX3_add 3 (some .boolean) :: GT) ({ frames := 0, cells := 0, slots := 0, locals := 0 } : Room) (PcW [.ref h0, .int i, .int g] dC dI G [(h0, .inr (3, [.int (nI S), .ref m1, .ref m2])), (m1, .inl (G 0, 6, .inl z1)), (m2, .inl (G 0, 6, .inl z2))] sz) (va_Qi (fun (r : Int32) (u : Nat × (Nat → Int32) × (Nat → Int32)) => match u with | (u0, u1, u2) => (r = if S < 6 then 1 else 0) ∧ u0 = (if S < 6 then S + 1 else S)) (fun (u : Nat × (Nat → Int32) × (Nat → Int32)) (t : State) => match u with | (u0, u1, u2) => va_P (dC, dI) vwCl [(h0, .inr (3, [.int (nI u0), .ref m1, .ref m2])), (m1, .inl (G 0, 6, .inl u1)), (m2, .inl (G 0, 6, .inl u2))] t.heap ∧ va_D (va_A [(h0, .inr (3, [.int (nI S), .ref m1, .ref m2])), (m1, .inl (G 0, 6, .inl z1)), (m2, .inl (G 0, 6, .inl z2))] sz) [(h0, .inr (3, [.int (nI u0), .ref m1, .ref m2])), (m1, .inl (G 0, 6, .inl u1)), (m2, .inl (G 0, 6, .inl u2))]) (va_A [(h0, .inr (3, [.int (nI S), .ref m1, .ref m2])), (m1, .inl (G 0, 6, .inl z1)), (m2, .inl (G 0, 6, .inl z2))] sz)) 0 0 (va_A [(h0, .inr (3, [.int (nI S), .ref m1, .ref m2])), (m1, .inl (G 0, 6, .inl z1)), (m2, .inl (G 0, 6, .inl z2))] sz) := by
  refine Met.ofW (cc := cX3_add) (maxL := 3) (ret := (some .boolean)) (by decide) rfl ?_
  intro p e s m args below meth c s₁ Bd hml hv
  obtain ⟨rfl, hsz, hP, hK, hD0⟩ := hv
  have hx := Bd.exec
  have hb := Bd.bytes
  have hr := Bd.returns
  have hg : ∀ w ∈ GT, w.before ([.ref h0, .int i, .int g] : List Value).toArray s = true := fun w h => atoms_spec (ws := Cond.code yX3_add cX3_add 3 (some .boolean) :: GT) Bd.pre w (List.mem_cons_of_mem _ h)
  have hown : s.vm.findClass RX3 = some m.cls := findClass_of_methodNamed Bd.named
  have hlocks := Bd.notSynchronized
  subst hsz
  have hD := hD0.self (sz := s.heap.size)
  generalize hAe : va_A [(h0, .inr (3, [.int (nI S), .ref m1, .ref m2])), (m1, .inl (G 0, 6, .inl z1)), (m2, .inl (G 0, 6, .inl z2))] s.heap.size = A at hD ⊢
  have hA : ∀ q : Nat, s.heap.size ≤ q → A q := fun q h => by rw [← hAe]; exact Or.inr h
  have hS : va_S A s.heap s.heap [] := va_S.rf
  have hl := lv_entry ([.ref h0, .int i, .int g]) (n := 3) (Nat.le_of_ble_eq_true rfl)
  rw [lg_entry_eq]
  generalize (lg_sl ([.ref h0, .int i, .int g]) ++ List.replicate (3 - (lg_sl ([.ref h0, .int i, .int g])).length) Slot.unset).toArray = ls at hl ⊢
  have hl : lv_has ls 3 [(0, .ref h0), (1, .int i), (2, .int g)] := hl
  refine lv_aload_n hx hb dX3_add_0 rfl (lv_at hl 0 rfl) ?_
  refine va_get (D := (dC, dI)) (ci := 3) (v := .int (nI S)) (C := RX3) (T := TX3) (N := 3) hx hb hg inG3 hown hK.1 hP 0 rfl rfl 0 (by decide) (hg _ wt_240) (fun _ h9 => h9) rfl dX3_add_1 ?_
  refine lv_if_lt (tgt := 16) hx hb dX3_add_4 (by decide) (fun c1 => ?_) (fun c1 => ?_)
  · skip
    have t_c1 := ltI c1
    have : (0 : Int32).toInt = 0 := (by decide)
    have t_n0 : (nI S).toInt = (S : Int) := nI_toInt (by omega)
    have t_n0 : (nI S).toInt = (S : Int) := nI_toInt (by omega)
    exfalso; omega
  · skip
    have n2 : 0 ≤ S := by have t := nltI c1; rw [nI_toInt (n := S) (by omega)] at t; have : (0 : Int32).toInt = 0 := (by decide); omega
    refine lv_aload_n hx hb dX3_add_7 rfl (lv_at hl 0 rfl) ?_
    refine va_get (D := (dC, dI)) (ci := 3) (v := .int (nI S)) (C := RX3) (T := TX3) (N := 3) hx hb hg inG3 hown hK.1 hP 0 rfl rfl 0 (by decide) (hg _ wt_240) (fun _ h9 => h9) rfl dX3_add_8 ?_
    refine lv_bipush (v := 6) hx hb dX3_add_11 (by decide) ?_
    refine lv_icmp_lt (tgt := 18) hx hb dX3_add_13 (by decide) (fun c3 => ?_) (fun c3 => ?_)
    · skip
      have n4 : S < 6 := by have t := ltI c3; rw [nI_toInt (n := S) (by omega)] at t; have : (6 : Int32).toInt = 6 := (by decide); omega
      refine lv_aload_n hx hb dX3_add_18 rfl (lv_at hl 0 rfl) ?_
      refine va_get (D := (dC, dI)) (ci := 3) (v := .ref m1) (C := RX3) (T := TX3) (N := 3) hx hb hg inG3 hown hK.1 hP 0 rfl rfl 1 (by decide) (hg _ wt_242) (fun _ h9 => h9) rfl dX3_add_19 ?_
      refine lv_aload_n hx hb dX3_add_22 rfl (lv_at hl 0 rfl) ?_
      refine va_get (D := (dC, dI)) (ci := 3) (v := .int (nI S)) (C := RX3) (T := TX3) (N := 3) hx hb hg inG3 hown hK.1 hP 0 rfl rfl 0 (by decide) (hg _ wt_240) (fun _ h9 => h9) rfl dX3_add_23 ?_
      refine lv_iload_n hx hb dX3_add_26 rfl (lv_at hl 1 rfl) ?_
      refine va_iast hx hb hK.1 hP hD hS 1 0 rfl rfl (vp_in_nI (by have t_n2 := n2; have t_n4 := n4; have t_n0 : (nI S).toInt = (S : Int) := nI_toInt (by omega); omega) (by decide)) dX3_add_27 (fun H locs hP hD hS => ?_)
      rw [nI_clamp (by omega)] at hP hD
      have hP : va_P (dC, dI) vwCl [(h0, .inr (3, [.int (nI S), .ref m1, .ref m2])), (m1, .inl (G 0, 6, .inl (upd z1 S i))), (m2, .inl (G 0, 6, .inl z2))] H := hP
      have hD : va_D A [(h0, .inr (3, [.int (nI S), .ref m1, .ref m2])), (m1, .inl (G 0, 6, .inl (upd z1 S i))), (m2, .inl (G 0, 6, .inl z2))] := hD
      refine lv_aload_n hx hb dX3_add_28 rfl (lv_at hl 0 rfl) ?_
      refine va_get (D := (dC, dI)) (ci := 3) (v := .ref m2) (C := RX3) (T := TX3) (N := 3) hx hb hg inG3 hown hK.1 hP 0 rfl rfl 2 (by decide) (hg _ wt_243) (fun _ h9 => h9) rfl dX3_add_29 ?_
      refine lv_aload_n hx hb dX3_add_32 rfl (lv_at hl 0 rfl) ?_
      refine va_get (D := (dC, dI)) (ci := 3) (v := .int (nI S)) (C := RX3) (T := TX3) (N := 3) hx hb hg inG3 hown hK.1 hP 0 rfl rfl 0 (by decide) (hg _ wt_240) (fun _ h9 => h9) rfl dX3_add_33 ?_
      refine lv_iload_n hx hb dX3_add_36 rfl (lv_at hl 2 rfl) ?_
      refine va_iast hx hb hK.1 hP hD hS 2 0 rfl rfl (vp_in_nI (by have t_n2 := n2; have t_n4 := n4; have t_n0 : (nI S).toInt = (S : Int) := nI_toInt (by omega); omega) (by decide)) dX3_add_37 (fun H locs hP hD hS => ?_)
      rw [nI_clamp (by omega)] at hP hD
      have hP : va_P (dC, dI) vwCl [(h0, .inr (3, [.int (nI S), .ref m1, .ref m2])), (m1, .inl (G 0, 6, .inl (upd z1 S i))), (m2, .inl (G 0, 6, .inl (upd z2 S g)))] H := hP
      have hD : va_D A [(h0, .inr (3, [.int (nI S), .ref m1, .ref m2])), (m1, .inl (G 0, 6, .inl (upd z1 S i))), (m2, .inl (G 0, 6, .inl (upd z2 S g)))] := hD
      refine lv_aload_n hx hb dX3_add_38 rfl (lv_at hl 0 rfl) ?_
      refine lv_dup hx hb dX3_add_39 rfl ?_
      refine va_get (D := (dC, dI)) (ci := 3) (v := .int (nI S)) (C := RX3) (T := TX3) (N := 3) hx hb hg inG3 hown hK.1 hP 0 rfl rfl 0 (by decide) (hg _ wt_240) (fun _ h9 => h9) rfl dX3_add_40 ?_
      refine lv_iconst (v := 1) hx hb dX3_add_43 (by decide) ?_
      refine lv_iadd hx hb dX3_add_44 ?_
      refine lv_cg (y := nI (S + 1)) (by rw [show (1 : Int32) = nI 1 from rfl]; exact nI_add _ _) ?_
      refine va_put (D := (dC, dI)) (ci := 3) (v := .int (nI (S + 1))) (ty := .int) (C := RX3) (T := TX3) (N := 3) hx hb hg inG3 tyX3 tyX3_ok nmX3 hown hK.1 hP hD hS 0 rfl rfl 0 (by decide) (hg _ wt_240) (fun _ h9 => h9) rfl (by decide +kernel) rfl rfl (Nat.le_of_ble_eq_true rfl) dX3_add_45 (fun H locs hP hD hS => ?_)
      have hP : va_P (dC, dI) vwCl [(h0, .inr (3, [.int (nI (S + 1)), .ref m1, .ref m2])), (m1, .inl (G 0, 6, .inl (upd z1 S i))), (m2, .inl (G 0, 6, .inl (upd z2 S g)))] H := hP
      have hD : va_D A [(h0, .inr (3, [.int (nI (S + 1)), .ref m1, .ref m2])), (m1, .inl (G 0, 6, .inl (upd z1 S i))), (m2, .inl (G 0, 6, .inl (upd z2 S g)))] := hD
      refine lv_iconst (v := 1) hx hb dX3_add_48 (by decide) ?_
      have hpost : (1 : Int32) = if S < 6 then 1 else 0 := by
        have t_n2 := n2
        have t_n4 := n4
        have t_n0 : (nI S).toInt = (S : Int) := nI_toInt (by omega)
        have t_n0 : (nI S).toInt = (S : Int) := nI_toInt (by omega)
        first | rfl | ((repeat' split) <;> first | rfl | omega)
      have hP9 := hP.sub (ws' := [(h0, .inr (3, [.int (nI (S + 1)), .ref m1, .ref m2])), (m1, .inl (G 0, 6, .inl (upd z1 S i))), (m2, .inl (G 0, 6, .inl (upd z2 S g)))]) [0, 1, 2] rfl
      have hD9 := hD.sub (ws' := [(h0, .inr (3, [.int (nI (S + 1)), .ref m1, .ref m2])), (m1, .inl (G 0, 6, .inl (upd z1 S i))), (m2, .inl (G 0, 6, .inl (upd z2 S g)))]) [0, 1, 2] (by decide) rfl
      refine W.widen (k := 0) (n := 0) (by omega) (by omega) ?_
      exact W.zret (v := 1) hx hb hr (by first | rfl | decide | exact rfl) (fun t ht hW => ⟨⟨1, ((S + 1), (upd z1 S i), (upd z2 S g)), rfl, ⟨hpost, (by have t_n2 := n2; have t_n4 := n4; have t_n0 : (nI S).toInt = (S : Int) := nI_toInt (by omega); split <;> omega)⟩, ⟨by rw [ht]; exact hP9, hD9⟩⟩, hS.F ht⟩) hS.2.2 dX3_add_49
    · skip
      have n5 : 6 ≤ S := by have t := nltI c3; rw [nI_toInt (n := S) (by omega)] at t; have : (6 : Int32).toInt = 6 := (by decide); omega
      refine lv_iconst (v := 0) hx hb dX3_add_16 (by decide) ?_
      have hpost : (0 : Int32) = if S < 6 then 1 else 0 := by
        have t_n2 := n2
        have t_n5 := n5
        have t_n0 : (nI S).toInt = (S : Int) := nI_toInt (by omega)
        have t_n0 : (nI S).toInt = (S : Int) := nI_toInt (by omega)
        first | rfl | ((repeat' split) <;> first | rfl | omega)
      have hP9 := hP.sub (ws' := [(h0, .inr (3, [.int (nI S), .ref m1, .ref m2])), (m1, .inl (G 0, 6, .inl z1)), (m2, .inl (G 0, 6, .inl z2))]) [0, 1, 2] rfl
      have hD9 := hD.sub (ws' := [(h0, .inr (3, [.int (nI S), .ref m1, .ref m2])), (m1, .inl (G 0, 6, .inl z1)), (m2, .inl (G 0, 6, .inl z2))]) [0, 1, 2] (by decide) rfl
      refine W.widen (k := 0) (n := 0) (by omega) (by omega) ?_
      exact W.zret (v := 0) hx hb hr (by first | rfl | decide | exact rfl) (fun t ht hW => ⟨⟨0, (S, z1, z2), rfl, ⟨hpost, (by have t_n2 := n2; have t_n5 := n5; have t_n0 : (nI S).toInt = (S : Int) := nI_toInt (by omega); split <;> omega)⟩, ⟨by rw [ht]; exact hP9, hD9⟩⟩, hS.F ht⟩) hS.2.2 dX3_add_17

set_option maxHeartbeats 1000000 in
set_option maxRecDepth 100000 in
theorem c_X3_allows (l : Launch) (dC : Nat → ClassId) (dI : Nat → Nat → Nat) (G : Nat → ClassId) (sz : Nat) (h0 m1 m2 S : Nat) (i g : Int32) (z1 z2 : Nat → Int32) (hS0 : S ≤ 6) : Met l yX3_allows (Cond.code yX3_allows cX3_allows 4 (some .boolean) :: GT) ({ frames := 0, cells := 0, slots := 0, locals := 0 } : Room) (PcR [.ref h0, .int i, .int g] dC dI G [(h0, .inr (3, [.int (nI S), .ref m1, .ref m2])), (m1, .inl (G 0, 6, .inl z1)), (m2, .inl (G 0, 6, .inl z2))] sz) (va_Qi (fun (r : Int32) (u : Unit) => match u with | _ => (r = 0 ∨ r = 1) ∧ True) (fun _ _ => True) (fun q : Nat => sz ≤ q)) 0 0 (fun q : Nat => sz ≤ q) := by
  refine Met.ofW (cc := cX3_allows) (maxL := 4) (ret := (some .boolean)) (by decide) rfl ?_
  intro p e s m args below meth c s₁ Bd hml hv
  obtain ⟨rfl, hsz, hP, hK⟩ := hv
  have hx := Bd.exec
  have hb := Bd.bytes
  have hr := Bd.returns
  have hg : ∀ w ∈ GT, w.before ([.ref h0, .int i, .int g] : List Value).toArray s = true := fun w h => atoms_spec (ws := Cond.code yX3_allows cX3_allows 4 (some .boolean) :: GT) Bd.pre w (List.mem_cons_of_mem _ h)
  have hown : s.vm.findClass RX3 = some m.cls := findClass_of_methodNamed Bd.named
  have hlocks := Bd.notSynchronized
  subst hsz
  have hA : ∀ q : Nat, s.heap.size ≤ q → (fun q : Nat => s.heap.size ≤ q) q := fun _ h => h
  have hS : va_S (fun q : Nat => s.heap.size ≤ q) s.heap s.heap [] := va_S.rf
  have hl := lv_entry ([.ref h0, .int i, .int g]) (n := 4) (Nat.le_of_ble_eq_true rfl)
  rw [lg_entry_eq]
  generalize (lg_sl ([.ref h0, .int i, .int g]) ++ List.replicate (4 - (lg_sl ([.ref h0, .int i, .int g])).length) Slot.unset).toArray = ls at hl ⊢
  have hl : lv_has ls 4 [(0, .ref h0), (1, .int i), (2, .int g)] := hl
  refine lv_iconst (v := 0) hx hb dX3_allows_0 (by decide) ?_
  refine lv_istore_n (lv' := [(3, .int 0), (0, .ref h0), (1, .int i), (2, .int g)]) hx hb dX3_allows_1 rfl hl (by decide) rfl (fun ls hl => ?_)
  have loop2_2 : ∀ (nf j1 : Nat), S + 1 ≤ j1 + nf → j1 ≤ S → ∀ (H : Heap) (locs : List Loc), va_P (dC, dI) vwCl [(h0, .inr (3, [.int (nI S), .ref m1, .ref m2])), (m1, .inl (G 0, 6, .inl z1)), (m2, .inl (G 0, 6, .inl z2))] H → va_S (fun q : Nat => s.heap.size ≤ q) s.heap H locs → ∀ (ls : Array Slot), lv_has ls 4 [(3, .int (nI j1)), (0, .ref h0), (1, .int i), (2, .int g)] → W p l e (headSpec (Cond.code yX3_allows cX3_allows 4 (some .boolean) :: GT) ({ frames := 0, cells := 0, slots := 0, locals := 0 } : Room)).room s m ([.ref h0, .int i, .int g] : List Value).toArray below meth c H locs 0 0 (MQ below (va_Qi (fun (r : Int32) (u : Unit) => match u with | _ => (r = 0 ∨ r = 1) ∧ True) (fun _ _ => True) (fun q : Nat => s.heap.size ≤ q)) ([.ref h0, .int i, .int g] : List Value).toArray s 0 0 (fun q : Nat => s.heap.size ≤ q)) (F0 m 2 ls []) := by
    intro nf
    induction nf with
    | zero => intro j1 h1 h2; exact absurd h1 (by omega)
    | succ nf ih2_2 =>
      intro j1 hn3 hj4  H locs hP hS ls hl
      refine lv_iload_n hx hb dX3_allows_2 rfl (lv_at hl 0 rfl) ?_
      refine lv_aload_n hx hb dX3_allows_3 rfl (lv_at hl 1 rfl) ?_
      refine va_get (D := (dC, dI)) (ci := 3) (v := .int (nI S)) (C := RX3) (T := TX3) (N := 3) hx hb hg inG3 hown hK.1 hP 0 rfl rfl 0 (by decide) (hg _ wt_240) (fun _ h9 => h9) rfl dX3_allows_4 ?_
      refine lv_icmp_ge (tgt := 38) hx hb dX3_allows_7 (by decide) (fun c5 => ?_) (fun c5 => ?_)
      · skip
        have n6 : S ≤ j1 := by have t := leI c5; rw [nI_toInt (n := j1) (by omega)] at t; rw [nI_toInt (n := S) (by omega)] at t; omega
        refine lv_iconst (v := 1) hx hb dX3_allows_38 (by decide) ?_
        have hpost : (1 : Int32) = 0 ∨ (1 : Int32) = 1 := by
          exact Or.inr rfl
        refine W.widen (k := 0) (n := 0) (by omega) (by omega) ?_
        exact W.zret (v := 1) hx hb hr (by first | rfl | decide | exact rfl) (fun t ht hW => ⟨⟨1, (), rfl, ⟨hpost, trivial⟩, trivial⟩, hS.F ht⟩) hS.2.2 dX3_allows_39
      · skip
        have n7 : j1 < S := by have t := nleI c5; rw [nI_toInt (n := j1) (by omega)] at t; rw [nI_toInt (n := S) (by omega)] at t; omega
        refine lv_aload_n hx hb dX3_allows_10 rfl (lv_at hl 1 rfl) ?_
        refine va_get (D := (dC, dI)) (ci := 3) (v := .ref m1) (C := RX3) (T := TX3) (N := 3) hx hb hg inG3 hown hK.1 hP 0 rfl rfl 1 (by decide) (hg _ wt_242) (fun _ h9 => h9) rfl dX3_allows_11 ?_
        refine lv_iload_n hx hb dX3_allows_14 rfl (lv_at hl 0 rfl) ?_
        refine va_iald hx hb hK.1 hP 1 0 rfl rfl (vp_in_nI (by have t_hj4 := hj4; have t_n7 := n7; have t_n0 : (nI S).toInt = (S : Int) := nI_toInt (by omega); have t_n1 : (nI j1).toInt = (j1 : Int) := nI_toInt (by omega); omega) (by decide)) dX3_allows_15 ?_
        refine lv_cg (y := z1 j1) (by rw [nI_clamp (by omega)]) ?_
        refine lv_iload_n hx hb dX3_allows_16 rfl (lv_at hl 2 rfl) ?_
        refine lv_icmp_ne (tgt := 32) hx hb dX3_allows_17 (by decide) (fun c8 => ?_) (fun c8 => ?_)
        · skip
          refine lv_iinc (v := nI (j1 + 1)) (lv' := [(3, .int (nI (j1 + 1))), (0, .ref h0), (1, .int i), (2, .int g)]) hx hb dX3_allows_32 hl (k := 0) rfl (by rw [show Int32.ofInt 1 = nI 1 from by decide]; exact nI_add _ _) (by decide) rfl (fun ls hl => ?_)
          refine lv_goto (tgt := 2) hx hb dX3_allows_35 (by decide) ?_
          exact ih2_2 (j1 + 1) (by omega) (by omega)  _ _ hP hS ls (lv_sub hl [0, 1, 2, 3] rfl)
        · skip
          refine lv_aload_n hx hb dX3_allows_20 rfl (lv_at hl 1 rfl) ?_
          refine va_get (D := (dC, dI)) (ci := 3) (v := .ref m2) (C := RX3) (T := TX3) (N := 3) hx hb hg inG3 hown hK.1 hP 0 rfl rfl 2 (by decide) (hg _ wt_243) (fun _ h9 => h9) rfl dX3_allows_21 ?_
          refine lv_iload_n hx hb dX3_allows_24 rfl (lv_at hl 0 rfl) ?_
          refine va_iald hx hb hK.1 hP 2 0 rfl rfl (vp_in_nI (by have t_hj4 := hj4; have t_n7 := n7; have t_c8 := eqI c8; have t_n0 : (nI S).toInt = (S : Int) := nI_toInt (by omega); have t_n1 : (nI j1).toInt = (j1 : Int) := nI_toInt (by omega); omega) (by decide)) dX3_allows_25 ?_
          refine lv_cg (y := z2 j1) (by rw [nI_clamp (by omega)]) ?_
          refine lv_iload_n hx hb dX3_allows_26 rfl (lv_at hl 3 rfl) ?_
          refine lv_icmp_eq (tgt := 32) hx hb dX3_allows_27 (by decide) (fun c9 => ?_) (fun c9 => ?_)
          · skip
            refine lv_iinc (v := nI (j1 + 1)) (lv' := [(3, .int (nI (j1 + 1))), (0, .ref h0), (1, .int i), (2, .int g)]) hx hb dX3_allows_32 hl (k := 0) rfl (by rw [show Int32.ofInt 1 = nI 1 from by decide]; exact nI_add _ _) (by decide) rfl (fun ls hl => ?_)
            refine lv_goto (tgt := 2) hx hb dX3_allows_35 (by decide) ?_
            exact ih2_2 (j1 + 1) (by omega) (by omega)  _ _ hP hS ls (lv_sub hl [0, 1, 2, 3] rfl)
          · skip
            refine lv_iconst (v := 0) hx hb dX3_allows_30 (by decide) ?_
            have hpost : (0 : Int32) = 0 ∨ (0 : Int32) = 1 := by
              exact Or.inl rfl
            refine W.widen (k := 0) (n := 0) (by omega) (by omega) ?_
            exact W.zret (v := 0) hx hb hr (by first | rfl | decide | exact rfl) (fun t ht hW => ⟨⟨0, (), rfl, ⟨hpost, trivial⟩, trivial⟩, hS.F ht⟩) hS.2.2 dX3_allows_31
  exact loop2_2 (S + 1) 0 (by omega) (by omega)  _ _ hP hS ls (lv_sub hl [0, 1, 2, 3] rfl)

set_option maxHeartbeats 1000000 in
set_option maxRecDepth 100000 in
theorem c_X1_cross (l : Launch) (dC : Nat → ClassId) (dI : Nat → Nat → Nat) (G : Nat → ClassId) (sz : Nat) (h0 wy a1 a2 a3 a4 a5 a6 N B D : Nat) (x1 x2 x3 sd : Int32) (f1 f2 f3 f4 f5 f6 : Nat → Int32) (hN_N : N ≤ 10) (hB_B : B ≤ 6) (hD_D : 1 ≤ D ∧ D ≤ 9) : Met l yX1_cross (Cond.code yX1_cross cX1_cross 5 none :: GT) ({ frames := 4, cells := 0, slots := 0, locals := 88 } : Room) (PcW [.ref h0, .ref wy, .int sd] dC dI G [(h0, .inr (1, [.int x1, .int x2, .int x3])), (wy, .inr (9, [.int (nI N), .int (nI B), .int (nI D), .ref a1, .ref a2, .ref a3, .ref a4, .ref a5, .ref a6])), (a1, .inl (G 0, 10, .inl f1)), (a2, .inl (G 0, 10, .inl f2)), (a3, .inl (G 0, 10, .inl f3)), (a4, .inl (G 0, 6, .inl f4)), (a5, .inl (G 0, 6, .inl f5)), (a6, .inl (G 0, 6, .inl f6))] sz) (va_Qv (fun (u : Int32 × Int32 × Int32) => match u with | (u0, u1, u2) => True) (fun (u : Int32 × Int32 × Int32) (t : State) => match u with | (u0, u1, u2) => va_P (dC, dI) vwCl [(h0, .inr (1, [.int u0, .int u1, .int u2])), (wy, .inr (9, [.int (nI N), .int (nI B), .int (nI D), .ref a1, .ref a2, .ref a3, .ref a4, .ref a5, .ref a6])), (a1, .inl (G 0, 10, .inl f1)), (a2, .inl (G 0, 10, .inl f2)), (a3, .inl (G 0, 10, .inl f3)), (a4, .inl (G 0, 6, .inl f4)), (a5, .inl (G 0, 6, .inl f5)), (a6, .inl (G 0, 6, .inl f6))] t.heap ∧ va_D (va_A [(h0, .inr (1, [.int x1, .int x2, .int x3])), (wy, .inr (9, [.int (nI N), .int (nI B), .int (nI D), .ref a1, .ref a2, .ref a3, .ref a4, .ref a5, .ref a6])), (a1, .inl (G 0, 10, .inl f1)), (a2, .inl (G 0, 10, .inl f2)), (a3, .inl (G 0, 10, .inl f3)), (a4, .inl (G 0, 6, .inl f4)), (a5, .inl (G 0, 6, .inl f5)), (a6, .inl (G 0, 6, .inl f6))] sz) [(h0, .inr (1, [.int u0, .int u1, .int u2])), (wy, .inr (9, [.int (nI N), .int (nI B), .int (nI D), .ref a1, .ref a2, .ref a3, .ref a4, .ref a5, .ref a6])), (a1, .inl (G 0, 10, .inl f1)), (a2, .inl (G 0, 10, .inl f2)), (a3, .inl (G 0, 10, .inl f3)), (a4, .inl (G 0, 6, .inl f4)), (a5, .inl (G 0, 6, .inl f5)), (a6, .inl (G 0, 6, .inl f6))]) (va_A [(h0, .inr (1, [.int x1, .int x2, .int x3])), (wy, .inr (9, [.int (nI N), .int (nI B), .int (nI D), .ref a1, .ref a2, .ref a3, .ref a4, .ref a5, .ref a6])), (a1, .inl (G 0, 10, .inl f1)), (a2, .inl (G 0, 10, .inl f2)), (a3, .inl (G 0, 10, .inl f3)), (a4, .inl (G 0, 6, .inl f4)), (a5, .inl (G 0, 6, .inl f5)), (a6, .inl (G 0, 6, .inl f6))] sz)) 0 0 (va_A [(h0, .inr (1, [.int x1, .int x2, .int x3])), (wy, .inr (9, [.int (nI N), .int (nI B), .int (nI D), .ref a1, .ref a2, .ref a3, .ref a4, .ref a5, .ref a6])), (a1, .inl (G 0, 10, .inl f1)), (a2, .inl (G 0, 10, .inl f2)), (a3, .inl (G 0, 10, .inl f3)), (a4, .inl (G 0, 6, .inl f4)), (a5, .inl (G 0, 6, .inl f5)), (a6, .inl (G 0, 6, .inl f6))] sz) := by
  refine Met.ofW (cc := cX1_cross) (maxL := 5) (ret := none) (by decide) rfl ?_
  intro p e s m args below meth c s₁ Bd hml hv
  obtain ⟨rfl, hsz, hP, hK, hD0⟩ := hv
  have hx := Bd.exec
  have hb := Bd.bytes
  have hr := Bd.returns
  have hg : ∀ w ∈ GT, w.before ([.ref h0, .ref wy, .int sd] : List Value).toArray s = true := fun w h => atoms_spec (ws := Cond.code yX1_cross cX1_cross 5 none :: GT) Bd.pre w (List.mem_cons_of_mem _ h)
  have hown : s.vm.findClass RX1 = some m.cls := findClass_of_methodNamed Bd.named
  have hlocks := Bd.notSynchronized
  subst hsz
  have hD := hD0.self (sz := s.heap.size)
  generalize hAe : va_A [(h0, .inr (1, [.int x1, .int x2, .int x3])), (wy, .inr (9, [.int (nI N), .int (nI B), .int (nI D), .ref a1, .ref a2, .ref a3, .ref a4, .ref a5, .ref a6])), (a1, .inl (G 0, 10, .inl f1)), (a2, .inl (G 0, 10, .inl f2)), (a3, .inl (G 0, 10, .inl f3)), (a4, .inl (G 0, 6, .inl f4)), (a5, .inl (G 0, 6, .inl f5)), (a6, .inl (G 0, 6, .inl f6))] s.heap.size = A at hD ⊢
  have hA : ∀ q : Nat, s.heap.size ≤ q → A q := fun q h => by rw [← hAe]; exact Or.inr h
  have hS : va_S A s.heap s.heap [] := va_S.rf
  have hl := lv_entry ([.ref h0, .ref wy, .int sd]) (n := 5) (Nat.le_of_ble_eq_true rfl)
  rw [lg_entry_eq]
  generalize (lg_sl ([.ref h0, .ref wy, .int sd]) ++ List.replicate (5 - (lg_sl ([.ref h0, .ref wy, .int sd])).length) Slot.unset).toArray = ls at hl ⊢
  have hl : lv_has ls 5 [(0, .ref h0), (1, .ref wy), (2, .int sd)] := hl
  refine lv_aload_n hx hb dX1_cross_0 rfl (lv_at hl 0 rfl) ?_
  refine lv_aload_n hx hb dX1_cross_1 rfl (lv_at hl 1 rfl) ?_
  refine va_getN (D := (dC, dI)) (ci := 9) (v := .int (nI D)) (C := RX9) (T := TX9) (N := 9) hx hb hg inG9 hown hK.1 hP 1 rfl rfl 2 (by decide) (hK.nest wn_68) (fun _ h9 => h9) rfl dX1_cross_2 ?_
  refine va_put (D := (dC, dI)) (ci := 1) (v := .int (nI D)) (ty := .int) (C := RX1) (T := TX1) (N := 3) hx hb hg inG1 tyX1 tyX1_ok nmX1 hown hK.1 hP hD hS 0 rfl rfl 0 (by decide) (hg _ wt_198) (fun _ h9 => h9) rfl (by decide +kernel) rfl rfl (Nat.le_of_ble_eq_true rfl) dX1_cross_5 (fun H locs hP hD hS => ?_)
  have hP : va_P (dC, dI) vwCl [(h0, .inr (1, [.int (nI D), .int x2, .int x3])), (wy, .inr (9, [.int (nI N), .int (nI B), .int (nI D), .ref a1, .ref a2, .ref a3, .ref a4, .ref a5, .ref a6])), (a1, .inl (G 0, 10, .inl f1)), (a2, .inl (G 0, 10, .inl f2)), (a3, .inl (G 0, 10, .inl f3)), (a4, .inl (G 0, 6, .inl f4)), (a5, .inl (G 0, 6, .inl f5)), (a6, .inl (G 0, 6, .inl f6))] H := hP
  have hD : va_D A [(h0, .inr (1, [.int (nI D), .int x2, .int x3])), (wy, .inr (9, [.int (nI N), .int (nI B), .int (nI D), .ref a1, .ref a2, .ref a3, .ref a4, .ref a5, .ref a6])), (a1, .inl (G 0, 10, .inl f1)), (a2, .inl (G 0, 10, .inl f2)), (a3, .inl (G 0, 10, .inl f3)), (a4, .inl (G 0, 6, .inl f4)), (a5, .inl (G 0, 6, .inl f5)), (a6, .inl (G 0, 6, .inl f6))] := hD
  refine lv_aload_n hx hb dX1_cross_8 rfl (lv_at hl 0 rfl) ?_
  refine lv_iconst (v := 0) hx hb dX1_cross_9 (by decide) ?_
  refine va_put (D := (dC, dI)) (ci := 1) (v := .int 0) (ty := .int) (C := RX1) (T := TX1) (N := 3) hx hb hg inG1 tyX1 tyX1_ok nmX1 hown hK.1 hP hD hS 0 rfl rfl 1 (by decide) (hg _ wt_200) (fun _ h9 => h9) rfl (by decide +kernel) rfl rfl (Nat.le_of_ble_eq_true rfl) dX1_cross_10 (fun H locs hP hD hS => ?_)
  have hP : va_P (dC, dI) vwCl [(h0, .inr (1, [.int (nI D), .int 0, .int x3])), (wy, .inr (9, [.int (nI N), .int (nI B), .int (nI D), .ref a1, .ref a2, .ref a3, .ref a4, .ref a5, .ref a6])), (a1, .inl (G 0, 10, .inl f1)), (a2, .inl (G 0, 10, .inl f2)), (a3, .inl (G 0, 10, .inl f3)), (a4, .inl (G 0, 6, .inl f4)), (a5, .inl (G 0, 6, .inl f5)), (a6, .inl (G 0, 6, .inl f6))] H := hP
  have hD : va_D A [(h0, .inr (1, [.int (nI D), .int 0, .int x3])), (wy, .inr (9, [.int (nI N), .int (nI B), .int (nI D), .ref a1, .ref a2, .ref a3, .ref a4, .ref a5, .ref a6])), (a1, .inl (G 0, 10, .inl f1)), (a2, .inl (G 0, 10, .inl f2)), (a3, .inl (G 0, 10, .inl f3)), (a4, .inl (G 0, 6, .inl f4)), (a5, .inl (G 0, 6, .inl f5)), (a6, .inl (G 0, 6, .inl f6))] := hD
  refine lv_aload_n hx hb dX1_cross_13 rfl (lv_at hl 0 rfl) ?_
  refine lv_bipush (v := (-4)) hx hb dX1_cross_14 (by decide) ?_
  refine va_put (D := (dC, dI)) (ci := 1) (v := .int (-4)) (ty := .int) (C := RX1) (T := TX1) (N := 3) hx hb hg inG1 tyX1 tyX1_ok nmX1 hown hK.1 hP hD hS 0 rfl rfl 2 (by decide) (hg _ wt_202) (fun _ h9 => h9) rfl (by decide +kernel) rfl rfl (Nat.le_of_ble_eq_true rfl) dX1_cross_16 (fun H locs hP hD hS => ?_)
  have hP : va_P (dC, dI) vwCl [(h0, .inr (1, [.int (nI D), .int 0, .int (-4)])), (wy, .inr (9, [.int (nI N), .int (nI B), .int (nI D), .ref a1, .ref a2, .ref a3, .ref a4, .ref a5, .ref a6])), (a1, .inl (G 0, 10, .inl f1)), (a2, .inl (G 0, 10, .inl f2)), (a3, .inl (G 0, 10, .inl f3)), (a4, .inl (G 0, 6, .inl f4)), (a5, .inl (G 0, 6, .inl f5)), (a6, .inl (G 0, 6, .inl f6))] H := hP
  have hD : va_D A [(h0, .inr (1, [.int (nI D), .int 0, .int (-4)])), (wy, .inr (9, [.int (nI N), .int (nI B), .int (nI D), .ref a1, .ref a2, .ref a3, .ref a4, .ref a5, .ref a6])), (a1, .inl (G 0, 10, .inl f1)), (a2, .inl (G 0, 10, .inl f2)), (a3, .inl (G 0, 10, .inl f3)), (a4, .inl (G 0, 6, .inl f4)), (a5, .inl (G 0, 6, .inl f5)), (a6, .inl (G 0, 6, .inl f6))] := hD
  refine lv_iload_n hx hb dX1_cross_19 rfl (lv_at hl 2 rfl) ?_
  refine lv_istore_n (lv' := [(3, .int sd), (0, .ref h0), (1, .ref wy), (2, .int sd)]) hx hb dX1_cross_20 rfl hl (by decide) rfl (fun ls hl => ?_)
  refine lv_iconst (v := 0) hx hb dX1_cross_21 (by decide) ?_
  refine lv_istore (lv' := [(4, .int 0), (3, .int sd), (0, .ref h0), (1, .ref wy), (2, .int sd)]) hx hb dX1_cross_22 hl (by decide) rfl (fun ls hl => ?_)
  have loop24_6 : ∀ (nf j1 : Nat), N + 1 ≤ j1 + nf → j1 ≤ N → ∀ (y2 : Int32) (y3 : Int32) (y4 : Int32) (y5 : Int32) (H : Heap) (locs : List Loc), va_P (dC, dI) vwCl [(h0, .inr (1, [.int y3, .int y4, .int y5])), (wy, .inr (9, [.int (nI N), .int (nI B), .int (nI D), .ref a1, .ref a2, .ref a3, .ref a4, .ref a5, .ref a6])), (a1, .inl (G 0, 10, .inl f1)), (a2, .inl (G 0, 10, .inl f2)), (a3, .inl (G 0, 10, .inl f3)), (a4, .inl (G 0, 6, .inl f4)), (a5, .inl (G 0, 6, .inl f5)), (a6, .inl (G 0, 6, .inl f6))] H → va_D A [(h0, .inr (1, [.int y3, .int y4, .int y5])), (wy, .inr (9, [.int (nI N), .int (nI B), .int (nI D), .ref a1, .ref a2, .ref a3, .ref a4, .ref a5, .ref a6])), (a1, .inl (G 0, 10, .inl f1)), (a2, .inl (G 0, 10, .inl f2)), (a3, .inl (G 0, 10, .inl f3)), (a4, .inl (G 0, 6, .inl f4)), (a5, .inl (G 0, 6, .inl f5)), (a6, .inl (G 0, 6, .inl f6))] → va_S A s.heap H locs → ∀ (ls : Array Slot), lv_has ls 5 [(4, .int (nI j1)), (3, .int y2), (0, .ref h0), (1, .ref wy), (2, .int sd)] → W p l e (headSpec (Cond.code yX1_cross cX1_cross 5 none :: GT) ({ frames := 4, cells := 0, slots := 0, locals := 88 } : Room)).room s m ([.ref h0, .ref wy, .int sd] : List Value).toArray below meth c H locs 0 0 (MQ below (va_Qv (fun (u : Int32 × Int32 × Int32) => match u with | (u0, u1, u2) => True) (fun (u : Int32 × Int32 × Int32) (t : State) => match u with | (u0, u1, u2) => va_P (dC, dI) vwCl [(h0, .inr (1, [.int u0, .int u1, .int u2])), (wy, .inr (9, [.int (nI N), .int (nI B), .int (nI D), .ref a1, .ref a2, .ref a3, .ref a4, .ref a5, .ref a6])), (a1, .inl (G 0, 10, .inl f1)), (a2, .inl (G 0, 10, .inl f2)), (a3, .inl (G 0, 10, .inl f3)), (a4, .inl (G 0, 6, .inl f4)), (a5, .inl (G 0, 6, .inl f5)), (a6, .inl (G 0, 6, .inl f6))] t.heap ∧ va_D A [(h0, .inr (1, [.int u0, .int u1, .int u2])), (wy, .inr (9, [.int (nI N), .int (nI B), .int (nI D), .ref a1, .ref a2, .ref a3, .ref a4, .ref a5, .ref a6])), (a1, .inl (G 0, 10, .inl f1)), (a2, .inl (G 0, 10, .inl f2)), (a3, .inl (G 0, 10, .inl f3)), (a4, .inl (G 0, 6, .inl f4)), (a5, .inl (G 0, 6, .inl f5)), (a6, .inl (G 0, 6, .inl f6))]) A) ([.ref h0, .ref wy, .int sd] : List Value).toArray s 0 0 A) (F0 m 24 ls []) := by
    intro nf
    induction nf with
    | zero => intro j1 h1 h2; exact absurd h1 (by omega)
    | succ nf ih24_6 =>
      intro j1 hn7 hj8 y2 y3 y4 y5 H locs hP hD hS ls hl
      refine lv_iload hx hb dX1_cross_24 (lv_at hl 0 rfl) ?_
      refine lv_aload_n hx hb dX1_cross_26 rfl (lv_at hl 3 rfl) ?_
      refine va_getN (D := (dC, dI)) (ci := 9) (v := .int (nI N)) (C := RX9) (T := TX9) (N := 9) hx hb hg inG9 hown hK.1 hP 1 rfl rfl 0 (by decide) (hK.nest wn_57) (fun _ h9 => h9) rfl dX1_cross_27 ?_
      have cut126_9 : ∀ (H : Heap) (locs : List Loc), va_P (dC, dI) vwCl [(h0, .inr (1, [.int y3, .int y4, .int y5])), (wy, .inr (9, [.int (nI N), .int (nI B), .int (nI D), .ref a1, .ref a2, .ref a3, .ref a4, .ref a5, .ref a6])), (a1, .inl (G 0, 10, .inl f1)), (a2, .inl (G 0, 10, .inl f2)), (a3, .inl (G 0, 10, .inl f3)), (a4, .inl (G 0, 6, .inl f4)), (a5, .inl (G 0, 6, .inl f5)), (a6, .inl (G 0, 6, .inl f6))] H → va_D A [(h0, .inr (1, [.int y3, .int y4, .int y5])), (wy, .inr (9, [.int (nI N), .int (nI B), .int (nI D), .ref a1, .ref a2, .ref a3, .ref a4, .ref a5, .ref a6])), (a1, .inl (G 0, 10, .inl f1)), (a2, .inl (G 0, 10, .inl f2)), (a3, .inl (G 0, 10, .inl f3)), (a4, .inl (G 0, 6, .inl f4)), (a5, .inl (G 0, 6, .inl f5)), (a6, .inl (G 0, 6, .inl f6))] → va_S A s.heap H locs → ∀ (ls : Array Slot), lv_has ls 5 [(4, .int (nI j1)), (3, .int y2), (0, .ref h0), (1, .ref wy), (2, .int sd)] → W p l e (headSpec (Cond.code yX1_cross cX1_cross 5 none :: GT) ({ frames := 4, cells := 0, slots := 0, locals := 88 } : Room)).room s m ([.ref h0, .ref wy, .int sd] : List Value).toArray below meth c H locs 0 0 (MQ below (va_Qv (fun (u : Int32 × Int32 × Int32) => match u with | (u0, u1, u2) => True) (fun (u : Int32 × Int32 × Int32) (t : State) => match u with | (u0, u1, u2) => va_P (dC, dI) vwCl [(h0, .inr (1, [.int u0, .int u1, .int u2])), (wy, .inr (9, [.int (nI N), .int (nI B), .int (nI D), .ref a1, .ref a2, .ref a3, .ref a4, .ref a5, .ref a6])), (a1, .inl (G 0, 10, .inl f1)), (a2, .inl (G 0, 10, .inl f2)), (a3, .inl (G 0, 10, .inl f3)), (a4, .inl (G 0, 6, .inl f4)), (a5, .inl (G 0, 6, .inl f5)), (a6, .inl (G 0, 6, .inl f6))] t.heap ∧ va_D A [(h0, .inr (1, [.int u0, .int u1, .int u2])), (wy, .inr (9, [.int (nI N), .int (nI B), .int (nI D), .ref a1, .ref a2, .ref a3, .ref a4, .ref a5, .ref a6])), (a1, .inl (G 0, 10, .inl f1)), (a2, .inl (G 0, 10, .inl f2)), (a3, .inl (G 0, 10, .inl f3)), (a4, .inl (G 0, 6, .inl f4)), (a5, .inl (G 0, 6, .inl f5)), (a6, .inl (G 0, 6, .inl f6))]) A) ([.ref h0, .ref wy, .int sd] : List Value).toArray s 0 0 A) (F0 m 126 ls []) := by
        intro  H locs hP hD hS ls hl
        have hP9 := hP.sub (ws' := [(h0, .inr (1, [.int y3, .int y4, .int y5])), (wy, .inr (9, [.int (nI N), .int (nI B), .int (nI D), .ref a1, .ref a2, .ref a3, .ref a4, .ref a5, .ref a6])), (a1, .inl (G 0, 10, .inl f1)), (a2, .inl (G 0, 10, .inl f2)), (a3, .inl (G 0, 10, .inl f3)), (a4, .inl (G 0, 6, .inl f4)), (a5, .inl (G 0, 6, .inl f5)), (a6, .inl (G 0, 6, .inl f6))]) [0, 1, 2, 3, 4, 5, 6, 7] rfl
        have hD9 := hD.sub (ws' := [(h0, .inr (1, [.int y3, .int y4, .int y5])), (wy, .inr (9, [.int (nI N), .int (nI B), .int (nI D), .ref a1, .ref a2, .ref a3, .ref a4, .ref a5, .ref a6])), (a1, .inl (G 0, 10, .inl f1)), (a2, .inl (G 0, 10, .inl f2)), (a3, .inl (G 0, 10, .inl f3)), (a4, .inl (G 0, 6, .inl f4)), (a5, .inl (G 0, 6, .inl f5)), (a6, .inl (G 0, 6, .inl f6))]) [0, 1, 2, 3, 4, 5, 6, 7] (by decide) rfl
        refine W.widen (k := 0) (n := 0) (by omega) (by omega) ?_
        exact W.vret hx hb hr (fun t ht hW => ⟨⟨(y3, y4, y5), rfl, trivial, ⟨by rw [ht]; exact hP9, hD9⟩⟩, hS.F ht⟩) hS.2.2 dX1_cross_126
      refine lv_icmp_ge (tgt := 126) hx hb dX1_cross_30 (by decide) (fun c10 => ?_) (fun c10 => ?_)
      · skip
        have n11 : N ≤ j1 := by have t := leI c10; rw [nI_toInt (n := j1) (by omega)] at t; rw [nI_toInt (n := N) (by omega)] at t; omega
        exact cut126_9  _ _ hP hD hS ls (lv_sub hl [0, 1, 2, 3, 4] rfl)
      · skip
        have n12 : j1 < N := by have t := nleI c10; rw [nI_toInt (n := j1) (by omega)] at t; rw [nI_toInt (n := N) (by omega)] at t; omega
        refine lv_aload_n hx hb dX1_cross_33 rfl (lv_at hl 2 rfl) ?_
        refine va_get (D := (dC, dI)) (ci := 1) (v := .int y3) (C := RX1) (T := TX1) (N := 3) hx hb hg inG1 hown hK.1 hP 0 rfl rfl 0 (by decide) (hg _ wt_198) (fun _ h9 => h9) rfl dX1_cross_34 ?_
        refine lv_if_le (tgt := 126) hx hb dX1_cross_37 (by decide) (fun c13 => ?_) (fun c13 => ?_)
        · skip
          exact cut126_9  _ _ hP hD hS ls (lv_sub hl [0, 1, 2, 3, 4] rfl)
        · skip
          refine lv_iload_n hx hb dX1_cross_40 rfl (lv_at hl 1 rfl) ?_
          refine lv_ldc (v := 1103515245) hx hb hown (hg _ wt_727) dX1_cross_41 ?_
          refine lv_imul hx hb dX1_cross_43 ?_
          refine lv_sipush (v := 12345) hx hb dX1_cross_44 (by decide) ?_
          refine lv_iadd hx hb dX1_cross_47 ?_
          refine lv_istore_n (lv' := [(3, .int ((y2 * 1103515245) + 12345)), (4, .int (nI j1)), (0, .ref h0), (1, .ref wy), (2, .int sd)]) hx hb dX1_cross_48 rfl hl (by decide) rfl (fun ls hl => ?_)
          refine lv_iload_n hx hb dX1_cross_49 rfl (lv_at hl 0 rfl) ?_
          refine lv_bipush (v := 16) hx hb dX1_cross_50 (by decide) ?_
          refine lv_ishr hx hb dX1_cross_52 ?_
          refine lv_sipush (v := 32767) hx hb dX1_cross_53 (by decide) ?_
          refine lv_iand hx hb dX1_cross_56 ?_
          refine lv_bipush (v := 20) hx hb dX1_cross_57 (by decide) ?_
          refine lv_irem hx hb dX1_cross_59 (by decide) ?_
          refine lv_aload_n hx hb dX1_cross_60 rfl (lv_at hl 3 rfl) ?_
          refine lv_iload hx hb dX1_cross_61 (lv_at hl 1 rfl) ?_
          have hPc := hP.sub (ws' := [(wy, .inr (9, [.int (nI N), .int (nI B), .int (nI D), .ref a1, .ref a2, .ref a3, .ref a4, .ref a5, .ref a6])), (a1, .inl (G 0, 10, .inl f1)), (a2, .inl (G 0, 10, .inl f2)), (a3, .inl (G 0, 10, .inl f3)), (a4, .inl (G 0, 6, .inl f4)), (a5, .inl (G 0, 6, .inl f5)), (a6, .inl (G 0, 6, .inl f6))]) [1, 2, 3, 4, 5, 6, 7] rfl
          refine va_calli (va_runVN (As := [.int (nI j1)]) (rest := [.int (((((y2 * 1103515245) + 12345) >>> 16) &&& 32767) - ((((y2 * 1103515245) + 12345) >>> 16) &&& 32767) / 20 * 20)]) ⟨hx, hb, hml, hown, hg⟩ (c_X9_harmInOrder l dC dI G _ wy a1 a2 a3 a4 a5 a6 N B D (nI j1) f1 f2 f3 f4 f5 f6 (by have t_hj8 := hj8; have t_n12 := n12; have t_c13 := nleI c13; have : (0 : Int32).toInt = 0 := (by decide); have t_n0 : (nI N).toInt = (N : Int) := nI_toInt (by omega); have t_n1 : (nI B).toInt = (B : Int) := nI_toInt (by omega); have t_n2 : (nI D).toInt = (D : Int) := nI_toInt (by omega); have t_n3 : (nI j1).toInt = (j1 : Int) := nI_toInt (by omega); have t_n0 : (nI N).toInt = (N : Int) := nI_toInt (by omega); have t_n1 : (nI B).toInt = (B : Int) := nI_toInt (by omega); have t_n2 : (nI D).toInt = (D : Int) := nI_toInt (by omega); have t_n3 : (nI j1).toInt = (j1 : Int) := nI_toInt (by omega); omega) (by have t_hj8 := hj8; have t_n12 := n12; have t_c13 := nleI c13; have : (0 : Int32).toInt = 0 := (by decide); have t_n0 : (nI N).toInt = (N : Int) := nI_toInt (by omega); have t_n1 : (nI B).toInt = (B : Int) := nI_toInt (by omega); have t_n2 : (nI D).toInt = (D : Int) := nI_toInt (by omega); have t_n3 : (nI j1).toInt = (j1 : Int) := nI_toInt (by omega); have t_n0 : (nI N).toInt = (N : Int) := nI_toInt (by omega); have t_n1 : (nI B).toInt = (B : Int) := nI_toInt (by omega); have t_n2 : (nI D).toInt = (D : Int) := nI_toInt (by omega); have t_n3 : (nI j1).toInt = (j1 : Int) := nI_toInt (by omega); omega) (by have t_hj8 := hj8; have t_n12 := n12; have t_c13 := nleI c13; have : (0 : Int32).toInt = 0 := (by decide); have t_n0 : (nI N).toInt = (N : Int) := nI_toInt (by omega); have t_n1 : (nI B).toInt = (B : Int) := nI_toInt (by omega); have t_n2 : (nI D).toInt = (D : Int) := nI_toInt (by omega); have t_n3 : (nI j1).toInt = (j1 : Int) := nI_toInt (by omega); have t_n0 : (nI N).toInt = (N : Int) := nI_toInt (by omega); have t_n1 : (nI B).toInt = (B : Int) := nI_toInt (by omega); have t_n2 : (nI D).toInt = (D : Int) := nI_toInt (by omega); have t_n3 : (nI j1).toInt = (j1 : Int) := nI_toInt (by omega); omega)) (kwVN hg hK mfX9_harmInOrder wn_728 ⟨Nat.le_of_ble_eq_true rfl, Nat.le_of_ble_eq_true rfl⟩) (preVR hK hPc (ci := 9) rfl rfl) rfl rfl hl.1 rfl (lv_room (Nat.le_of_ble_eq_true rfl)) dX1_cross_63 ⟨Nat.le_of_ble_eq_true rfl, Nat.le_of_ble_eq_true rfl⟩) hS (fun q h1 h2 => absurd h2 (Nat.not_le.mpr h1)) (fun q h => hA q (Nat.le_trans hS.1 h)) (fun r14 ur14 t H1 locs ht hvm w15 hB hz1 hk1 hS => ?_)
          have hP := keepR hP hk1
          obtain ⟨w15, w15x⟩ := w15
          subst w15
          have cut107_18 : ∀ (y16 : Int32) (y17 : Int32) (H : Heap) (locs : List Loc), va_P (dC, dI) vwCl [(h0, .inr (1, [.int y16, .int y17, .int y5])), (wy, .inr (9, [.int (nI N), .int (nI B), .int (nI D), .ref a1, .ref a2, .ref a3, .ref a4, .ref a5, .ref a6])), (a1, .inl (G 0, 10, .inl f1)), (a2, .inl (G 0, 10, .inl f2)), (a3, .inl (G 0, 10, .inl f3)), (a4, .inl (G 0, 6, .inl f4)), (a5, .inl (G 0, 6, .inl f5)), (a6, .inl (G 0, 6, .inl f6))] H → va_D A [(h0, .inr (1, [.int y16, .int y17, .int y5])), (wy, .inr (9, [.int (nI N), .int (nI B), .int (nI D), .ref a1, .ref a2, .ref a3, .ref a4, .ref a5, .ref a6])), (a1, .inl (G 0, 10, .inl f1)), (a2, .inl (G 0, 10, .inl f2)), (a3, .inl (G 0, 10, .inl f3)), (a4, .inl (G 0, 6, .inl f4)), (a5, .inl (G 0, 6, .inl f5)), (a6, .inl (G 0, 6, .inl f6))] → va_S A s.heap H locs → ∀ (ls : Array Slot), lv_has ls 5 [(3, .int ((y2 * 1103515245) + 12345)), (4, .int (nI j1)), (0, .ref h0), (1, .ref wy), (2, .int sd)] → W p l e (headSpec (Cond.code yX1_cross cX1_cross 5 none :: GT) ({ frames := 4, cells := 0, slots := 0, locals := 88 } : Room)).room s m ([.ref h0, .ref wy, .int sd] : List Value).toArray below meth c H locs 0 0 (MQ below (va_Qv (fun (u : Int32 × Int32 × Int32) => match u with | (u0, u1, u2) => True) (fun (u : Int32 × Int32 × Int32) (t : State) => match u with | (u0, u1, u2) => va_P (dC, dI) vwCl [(h0, .inr (1, [.int u0, .int u1, .int u2])), (wy, .inr (9, [.int (nI N), .int (nI B), .int (nI D), .ref a1, .ref a2, .ref a3, .ref a4, .ref a5, .ref a6])), (a1, .inl (G 0, 10, .inl f1)), (a2, .inl (G 0, 10, .inl f2)), (a3, .inl (G 0, 10, .inl f3)), (a4, .inl (G 0, 6, .inl f4)), (a5, .inl (G 0, 6, .inl f5)), (a6, .inl (G 0, 6, .inl f6))] t.heap ∧ va_D A [(h0, .inr (1, [.int u0, .int u1, .int u2])), (wy, .inr (9, [.int (nI N), .int (nI B), .int (nI D), .ref a1, .ref a2, .ref a3, .ref a4, .ref a5, .ref a6])), (a1, .inl (G 0, 10, .inl f1)), (a2, .inl (G 0, 10, .inl f2)), (a3, .inl (G 0, 10, .inl f3)), (a4, .inl (G 0, 6, .inl f4)), (a5, .inl (G 0, 6, .inl f5)), (a6, .inl (G 0, 6, .inl f6))]) A) ([.ref h0, .ref wy, .int sd] : List Value).toArray s 0 0 A) (F0 m 107 ls []) := by
            intro y16 y17 H locs hP hD hS ls hl
            refine lv_aload_n hx hb dX1_cross_107 rfl (lv_at hl 2 rfl) ?_
            refine va_get (D := (dC, dI)) (ci := 1) (v := .int y16) (C := RX1) (T := TX1) (N := 3) hx hb hg inG1 hown hK.1 hP 0 rfl rfl 0 (by decide) (hg _ wt_198) (fun _ h9 => h9) rfl dX1_cross_108 ?_
            have cut120_20 : ∀ (y19 : Int32) (H : Heap) (locs : List Loc), va_P (dC, dI) vwCl [(h0, .inr (1, [.int y16, .int y17, .int y19])), (wy, .inr (9, [.int (nI N), .int (nI B), .int (nI D), .ref a1, .ref a2, .ref a3, .ref a4, .ref a5, .ref a6])), (a1, .inl (G 0, 10, .inl f1)), (a2, .inl (G 0, 10, .inl f2)), (a3, .inl (G 0, 10, .inl f3)), (a4, .inl (G 0, 6, .inl f4)), (a5, .inl (G 0, 6, .inl f5)), (a6, .inl (G 0, 6, .inl f6))] H → va_D A [(h0, .inr (1, [.int y16, .int y17, .int y19])), (wy, .inr (9, [.int (nI N), .int (nI B), .int (nI D), .ref a1, .ref a2, .ref a3, .ref a4, .ref a5, .ref a6])), (a1, .inl (G 0, 10, .inl f1)), (a2, .inl (G 0, 10, .inl f2)), (a3, .inl (G 0, 10, .inl f3)), (a4, .inl (G 0, 6, .inl f4)), (a5, .inl (G 0, 6, .inl f5)), (a6, .inl (G 0, 6, .inl f6))] → va_S A s.heap H locs → ∀ (ls : Array Slot), lv_has ls 5 [(3, .int ((y2 * 1103515245) + 12345)), (4, .int (nI j1)), (0, .ref h0), (1, .ref wy), (2, .int sd)] → W p l e (headSpec (Cond.code yX1_cross cX1_cross 5 none :: GT) ({ frames := 4, cells := 0, slots := 0, locals := 88 } : Room)).room s m ([.ref h0, .ref wy, .int sd] : List Value).toArray below meth c H locs 0 0 (MQ below (va_Qv (fun (u : Int32 × Int32 × Int32) => match u with | (u0, u1, u2) => True) (fun (u : Int32 × Int32 × Int32) (t : State) => match u with | (u0, u1, u2) => va_P (dC, dI) vwCl [(h0, .inr (1, [.int u0, .int u1, .int u2])), (wy, .inr (9, [.int (nI N), .int (nI B), .int (nI D), .ref a1, .ref a2, .ref a3, .ref a4, .ref a5, .ref a6])), (a1, .inl (G 0, 10, .inl f1)), (a2, .inl (G 0, 10, .inl f2)), (a3, .inl (G 0, 10, .inl f3)), (a4, .inl (G 0, 6, .inl f4)), (a5, .inl (G 0, 6, .inl f5)), (a6, .inl (G 0, 6, .inl f6))] t.heap ∧ va_D A [(h0, .inr (1, [.int u0, .int u1, .int u2])), (wy, .inr (9, [.int (nI N), .int (nI B), .int (nI D), .ref a1, .ref a2, .ref a3, .ref a4, .ref a5, .ref a6])), (a1, .inl (G 0, 10, .inl f1)), (a2, .inl (G 0, 10, .inl f2)), (a3, .inl (G 0, 10, .inl f3)), (a4, .inl (G 0, 6, .inl f4)), (a5, .inl (G 0, 6, .inl f5)), (a6, .inl (G 0, 6, .inl f6))]) A) ([.ref h0, .ref wy, .int sd] : List Value).toArray s 0 0 A) (F0 m 120 ls []) := by
              intro y19 H locs hP hD hS ls hl
              refine lv_iinc (v := nI (j1 + 1)) (lv' := [(4, .int (nI (j1 + 1))), (3, .int ((y2 * 1103515245) + 12345)), (0, .ref h0), (1, .ref wy), (2, .int sd)]) hx hb dX1_cross_120 hl (k := 1) rfl (by rw [show Int32.ofInt 1 = nI 1 from by decide]; exact nI_add _ _) (by decide) rfl (fun ls hl => ?_)
              refine lv_goto (tgt := 24) hx hb dX1_cross_123 (by decide) ?_
              exact ih24_6 (j1 + 1) (by omega) (by omega) ((y2 * 1103515245) + 12345) y16 y17 y19 _ _ hP hD hS ls (lv_sub hl [0, 1, 2, 3, 4] rfl)
            refine lv_if_ne (tgt := 120) hx hb dX1_cross_111 (by decide) (fun c21 => ?_) (fun c21 => ?_)
            · skip
              exact cut120_20 y5 _ _ hP hD hS ls (lv_sub hl [0, 1, 2, 3, 4] rfl)
            · skip
              refine lv_aload_n hx hb dX1_cross_114 rfl (lv_at hl 2 rfl) ?_
              refine lv_iload hx hb dX1_cross_115 (lv_at hl 1 rfl) ?_
              refine va_put (D := (dC, dI)) (ci := 1) (v := .int (nI j1)) (ty := .int) (C := RX1) (T := TX1) (N := 3) hx hb hg inG1 tyX1 tyX1_ok nmX1 hown hK.1 hP hD hS 0 rfl rfl 2 (by decide) (hg _ wt_202) (fun _ h9 => h9) rfl (by decide +kernel) rfl rfl (Nat.le_of_ble_eq_true rfl) dX1_cross_117 (fun H locs hP hD hS => ?_)
              have hP : va_P (dC, dI) vwCl [(h0, .inr (1, [.int y16, .int y17, .int (nI j1)])), (wy, .inr (9, [.int (nI N), .int (nI B), .int (nI D), .ref a1, .ref a2, .ref a3, .ref a4, .ref a5, .ref a6])), (a1, .inl (G 0, 10, .inl f1)), (a2, .inl (G 0, 10, .inl f2)), (a3, .inl (G 0, 10, .inl f3)), (a4, .inl (G 0, 6, .inl f4)), (a5, .inl (G 0, 6, .inl f5)), (a6, .inl (G 0, 6, .inl f6))] H := hP
              have hD : va_D A [(h0, .inr (1, [.int y16, .int y17, .int (nI j1)])), (wy, .inr (9, [.int (nI N), .int (nI B), .int (nI D), .ref a1, .ref a2, .ref a3, .ref a4, .ref a5, .ref a6])), (a1, .inl (G 0, 10, .inl f1)), (a2, .inl (G 0, 10, .inl f2)), (a3, .inl (G 0, 10, .inl f3)), (a4, .inl (G 0, 6, .inl f4)), (a5, .inl (G 0, 6, .inl f5)), (a6, .inl (G 0, 6, .inl f6))] := hD
              exact cut120_20 (nI j1) _ _ hP hD hS ls (lv_sub hl [0, 1, 2, 3, 4] rfl)
          refine lv_icmp_ge (tgt := 92) hx hb dX1_cross_66 (by decide) (fun c22 => ?_) (fun c22 => ?_)
          · skip
            refine lv_aload_n hx hb dX1_cross_92 rfl (lv_at hl 2 rfl) ?_
            refine lv_bipush (v := 9) hx hb dX1_cross_93 (by decide) ?_
            refine lv_aload_n hx hb dX1_cross_95 rfl (lv_at hl 2 rfl) ?_
            refine va_get (D := (dC, dI)) (ci := 1) (v := .int y3) (C := RX1) (T := TX1) (N := 3) hx hb hg inG1 hown hK.1 hP 0 rfl rfl 0 (by decide) (hg _ wt_198) (fun _ h9 => h9) rfl dX1_cross_96 ?_
            refine lv_iconst (v := 1) hx hb dX1_cross_99 (by decide) ?_
            refine lv_iadd hx hb dX1_cross_100 ?_
            have hPc := hP.sub (ws' := []) [] rfl
            refine va_calli (va_runS (As := [.int 9, .int (y3 + 1)]) (rest := [.ref h0]) ⟨hx, hb, hml, hown, hg⟩ (c_J9_min l dC dI G _ 9 (y3 + 1) ) (kwS hg mfJ9_min_7cf53 wt_729 ⟨Nat.le_of_ble_eq_true rfl, Nat.le_of_ble_eq_true rfl⟩) (preSR hK hPc) rfl rfl hl.1 rfl (lv_room (Nat.le_of_ble_eq_true rfl)) dX1_cross_101 ⟨Nat.le_of_ble_eq_true rfl, Nat.le_of_ble_eq_true rfl⟩) hS (fun q h1 h2 => absurd h2 (Nat.not_le.mpr h1)) (fun q h => hA q (Nat.le_trans hS.1 h)) (fun r23 ur23 t H1 locs ht hvm w24 hB hz1 hk1 hS => ?_)
            have hP := keepR hP hk1
            obtain ⟨w24, w24x⟩ := w24
            subst w24
            refine va_put (D := (dC, dI)) (ci := 1) (v := .int (mn 9 (y3 + 1))) (ty := .int) (C := RX1) (T := TX1) (N := 3) hx hb hg inG1 tyX1 tyX1_ok nmX1 hown hK.1 hP hD hS 0 rfl rfl 0 (by decide) (hg _ wt_198) (fun _ h9 => h9) rfl (by decide +kernel) rfl rfl (Nat.le_of_ble_eq_true rfl) dX1_cross_104 (fun H locs hP hD hS => ?_)
            have hP : va_P (dC, dI) vwCl [(h0, .inr (1, [.int (mn 9 (y3 + 1)), .int y4, .int y5])), (wy, .inr (9, [.int (nI N), .int (nI B), .int (nI D), .ref a1, .ref a2, .ref a3, .ref a4, .ref a5, .ref a6])), (a1, .inl (G 0, 10, .inl f1)), (a2, .inl (G 0, 10, .inl f2)), (a3, .inl (G 0, 10, .inl f3)), (a4, .inl (G 0, 6, .inl f4)), (a5, .inl (G 0, 6, .inl f5)), (a6, .inl (G 0, 6, .inl f6))] H := hP
            have hD : va_D A [(h0, .inr (1, [.int (mn 9 (y3 + 1)), .int y4, .int y5])), (wy, .inr (9, [.int (nI N), .int (nI B), .int (nI D), .ref a1, .ref a2, .ref a3, .ref a4, .ref a5, .ref a6])), (a1, .inl (G 0, 10, .inl f1)), (a2, .inl (G 0, 10, .inl f2)), (a3, .inl (G 0, 10, .inl f3)), (a4, .inl (G 0, 6, .inl f4)), (a5, .inl (G 0, 6, .inl f5)), (a6, .inl (G 0, 6, .inl f6))] := hD
            exact cut107_18 (mn 9 (y3 + 1)) y4 _ _ hP hD hS ls (lv_sub hl [0, 1, 2, 3, 4] rfl)
          · skip
            refine lv_aload_n hx hb dX1_cross_69 rfl (lv_at hl 2 rfl) ?_
            refine lv_dup hx hb dX1_cross_70 rfl ?_
            refine va_get (D := (dC, dI)) (ci := 1) (v := .int y3) (C := RX1) (T := TX1) (N := 3) hx hb hg inG1 hown hK.1 hP 0 rfl rfl 0 (by decide) (hg _ wt_198) (fun _ h9 => h9) rfl dX1_cross_71 ?_
            refine lv_iconst (v := 1) hx hb dX1_cross_74 (by decide) ?_
            refine lv_isub hx hb dX1_cross_75 ?_
            refine va_put (D := (dC, dI)) (ci := 1) (v := .int (y3 - 1)) (ty := .int) (C := RX1) (T := TX1) (N := 3) hx hb hg inG1 tyX1 tyX1_ok nmX1 hown hK.1 hP hD hS 0 rfl rfl 0 (by decide) (hg _ wt_198) (fun _ h9 => h9) rfl (by decide +kernel) rfl rfl (Nat.le_of_ble_eq_true rfl) dX1_cross_76 (fun H locs hP hD hS => ?_)
            have hP : va_P (dC, dI) vwCl [(h0, .inr (1, [.int (y3 - 1), .int y4, .int y5])), (wy, .inr (9, [.int (nI N), .int (nI B), .int (nI D), .ref a1, .ref a2, .ref a3, .ref a4, .ref a5, .ref a6])), (a1, .inl (G 0, 10, .inl f1)), (a2, .inl (G 0, 10, .inl f2)), (a3, .inl (G 0, 10, .inl f3)), (a4, .inl (G 0, 6, .inl f4)), (a5, .inl (G 0, 6, .inl f5)), (a6, .inl (G 0, 6, .inl f6))] H := hP
            have hD : va_D A [(h0, .inr (1, [.int (y3 - 1), .int y4, .int y5])), (wy, .inr (9, [.int (nI N), .int (nI B), .int (nI D), .ref a1, .ref a2, .ref a3, .ref a4, .ref a5, .ref a6])), (a1, .inl (G 0, 10, .inl f1)), (a2, .inl (G 0, 10, .inl f2)), (a3, .inl (G 0, 10, .inl f3)), (a4, .inl (G 0, 6, .inl f4)), (a5, .inl (G 0, 6, .inl f5)), (a6, .inl (G 0, 6, .inl f6))] := hD
            refine lv_aload_n hx hb dX1_cross_79 rfl (lv_at hl 2 rfl) ?_
            refine lv_dup hx hb dX1_cross_80 rfl ?_
            refine va_get (D := (dC, dI)) (ci := 1) (v := .int y4) (C := RX1) (T := TX1) (N := 3) hx hb hg inG1 hown hK.1 hP 0 rfl rfl 1 (by decide) (hg _ wt_200) (fun _ h9 => h9) rfl dX1_cross_81 ?_
            refine lv_iconst (v := 1) hx hb dX1_cross_84 (by decide) ?_
            refine lv_iadd hx hb dX1_cross_85 ?_
            refine va_put (D := (dC, dI)) (ci := 1) (v := .int (y4 + 1)) (ty := .int) (C := RX1) (T := TX1) (N := 3) hx hb hg inG1 tyX1 tyX1_ok nmX1 hown hK.1 hP hD hS 0 rfl rfl 1 (by decide) (hg _ wt_200) (fun _ h9 => h9) rfl (by decide +kernel) rfl rfl (Nat.le_of_ble_eq_true rfl) dX1_cross_86 (fun H locs hP hD hS => ?_)
            have hP : va_P (dC, dI) vwCl [(h0, .inr (1, [.int (y3 - 1), .int (y4 + 1), .int y5])), (wy, .inr (9, [.int (nI N), .int (nI B), .int (nI D), .ref a1, .ref a2, .ref a3, .ref a4, .ref a5, .ref a6])), (a1, .inl (G 0, 10, .inl f1)), (a2, .inl (G 0, 10, .inl f2)), (a3, .inl (G 0, 10, .inl f3)), (a4, .inl (G 0, 6, .inl f4)), (a5, .inl (G 0, 6, .inl f5)), (a6, .inl (G 0, 6, .inl f6))] H := hP
            have hD : va_D A [(h0, .inr (1, [.int (y3 - 1), .int (y4 + 1), .int y5])), (wy, .inr (9, [.int (nI N), .int (nI B), .int (nI D), .ref a1, .ref a2, .ref a3, .ref a4, .ref a5, .ref a6])), (a1, .inl (G 0, 10, .inl f1)), (a2, .inl (G 0, 10, .inl f2)), (a3, .inl (G 0, 10, .inl f3)), (a4, .inl (G 0, 6, .inl f4)), (a5, .inl (G 0, 6, .inl f5)), (a6, .inl (G 0, 6, .inl f6))] := hD
            refine lv_goto (tgt := 107) hx hb dX1_cross_89 (by decide) ?_
            exact cut107_18 (y3 - 1) (y4 + 1) _ _ hP hD hS ls (lv_sub hl [0, 1, 2, 3, 4] rfl)
  exact loop24_6 (N + 1) 0 (by omega) (by omega) sd (nI D) 0 (-4) _ _ hP hD hS ls (lv_sub hl [0, 1, 2, 3, 4] rfl)

set_option maxHeartbeats 1000000 in
set_option maxRecDepth 100000 in
theorem c_X0_slot (l : Launch) (dC : Nat → ClassId) (dI : Nat → Nat → Nat) (G : Nat → ClassId) (sz : Nat) (d : Nat) (g : Int32) (hg0 : g.toInt = -4 ∨ (0 ≤ g.toInt ∧ g.toInt < 6)) (hd : d ≤ 9) : Met l yX0_slot (Cond.code yX0_slot cX0_slot 2 (some .int) :: GT) ({ frames := 0, cells := 0, slots := 0, locals := 0 } : Room) (PcR [.int g, .int (nI d)] dC dI G [] sz) (va_Qi (fun (r : Int32) (u : Unit) => match u with | _ => (r = nI (slotF g d)) ∧ True) (fun _ _ => True) (fun q : Nat => sz ≤ q)) 0 0 (fun q : Nat => sz ≤ q) := by
  refine Met.ofW (cc := cX0_slot) (maxL := 2) (ret := (some .int)) (by decide) rfl ?_
  intro p e s m args below meth c s₁ Bd hml hv
  obtain ⟨rfl, hsz, hP, hK⟩ := hv
  have hx := Bd.exec
  have hb := Bd.bytes
  have hr := Bd.returns
  have hg : ∀ w ∈ GT, w.before ([.int g, .int (nI d)] : List Value).toArray s = true := fun w h => atoms_spec (ws := Cond.code yX0_slot cX0_slot 2 (some .int) :: GT) Bd.pre w (List.mem_cons_of_mem _ h)
  have hown : s.vm.findClass RX0 = some m.cls := findClass_of_methodNamed Bd.named
  have hlocks := Bd.notSynchronized
  subst hsz
  have hA : ∀ q : Nat, s.heap.size ≤ q → (fun q : Nat => s.heap.size ≤ q) q := fun _ h => h
  have hS : va_S (fun q : Nat => s.heap.size ≤ q) s.heap s.heap [] := va_S.rf
  have hl := lv_entry ([.int g, .int (nI d)]) (n := 2) (Nat.le_of_ble_eq_true rfl)
  rw [lg_entry_eq]
  generalize (lg_sl ([.int g, .int (nI d)]) ++ List.replicate (2 - (lg_sl ([.int g, .int (nI d)])).length) Slot.unset).toArray = ls at hl ⊢
  have hl : lv_has ls 2 [(0, .int g), (1, .int (nI d))] := hl
  refine lv_iload_n hx hb dX0_slot_0 rfl (lv_at hl 0 rfl) ?_
  refine lv_bipush (v := (-4)) hx hb dX0_slot_1 (by decide) ?_
  refine lv_icmp_ne (tgt := 10) hx hb dX0_slot_3 (by decide) (fun c1 => ?_) (fun c1 => ?_)
  · skip
    obtain ⟨gg, hgg, rfl⟩ : ∃ j : Nat, j < 6 ∧ g = nI j := by
      have t_c1 := neI c1
      have : ((-4) : Int32).toInt = -4 := (by decide)
      have t_n0 : (nI d).toInt = (d : Int) := nI_toInt (by omega)
      exact i32_nat (by omega) (by omega)
    refine lv_iload_n hx hb dX0_slot_10 rfl (lv_at hl 0 rfl) ?_
    refine lv_iconst (v := 1) hx hb dX0_slot_11 (by decide) ?_
    refine lv_iadd hx hb dX0_slot_12 ?_
    refine lv_cg (y := nI (gg + 1)) (by rw [show (1 : Int32) = nI 1 from rfl]; exact nI_add _ _) ?_
    refine lv_bipush (v := 10) hx hb dX0_slot_13 (by decide) ?_
    refine lv_imul hx hb dX0_slot_15 ?_
    refine lv_cg (y := nI ((gg + 1) * 10)) (by rw [show (10 : Int32) = nI 10 from rfl]; exact pk_mul _ _) ?_
    refine lv_iload_n hx hb dX0_slot_16 rfl (lv_at hl 1 rfl) ?_
    refine lv_iadd hx hb dX0_slot_17 ?_
    refine lv_cg (y := nI (((gg + 1) * 10) + d)) (by exact nI_add _ _) ?_
    have hpost : (nI (((gg + 1) * 10) + d) : Int32) = nI (slotF (nI gg) d) := by
      unfold slotF
      rw [nI_clamp (by omega), if_neg (by assumption)]
    refine W.widen (k := 0) (n := 0) (by omega) (by omega) ?_
    exact W.iret (v := nI (((gg + 1) * 10) + d)) hx hb hr (fun t ht hW => ⟨⟨nI (((gg + 1) * 10) + d), (), rfl, ⟨hpost, trivial⟩, trivial⟩, hS.F ht⟩) hS.2.2 dX0_slot_18
  · skip
    refine lv_iconst (v := 0) hx hb dX0_slot_6 (by decide) ?_
    refine lv_goto (tgt := 13) hx hb dX0_slot_7 (by decide) ?_
    refine lv_bipush (v := 10) hx hb dX0_slot_13 (by decide) ?_
    refine lv_imul hx hb dX0_slot_15 ?_
    refine lv_cg (y := 0) (by decide) ?_
    refine lv_iload_n hx hb dX0_slot_16 rfl (lv_at hl 1 rfl) ?_
    refine lv_iadd hx hb dX0_slot_17 ?_
    refine lv_cg (y := nI d) (by rw [show (0 : Int32) = nI 0 from rfl, nI_add, Nat.zero_add]) ?_
    have hpost : (nI d : Int32) = nI (slotF g d) := by
      unfold slotF
      rw [if_pos (by assumption)]; simp
    refine W.widen (k := 0) (n := 0) (by omega) (by omega) ?_
    exact W.iret (v := nI d) hx hb hr (fun t ht hW => ⟨⟨nI d, (), rfl, ⟨hpost, trivial⟩, trivial⟩, hS.F ht⟩) hS.2.2 dX0_slot_18

set_option maxHeartbeats 1000000 in
set_option maxRecDepth 100000 in
theorem c_X0_weigh (l : Launch) (dC : Nat → ClassId) (dI : Nat → Nat → Nat) (G : Nat → ClassId) (sz : Nat) (h0 wk cs i k : Nat) (g x1 : Int32) (w0 : Int64) (rw rq : Nat → Nat) (F : Nat → Nat → Int64) (E : Nat → Nat → Int32) (hg0 : g.toInt = -4 ∨ (0 ≤ g.toInt ∧ g.toInt < 6)) (hi : i < 10) (hk : k < 6) : Met l yX0_weigh (Cond.code yX0_weigh cX0_weigh 12 none :: GT) ({ frames := 1, cells := 0, slots := 0, locals := 21 } : Room) (PcW [.ref h0, .int (nI i), .int g, .int (nI k), .int x1] dC dI G ([(h0, .inr (0, [.long w0, .ref wk, .ref cs])), (wk, .inl (G 5, 11, .inr (.inr (.inr (.inr (fun i => if i < 11 then some (rw i) else none)))))), (cs, .inl (G 4, 10, .inr (.inr (.inr (.inr (fun i => if i < 10 then some (rq i) else none))))))] ++ (((List.range 11).map (fun i => (rw i, .inl (G 1, 70, .inr (.inl (F i)))))) ++ (((List.range 10).map (fun i => (rq i, .inl (G 0, 70, .inl (E i))))) ++ []))) sz) (va_Qv (fun (u : Int64 × (Nat → Nat → Int64) × (Nat → Nat → Int32)) => match u with | (u0, u1, u2) => True) (fun (u : Int64 × (Nat → Nat → Int64) × (Nat → Nat → Int32)) (t : State) => match u with | (u0, u1, u2) => va_P (dC, dI) vwCl ([(h0, .inr (0, [.long u0, .ref wk, .ref cs])), (wk, .inl (G 5, 11, .inr (.inr (.inr (.inr (fun i => if i < 11 then some (rw i) else none)))))), (cs, .inl (G 4, 10, .inr (.inr (.inr (.inr (fun i => if i < 10 then some (rq i) else none))))))] ++ (((List.range 11).map (fun i => (rw i, .inl (G 1, 70, .inr (.inl (u1 i)))))) ++ (((List.range 10).map (fun i => (rq i, .inl (G 0, 70, .inl (u2 i))))) ++ []))) t.heap ∧ va_D (va_A ([(h0, .inr (0, [.long w0, .ref wk, .ref cs])), (wk, .inl (G 5, 11, .inr (.inr (.inr (.inr (fun i => if i < 11 then some (rw i) else none)))))), (cs, .inl (G 4, 10, .inr (.inr (.inr (.inr (fun i => if i < 10 then some (rq i) else none))))))] ++ (((List.range 11).map (fun i => (rw i, .inl (G 1, 70, .inr (.inl (F i)))))) ++ (((List.range 10).map (fun i => (rq i, .inl (G 0, 70, .inl (E i))))) ++ []))) sz) ([(h0, .inr (0, [.long u0, .ref wk, .ref cs])), (wk, .inl (G 5, 11, .inr (.inr (.inr (.inr (fun i => if i < 11 then some (rw i) else none)))))), (cs, .inl (G 4, 10, .inr (.inr (.inr (.inr (fun i => if i < 10 then some (rq i) else none))))))] ++ (((List.range 11).map (fun i => (rw i, .inl (G 1, 70, .inr (.inl (u1 i)))))) ++ (((List.range 10).map (fun i => (rq i, .inl (G 0, 70, .inl (u2 i))))) ++ [])))) (va_A ([(h0, .inr (0, [.long w0, .ref wk, .ref cs])), (wk, .inl (G 5, 11, .inr (.inr (.inr (.inr (fun i => if i < 11 then some (rw i) else none)))))), (cs, .inl (G 4, 10, .inr (.inr (.inr (.inr (fun i => if i < 10 then some (rq i) else none))))))] ++ (((List.range 11).map (fun i => (rw i, .inl (G 1, 70, .inr (.inl (F i)))))) ++ (((List.range 10).map (fun i => (rq i, .inl (G 0, 70, .inl (E i))))) ++ []))) sz)) 0 0 (va_A ([(h0, .inr (0, [.long w0, .ref wk, .ref cs])), (wk, .inl (G 5, 11, .inr (.inr (.inr (.inr (fun i => if i < 11 then some (rw i) else none)))))), (cs, .inl (G 4, 10, .inr (.inr (.inr (.inr (fun i => if i < 10 then some (rq i) else none))))))] ++ (((List.range 11).map (fun i => (rw i, .inl (G 1, 70, .inr (.inl (F i)))))) ++ (((List.range 10).map (fun i => (rq i, .inl (G 0, 70, .inl (E i))))) ++ []))) sz) := by
  refine Met.ofW (cc := cX0_weigh) (maxL := 12) (ret := none) (by decide) rfl ?_
  intro p e s m args below meth c s₁ Bd hml hv
  obtain ⟨rfl, hsz, hP, hK, hD0⟩ := hv
  have hx := Bd.exec
  have hb := Bd.bytes
  have hr := Bd.returns
  have hg : ∀ w ∈ GT, w.before ([.ref h0, .int (nI i), .int g, .int (nI k), .int x1] : List Value).toArray s = true := fun w h => atoms_spec (ws := Cond.code yX0_weigh cX0_weigh 12 none :: GT) Bd.pre w (List.mem_cons_of_mem _ h)
  have hown : s.vm.findClass RX0 = some m.cls := findClass_of_methodNamed Bd.named
  have hlocks := Bd.notSynchronized
  subst hsz
  have hD := hD0.self (sz := s.heap.size)
  generalize hAe : va_A ([(h0, .inr (0, [.long w0, .ref wk, .ref cs])), (wk, .inl (G 5, 11, .inr (.inr (.inr (.inr (fun i => if i < 11 then some (rw i) else none)))))), (cs, .inl (G 4, 10, .inr (.inr (.inr (.inr (fun i => if i < 10 then some (rq i) else none))))))] ++ (((List.range 11).map (fun i => (rw i, .inl (G 1, 70, .inr (.inl (F i)))))) ++ (((List.range 10).map (fun i => (rq i, .inl (G 0, 70, .inl (E i))))) ++ []))) s.heap.size = A at hD ⊢
  have hA : ∀ q : Nat, s.heap.size ≤ q → A q := fun q h => by rw [← hAe]; exact Or.inr h
  have hS : va_S A s.heap s.heap [] := va_S.rf
  have hl := lv_entry ([.ref h0, .int (nI i), .int g, .int (nI k), .int x1]) (n := 12) (Nat.le_of_ble_eq_true rfl)
  rw [lg_entry_eq]
  generalize (lg_sl ([.ref h0, .int (nI i), .int g, .int (nI k), .int x1]) ++ List.replicate (12 - (lg_sl ([.ref h0, .int (nI i), .int g, .int (nI k), .int x1])).length) Slot.unset).toArray = ls at hl ⊢
  have hl : lv_has ls 12 [(0, .ref h0), (1, .int (nI i)), (2, .int g), (3, .int (nI k)), (4, .int x1)] := hl
  refine lv_iconst (v := 1) hx hb dX0_weigh_0 (by decide) ?_
  refine lv_istore (lv' := [(5, .int 1), (0, .ref h0), (1, .int (nI i)), (2, .int g), (3, .int (nI k)), (4, .int x1)]) hx hb dX0_weigh_1 hl (by decide) rfl (fun ls hl => ?_)
  have loop3_4 : ∀ (nf j1 : Nat), 10 + 1 ≤ j1 + nf → j1 ≤ 10 → 1 ≤ j1 → ∀ (g2 : Nat → Nat → Int64) (g3 : Nat → Nat → Int32) (H : Heap) (locs : List Loc), va_P (dC, dI) vwCl ([(h0, .inr (0, [.long w0, .ref wk, .ref cs])), (wk, .inl (G 5, 11, .inr (.inr (.inr (.inr (fun i => if i < 11 then some (rw i) else none)))))), (cs, .inl (G 4, 10, .inr (.inr (.inr (.inr (fun i => if i < 10 then some (rq i) else none))))))] ++ (((List.range 11).map (fun i => (rw i, .inl (G 1, 70, .inr (.inl (g2 i)))))) ++ (((List.range 10).map (fun i => (rq i, .inl (G 0, 70, .inl (g3 i))))) ++ []))) H → va_D A ([(h0, .inr (0, [.long w0, .ref wk, .ref cs])), (wk, .inl (G 5, 11, .inr (.inr (.inr (.inr (fun i => if i < 11 then some (rw i) else none)))))), (cs, .inl (G 4, 10, .inr (.inr (.inr (.inr (fun i => if i < 10 then some (rq i) else none))))))] ++ (((List.range 11).map (fun i => (rw i, .inl (G 1, 70, .inr (.inl (g2 i)))))) ++ (((List.range 10).map (fun i => (rq i, .inl (G 0, 70, .inl (g3 i))))) ++ []))) → va_S A s.heap H locs → ∀ (ls : Array Slot), lv_has ls 12 [(5, .int (nI j1)), (0, .ref h0), (1, .int (nI i)), (2, .int g), (3, .int (nI k)), (4, .int x1)] → W p l e (headSpec (Cond.code yX0_weigh cX0_weigh 12 none :: GT) ({ frames := 1, cells := 0, slots := 0, locals := 21 } : Room)).room s m ([.ref h0, .int (nI i), .int g, .int (nI k), .int x1] : List Value).toArray below meth c H locs 0 0 (MQ below (va_Qv (fun (u : Int64 × (Nat → Nat → Int64) × (Nat → Nat → Int32)) => match u with | (u0, u1, u2) => True) (fun (u : Int64 × (Nat → Nat → Int64) × (Nat → Nat → Int32)) (t : State) => match u with | (u0, u1, u2) => va_P (dC, dI) vwCl ([(h0, .inr (0, [.long u0, .ref wk, .ref cs])), (wk, .inl (G 5, 11, .inr (.inr (.inr (.inr (fun i => if i < 11 then some (rw i) else none)))))), (cs, .inl (G 4, 10, .inr (.inr (.inr (.inr (fun i => if i < 10 then some (rq i) else none))))))] ++ (((List.range 11).map (fun i => (rw i, .inl (G 1, 70, .inr (.inl (u1 i)))))) ++ (((List.range 10).map (fun i => (rq i, .inl (G 0, 70, .inl (u2 i))))) ++ []))) t.heap ∧ va_D A ([(h0, .inr (0, [.long u0, .ref wk, .ref cs])), (wk, .inl (G 5, 11, .inr (.inr (.inr (.inr (fun i => if i < 11 then some (rw i) else none)))))), (cs, .inl (G 4, 10, .inr (.inr (.inr (.inr (fun i => if i < 10 then some (rq i) else none))))))] ++ (((List.range 11).map (fun i => (rw i, .inl (G 1, 70, .inr (.inl (u1 i)))))) ++ (((List.range 10).map (fun i => (rq i, .inl (G 0, 70, .inl (u2 i))))) ++ [])))) A) ([.ref h0, .int (nI i), .int g, .int (nI k), .int x1] : List Value).toArray s 0 0 A) (F0 m 3 ls []) := by
    intro nf
    induction nf with
    | zero => intro j1 h1 h2; exact absurd h1 (by omega)
    | succ nf ih3_4 =>
      intro j1 hn5 hj6 hlo_j1 g2 g3 H locs hP hD hS ls hl
      refine lv_iload hx hb dX0_weigh_3 (lv_at hl 0 rfl) ?_
      refine lv_bipush (v := 10) hx hb dX0_weigh_5 (by decide) ?_
      refine lv_icmp_ge (tgt := 125) hx hb dX0_weigh_7 (by decide) (fun c7 => ?_) (fun c7 => ?_)
      · skip
        have n8 : 10 ≤ j1 := by have t := leI c7; rw [nI_toInt (n := j1) (by omega)] at t; have : (10 : Int32).toInt = 10 := (by decide); omega
        have hP9 := hP.sub (ws' := ([(h0, .inr (0, [.long w0, .ref wk, .ref cs])), (wk, .inl (G 5, 11, .inr (.inr (.inr (.inr (fun i => if i < 11 then some (rw i) else none)))))), (cs, .inl (G 4, 10, .inr (.inr (.inr (.inr (fun i => if i < 10 then some (rq i) else none))))))] ++ (((List.range 11).map (fun i => (rw i, .inl (G 1, 70, .inr (.inl (g2 i)))))) ++ (((List.range 10).map (fun i => (rq i, .inl (G 0, 70, .inl (g3 i))))) ++ [])))) [0, 1, 2, 3, 4, 5, 6, 7, 8, 9, 10, 11, 12, 13, 14, 15, 16, 17, 18, 19, 20, 21, 22, 23] rfl
        have hD9 := hD.sub (ws' := ([(h0, .inr (0, [.long w0, .ref wk, .ref cs])), (wk, .inl (G 5, 11, .inr (.inr (.inr (.inr (fun i => if i < 11 then some (rw i) else none)))))), (cs, .inl (G 4, 10, .inr (.inr (.inr (.inr (fun i => if i < 10 then some (rq i) else none))))))] ++ (((List.range 11).map (fun i => (rw i, .inl (G 1, 70, .inr (.inl (g2 i)))))) ++ (((List.range 10).map (fun i => (rq i, .inl (G 0, 70, .inl (g3 i))))) ++ [])))) [0, 1, 2, 3, 4, 5, 6, 7, 8, 9, 10, 11, 12, 13, 14, 15, 16, 17, 18, 19, 20, 21, 22, 23] (by decide) rfl
        refine W.widen (k := 0) (n := 0) (by omega) (by omega) ?_
        exact W.vret hx hb hr (fun t ht hW => ⟨⟨(w0, g2, g3), rfl, trivial, ⟨by rw [ht]; exact hP9, hD9⟩⟩, hS.F ht⟩) hS.2.2 dX0_weigh_125
      · skip
        have n9 : j1 < 10 := by have t := nleI c7; rw [nI_toInt (n := j1) (by omega)] at t; have : (10 : Int32).toInt = 10 := (by decide); omega
        refine lv_aload_n hx hb dX0_weigh_10 rfl (lv_at hl 1 rfl) ?_
        refine va_get (D := (dC, dI)) (ci := 0) (v := .ref wk) (C := RX0) (T := TX0) (N := 3) hx hb hg inG0 hown hK.1 hP 0 rfl rfl 1 (by decide) (hg _ wt_182) (fun _ h9 => h9) rfl dX0_weigh_11 ?_
        refine lv_iload_n hx hb dX0_weigh_14 rfl (lv_at hl 2 rfl) ?_
        refine lv_iconst (v := 1) hx hb dX0_weigh_15 (by decide) ?_
        refine lv_iadd hx hb dX0_weigh_16 ?_
        refine lv_cg (y := nI (i + 1)) (by rw [show (1 : Int32) = nI 1 from rfl]; exact nI_add _ _) ?_
        refine va_aldA hx hb hK.1 hP 1 5 rfl rfl (vp_in_nI (by have t_hj6 := hj6; have t_hlo_j1 := hlo_j1; have t_n9 := n9; have t_n0 : (nI i).toInt = (i : Int) := nI_toInt (by omega); have t_n1 : (nI k).toInt = (k : Int) := nI_toInt (by omega); have t_n2 : (nI j1).toInt = (j1 : Int) := nI_toInt (by omega); omega) (by decide)) dX0_weigh_17 ?_
        refine lv_cgv (y := .ref (rw (i + 1))) (rowref (by have t_hj6 := hj6; have t_hlo_j1 := hlo_j1; have t_n9 := n9; have t_n0 : (nI i).toInt = (i : Int) := nI_toInt (by omega); have t_n1 : (nI k).toInt = (k : Int) := nI_toInt (by omega); have t_n2 : (nI j1).toInt = (j1 : Int) := nI_toInt (by omega); omega) (by decide)) ?_
        refine lv_iload_n hx hb dX0_weigh_18 rfl (lv_at hl 4 rfl) ?_
        refine lv_iload hx hb dX0_weigh_19 (lv_at hl 0 rfl) ?_
        refine lv_iconst (v := 1) hx hb dX0_weigh_21 (by decide) ?_
        refine lv_isub hx hb dX0_weigh_22 ?_
        refine lv_cg (y := nI (j1 - 1)) (by rw [show (1 : Int32) = nI 1 from rfl]; exact pk_sub (by have t_hj6 := hj6; have t_hlo_j1 := hlo_j1; have t_n9 := n9; have t_n0 : (nI i).toInt = (i : Int) := nI_toInt (by omega); have t_n1 : (nI k).toInt = (k : Int) := nI_toInt (by omega); have t_n2 : (nI j1).toInt = (j1 : Int) := nI_toInt (by omega); omega)) ?_
        have hPc := hP.sub (ws' := []) [] rfl
        refine va_calli (va_runS (As := [.int (nI k), .int (nI (j1 - 1))]) (rest := [.ref (rw (i + 1))]) ⟨hx, hb, hml, hown, hg⟩ (c_X0_slot l dC dI G _ (j1 - 1) (nI k) (by have t_hj6 := hj6; have t_hlo_j1 := hlo_j1; have t_n9 := n9; have t_n0 : (nI i).toInt = (i : Int) := nI_toInt (by omega); have t_n1 : (nI k).toInt = (k : Int) := nI_toInt (by omega); have t_n2 : (nI j1).toInt = (j1 : Int) := nI_toInt (by omega); have t_n0 : (nI i).toInt = (i : Int) := nI_toInt (by omega); have t_n1 : (nI k).toInt = (k : Int) := nI_toInt (by omega); have t_n2 : (nI j1).toInt = (j1 : Int) := nI_toInt (by omega); omega) (by have t_hj6 := hj6; have t_hlo_j1 := hlo_j1; have t_n9 := n9; have t_n0 : (nI i).toInt = (i : Int) := nI_toInt (by omega); have t_n1 : (nI k).toInt = (k : Int) := nI_toInt (by omega); have t_n2 : (nI j1).toInt = (j1 : Int) := nI_toInt (by omega); have t_n0 : (nI i).toInt = (i : Int) := nI_toInt (by omega); have t_n1 : (nI k).toInt = (k : Int) := nI_toInt (by omega); have t_n2 : (nI j1).toInt = (j1 : Int) := nI_toInt (by omega); omega)) (kwS hg mfX0_slot wt_666 ⟨Nat.le_of_ble_eq_true rfl, Nat.le_of_ble_eq_true rfl⟩) (preSR hK hPc) rfl rfl hl.1 rfl (lv_room (Nat.le_of_ble_eq_true rfl)) dX0_weigh_23 ⟨Nat.le_of_ble_eq_true rfl, Nat.le_of_ble_eq_true rfl⟩) hS (fun q h1 h2 => absurd h2 (Nat.not_le.mpr h1)) (fun q h => hA q (Nat.le_trans hS.1 h)) (fun r10 ur10 t H1 locs ht hvm w11 hB hz1 hk1 hS => ?_)
        have hP := keepR hP hk1
        obtain ⟨w11, w11x⟩ := w11
        have hs12 : slotF (nI k) (j1 - 1) < 70 := slotF_lt (by have t_hj6 := hj6; have t_hlo_j1 := hlo_j1; have t_n9 := n9; have t_n0 : (nI i).toInt = (i : Int) := nI_toInt (by omega); have t_n1 : (nI k).toInt = (k : Int) := nI_toInt (by omega); have t_n2 : (nI j1).toInt = (j1 : Int) := nI_toInt (by omega); omega) (by have t_hj6 := hj6; have t_hlo_j1 := hlo_j1; have t_n9 := n9; have t_n0 : (nI i).toInt = (i : Int) := nI_toInt (by omega); have t_n1 : (nI k).toInt = (k : Int) := nI_toInt (by omega); have t_n2 : (nI j1).toInt = (j1 : Int) := nI_toInt (by omega); omega)
        subst w11
        refine va_lald hx hb hK.1 (blk_P (j := (i + 1)) hP (by have t_hj6 := hj6; have t_hlo_j1 := hlo_j1; have t_n9 := n9; have t_hs12 := hs12; have t_n0 : (nI i).toInt = (i : Int) := nI_toInt (by omega); have t_n1 : (nI k).toInt = (k : Int) := nI_toInt (by omega); have t_n2 : (nI j1).toInt = (j1 : Int) := nI_toInt (by omega); omega)) 0 1 rfl rfl (vp_in_nI (by have t_hj6 := hj6; have t_hlo_j1 := hlo_j1; have t_n9 := n9; have t_hs12 := hs12; have t_n0 : (nI i).toInt = (i : Int) := nI_toInt (by omega); have t_n1 : (nI k).toInt = (k : Int) := nI_toInt (by omega); have t_n2 : (nI j1).toInt = (j1 : Int) := nI_toInt (by omega); omega) (by decide)) dX0_weigh_26 ?_
        refine lv_cgl (y := g2 (i + 1) (slotF (nI k) (j1 - 1))) (by rw [nI_clamp (by have t_hj6 := hj6; have t_hlo_j1 := hlo_j1; have t_n9 := n9; have t_hs12 := hs12; have t_n0 : (nI i).toInt = (i : Int) := nI_toInt (by omega); have t_n1 : (nI k).toInt = (k : Int) := nI_toInt (by omega); have t_n2 : (nI j1).toInt = (j1 : Int) := nI_toInt (by omega); omega)]) ?_
        refine lv_lstore (lv' := [(6, .long (g2 (i + 1) (slotF (nI k) (j1 - 1)))), (5, .int (nI j1)), (0, .ref h0), (1, .int (nI i)), (2, .int g), (3, .int (nI k)), (4, .int x1)]) hx hb dX0_weigh_27 hl (by decide) rfl (fun ls hl => ?_)
        refine lv_aload_n hx hb dX0_weigh_29 rfl (lv_at hl 2 rfl) ?_
        refine va_get (D := (dC, dI)) (ci := 0) (v := .ref wk) (C := RX0) (T := TX0) (N := 3) hx hb hg inG0 hown hK.1 hP 0 rfl rfl 1 (by decide) (hg _ wt_182) (fun _ h9 => h9) rfl dX0_weigh_30 ?_
        refine lv_iload_n hx hb dX0_weigh_33 rfl (lv_at hl 3 rfl) ?_
        refine lv_iconst (v := 1) hx hb dX0_weigh_34 (by decide) ?_
        refine lv_iadd hx hb dX0_weigh_35 ?_
        refine lv_cg (y := nI (i + 1)) (by rw [show (1 : Int32) = nI 1 from rfl]; exact nI_add _ _) ?_
        refine va_aldA hx hb hK.1 hP 1 5 rfl rfl (vp_in_nI (by have t_hj6 := hj6; have t_hlo_j1 := hlo_j1; have t_n9 := n9; have t_hs12 := hs12; have t_n0 : (nI i).toInt = (i : Int) := nI_toInt (by omega); have t_n1 : (nI k).toInt = (k : Int) := nI_toInt (by omega); have t_n2 : (nI j1).toInt = (j1 : Int) := nI_toInt (by omega); omega) (by decide)) dX0_weigh_36 ?_
        refine lv_cgv (y := .ref (rw (i + 1))) (rowref (by have t_hj6 := hj6; have t_hlo_j1 := hlo_j1; have t_n9 := n9; have t_hs12 := hs12; have t_n0 : (nI i).toInt = (i : Int) := nI_toInt (by omega); have t_n1 : (nI k).toInt = (k : Int) := nI_toInt (by omega); have t_n2 : (nI j1).toInt = (j1 : Int) := nI_toInt (by omega); omega) (by decide)) ?_
        refine lv_iload_n hx hb dX0_weigh_37 rfl (lv_at hl 5 rfl) ?_
        refine lv_bipush (v := 9) hx hb dX0_weigh_38 (by decide) ?_
        refine lv_iload hx hb dX0_weigh_40 (lv_at hl 1 rfl) ?_
        refine lv_iconst (v := 1) hx hb dX0_weigh_42 (by decide) ?_
        refine lv_iadd hx hb dX0_weigh_43 ?_
        refine lv_cg (y := nI (j1 + 1)) (by rw [show (1 : Int32) = nI 1 from rfl]; exact nI_add _ _) ?_
        have hPc := hP.sub (ws' := []) [] rfl
        refine va_calli (va_runS (As := [.int 9, .int (nI (j1 + 1))]) (rest := [.int (nI k), .ref (rw (i + 1))]) ⟨hx, hb, hml, hown, hg⟩ (c_J9_min l dC dI G _ 9 (nI (j1 + 1)) ) (kwS hg mfJ9_min_7cf53 wt_675 ⟨Nat.le_of_ble_eq_true rfl, Nat.le_of_ble_eq_true rfl⟩) (preSR hK hPc) rfl rfl hl.1 rfl (lv_room (Nat.le_of_ble_eq_true rfl)) dX0_weigh_44 ⟨Nat.le_of_ble_eq_true rfl, Nat.le_of_ble_eq_true rfl⟩) hS (fun q h1 h2 => absurd h2 (Nat.not_le.mpr h1)) (fun q h => hA q (Nat.le_trans hS.1 h)) (fun r13 ur13 t H1 locs ht hvm w14 hB hz1 hk1 hS => ?_)
        have hP := keepR hP hk1
        obtain ⟨w14, w14x⟩ := w14
        have w14 : r13 = nI (min 9 (j1 + 1)) := w14.trans (mn_nI (a := 9) (b := (j1 + 1)) (by omega) (by omega))
        subst w14
        have hPc := hP.sub (ws' := []) [] rfl
        refine va_calli (va_runS (As := [.int (nI k), .int (nI (min 9 (j1 + 1)))]) (rest := [.ref (rw (i + 1))]) ⟨hx, hb, hml, hown, hg⟩ (c_X0_slot l dC dI G _ (min 9 (j1 + 1)) (nI k) (by have t_hj6 := hj6; have t_hlo_j1 := hlo_j1; have t_n9 := n9; have t_hs12 := hs12; have t_n0 : (nI i).toInt = (i : Int) := nI_toInt (by omega); have t_n1 : (nI k).toInt = (k : Int) := nI_toInt (by omega); have t_n2 : (nI j1).toInt = (j1 : Int) := nI_toInt (by omega); have t_n0 : (nI i).toInt = (i : Int) := nI_toInt (by omega); have t_n1 : (nI k).toInt = (k : Int) := nI_toInt (by omega); have t_n2 : (nI j1).toInt = (j1 : Int) := nI_toInt (by omega); omega) (by have t_hj6 := hj6; have t_hlo_j1 := hlo_j1; have t_n9 := n9; have t_hs12 := hs12; have t_n0 : (nI i).toInt = (i : Int) := nI_toInt (by omega); have t_n1 : (nI k).toInt = (k : Int) := nI_toInt (by omega); have t_n2 : (nI j1).toInt = (j1 : Int) := nI_toInt (by omega); have t_n0 : (nI i).toInt = (i : Int) := nI_toInt (by omega); have t_n1 : (nI k).toInt = (k : Int) := nI_toInt (by omega); have t_n2 : (nI j1).toInt = (j1 : Int) := nI_toInt (by omega); omega)) (kwS hg mfX0_slot wt_666 ⟨Nat.le_of_ble_eq_true rfl, Nat.le_of_ble_eq_true rfl⟩) (preSR hK hPc) rfl rfl hl.1 rfl (lv_room (Nat.le_of_ble_eq_true rfl)) dX0_weigh_47 ⟨Nat.le_of_ble_eq_true rfl, Nat.le_of_ble_eq_true rfl⟩) hS (fun q h1 h2 => absurd h2 (Nat.not_le.mpr h1)) (fun q h => hA q (Nat.le_trans hS.1 h)) (fun r15 ur15 t H1 locs ht hvm w16 hB hz1 hk1 hS => ?_)
        have hP := keepR hP hk1
        obtain ⟨w16, w16x⟩ := w16
        have hs17 : slotF (nI k) (min 9 (j1 + 1)) < 70 := slotF_lt (by have t_hj6 := hj6; have t_hlo_j1 := hlo_j1; have t_n9 := n9; have t_hs12 := hs12; have t_n0 : (nI i).toInt = (i : Int) := nI_toInt (by omega); have t_n1 : (nI k).toInt = (k : Int) := nI_toInt (by omega); have t_n2 : (nI j1).toInt = (j1 : Int) := nI_toInt (by omega); omega) (by have t_hj6 := hj6; have t_hlo_j1 := hlo_j1; have t_n9 := n9; have t_hs12 := hs12; have t_n0 : (nI i).toInt = (i : Int) := nI_toInt (by omega); have t_n1 : (nI k).toInt = (k : Int) := nI_toInt (by omega); have t_n2 : (nI j1).toInt = (j1 : Int) := nI_toInt (by omega); omega)
        subst w16
        refine va_lald hx hb hK.1 (blk_P (j := (i + 1)) hP (by have t_hj6 := hj6; have t_hlo_j1 := hlo_j1; have t_n9 := n9; have t_hs12 := hs12; have t_hs17 := hs17; have t_n0 : (nI i).toInt = (i : Int) := nI_toInt (by omega); have t_n1 : (nI k).toInt = (k : Int) := nI_toInt (by omega); have t_n2 : (nI j1).toInt = (j1 : Int) := nI_toInt (by omega); omega)) 0 1 rfl rfl (vp_in_nI (by have t_hj6 := hj6; have t_hlo_j1 := hlo_j1; have t_n9 := n9; have t_hs12 := hs12; have t_hs17 := hs17; have t_n0 : (nI i).toInt = (i : Int) := nI_toInt (by omega); have t_n1 : (nI k).toInt = (k : Int) := nI_toInt (by omega); have t_n2 : (nI j1).toInt = (j1 : Int) := nI_toInt (by omega); omega) (by decide)) dX0_weigh_50 ?_
        refine lv_cgl (y := g2 (i + 1) (slotF (nI k) (min 9 (j1 + 1)))) (by rw [nI_clamp (by have t_hj6 := hj6; have t_hlo_j1 := hlo_j1; have t_n9 := n9; have t_hs12 := hs12; have t_hs17 := hs17; have t_n0 : (nI i).toInt = (i : Int) := nI_toInt (by omega); have t_n1 : (nI k).toInt = (k : Int) := nI_toInt (by omega); have t_n2 : (nI j1).toInt = (j1 : Int) := nI_toInt (by omega); omega)]) ?_
        refine lv_lstore (lv' := [(8, .long (g2 (i + 1) (slotF (nI k) (min 9 (j1 + 1))))), (6, .long (g2 (i + 1) (slotF (nI k) (j1 - 1)))), (5, .int (nI j1)), (0, .ref h0), (1, .int (nI i)), (2, .int g), (3, .int (nI k)), (4, .int x1)]) hx hb dX0_weigh_51 hl (by decide) rfl (fun ls hl => ?_)
        refine lv_lload hx hb dX0_weigh_53 (lv_at hl 1 rfl) ?_
        refine lv_iload hx hb dX0_weigh_55 (lv_at hl 7 rfl) ?_
        refine lv_i2l (v := x1.toInt64) hx hb dX0_weigh_57 rfl ?_
        refine lv_lmul hx hb dX0_weigh_58 ?_
        refine lv_lload hx hb dX0_weigh_59 (lv_at hl 0 rfl) ?_
        refine lv_bipush (v := 20) hx hb dX0_weigh_61 (by decide) ?_
        refine lv_iload hx hb dX0_weigh_63 (lv_at hl 7 rfl) ?_
        refine lv_isub hx hb dX0_weigh_65 ?_
        refine lv_i2l (v := (20 - x1).toInt64) hx hb dX0_weigh_66 rfl ?_
        refine lv_lmul hx hb dX0_weigh_67 ?_
        refine lv_ladd hx hb dX0_weigh_68 ?_
        refine lv_lstore (lv' := [(10, .long (((g2 (i + 1) (slotF (nI k) (j1 - 1))) * x1.toInt64) + ((g2 (i + 1) (slotF (nI k) (min 9 (j1 + 1)))) * ((20 - x1).toInt64)))), (8, .long (g2 (i + 1) (slotF (nI k) (min 9 (j1 + 1))))), (6, .long (g2 (i + 1) (slotF (nI k) (j1 - 1)))), (5, .int (nI j1)), (0, .ref h0), (1, .int (nI i)), (2, .int g), (3, .int (nI k)), (4, .int x1)]) hx hb dX0_weigh_69 hl (by decide) rfl (fun ls hl => ?_)
        refine lv_lload hx hb dX0_weigh_71 (lv_at hl 0 rfl) ?_
        refine lv_aload_n hx hb dX0_weigh_73 rfl (lv_at hl 4 rfl) ?_
        refine va_get (D := (dC, dI)) (ci := 0) (v := .ref wk) (C := RX0) (T := TX0) (N := 3) hx hb hg inG0 hown hK.1 hP 0 rfl rfl 1 (by decide) (hg _ wt_182) (fun _ h9 => h9) rfl dX0_weigh_74 ?_
        refine lv_iload_n hx hb dX0_weigh_77 rfl (lv_at hl 5 rfl) ?_
        refine va_aldA hx hb hK.1 hP 1 5 rfl rfl (vp_in_nI (by have t_hj6 := hj6; have t_hlo_j1 := hlo_j1; have t_n9 := n9; have t_hs12 := hs12; have t_hs17 := hs17; have t_n0 : (nI i).toInt = (i : Int) := nI_toInt (by omega); have t_n1 : (nI k).toInt = (k : Int) := nI_toInt (by omega); have t_n2 : (nI j1).toInt = (j1 : Int) := nI_toInt (by omega); omega) (by decide)) dX0_weigh_78 ?_
        refine lv_cgv (y := .ref (rw i)) (rowref (by have t_hj6 := hj6; have t_hlo_j1 := hlo_j1; have t_n9 := n9; have t_hs12 := hs12; have t_hs17 := hs17; have t_n0 : (nI i).toInt = (i : Int) := nI_toInt (by omega); have t_n1 : (nI k).toInt = (k : Int) := nI_toInt (by omega); have t_n2 : (nI j1).toInt = (j1 : Int) := nI_toInt (by omega); omega) (by decide)) ?_
        refine lv_iload_n hx hb dX0_weigh_79 rfl (lv_at hl 6 rfl) ?_
        refine lv_iload hx hb dX0_weigh_80 (lv_at hl 3 rfl) ?_
        have hPc := hP.sub (ws' := []) [] rfl
        refine va_calli (va_runS (As := [.int g, .int (nI j1)]) (rest := [.ref (rw i), .long (((g2 (i + 1) (slotF (nI k) (j1 - 1))) * x1.toInt64) + ((g2 (i + 1) (slotF (nI k) (min 9 (j1 + 1)))) * ((20 - x1).toInt64)))]) ⟨hx, hb, hml, hown, hg⟩ (c_X0_slot l dC dI G _ j1 g (by have t_hj6 := hj6; have t_hlo_j1 := hlo_j1; have t_n9 := n9; have t_hs12 := hs12; have t_hs17 := hs17; have t_n0 : (nI i).toInt = (i : Int) := nI_toInt (by omega); have t_n1 : (nI k).toInt = (k : Int) := nI_toInt (by omega); have t_n2 : (nI j1).toInt = (j1 : Int) := nI_toInt (by omega); have t_n0 : (nI i).toInt = (i : Int) := nI_toInt (by omega); have t_n1 : (nI k).toInt = (k : Int) := nI_toInt (by omega); have t_n2 : (nI j1).toInt = (j1 : Int) := nI_toInt (by omega); omega) (by have t_hj6 := hj6; have t_hlo_j1 := hlo_j1; have t_n9 := n9; have t_hs12 := hs12; have t_hs17 := hs17; have t_n0 : (nI i).toInt = (i : Int) := nI_toInt (by omega); have t_n1 : (nI k).toInt = (k : Int) := nI_toInt (by omega); have t_n2 : (nI j1).toInt = (j1 : Int) := nI_toInt (by omega); have t_n0 : (nI i).toInt = (i : Int) := nI_toInt (by omega); have t_n1 : (nI k).toInt = (k : Int) := nI_toInt (by omega); have t_n2 : (nI j1).toInt = (j1 : Int) := nI_toInt (by omega); omega)) (kwS hg mfX0_slot wt_666 ⟨Nat.le_of_ble_eq_true rfl, Nat.le_of_ble_eq_true rfl⟩) (preSR hK hPc) rfl rfl hl.1 rfl (lv_room (Nat.le_of_ble_eq_true rfl)) dX0_weigh_82 ⟨Nat.le_of_ble_eq_true rfl, Nat.le_of_ble_eq_true rfl⟩) hS (fun q h1 h2 => absurd h2 (Nat.not_le.mpr h1)) (fun q h => hA q (Nat.le_trans hS.1 h)) (fun r18 ur18 t H1 locs ht hvm w19 hB hz1 hk1 hS => ?_)
        have hP := keepR hP hk1
        obtain ⟨w19, w19x⟩ := w19
        have hs20 : slotF g j1 < 70 := slotF_lt (by have t_hj6 := hj6; have t_hlo_j1 := hlo_j1; have t_n9 := n9; have t_hs12 := hs12; have t_hs17 := hs17; have t_n0 : (nI i).toInt = (i : Int) := nI_toInt (by omega); have t_n1 : (nI k).toInt = (k : Int) := nI_toInt (by omega); have t_n2 : (nI j1).toInt = (j1 : Int) := nI_toInt (by omega); omega) (by have t_hj6 := hj6; have t_hlo_j1 := hlo_j1; have t_n9 := n9; have t_hs12 := hs12; have t_hs17 := hs17; have t_n0 : (nI i).toInt = (i : Int) := nI_toInt (by omega); have t_n1 : (nI k).toInt = (k : Int) := nI_toInt (by omega); have t_n2 : (nI j1).toInt = (j1 : Int) := nI_toInt (by omega); omega)
        subst w19
        refine va_lald hx hb hK.1 (blk_P (j := i) hP (by have t_hj6 := hj6; have t_hlo_j1 := hlo_j1; have t_n9 := n9; have t_hs12 := hs12; have t_hs17 := hs17; have t_hs20 := hs20; have t_n0 : (nI i).toInt = (i : Int) := nI_toInt (by omega); have t_n1 : (nI k).toInt = (k : Int) := nI_toInt (by omega); have t_n2 : (nI j1).toInt = (j1 : Int) := nI_toInt (by omega); omega)) 0 1 rfl rfl (vp_in_nI (by have t_hj6 := hj6; have t_hlo_j1 := hlo_j1; have t_n9 := n9; have t_hs12 := hs12; have t_hs17 := hs17; have t_hs20 := hs20; have t_n0 : (nI i).toInt = (i : Int) := nI_toInt (by omega); have t_n1 : (nI k).toInt = (k : Int) := nI_toInt (by omega); have t_n2 : (nI j1).toInt = (j1 : Int) := nI_toInt (by omega); omega) (by decide)) dX0_weigh_85 ?_
        refine lv_cgl (y := g2 i (slotF g j1)) (by rw [nI_clamp (by have t_hj6 := hj6; have t_hlo_j1 := hlo_j1; have t_n9 := n9; have t_hs12 := hs12; have t_hs17 := hs17; have t_hs20 := hs20; have t_n0 : (nI i).toInt = (i : Int) := nI_toInt (by omega); have t_n1 : (nI k).toInt = (k : Int) := nI_toInt (by omega); have t_n2 : (nI j1).toInt = (j1 : Int) := nI_toInt (by omega); omega)]) ?_
        refine W.lcmp hx hb dX0_weigh_86 ?_
        have cut119_23 : ∀ (g21 : Nat → Nat → Int64) (g22 : Nat → Nat → Int32) (H : Heap) (locs : List Loc), va_P (dC, dI) vwCl ([(h0, .inr (0, [.long w0, .ref wk, .ref cs])), (wk, .inl (G 5, 11, .inr (.inr (.inr (.inr (fun i => if i < 11 then some (rw i) else none)))))), (cs, .inl (G 4, 10, .inr (.inr (.inr (.inr (fun i => if i < 10 then some (rq i) else none))))))] ++ (((List.range 11).map (fun i => (rw i, .inl (G 1, 70, .inr (.inl (g21 i)))))) ++ (((List.range 10).map (fun i => (rq i, .inl (G 0, 70, .inl (g22 i))))) ++ []))) H → va_D A ([(h0, .inr (0, [.long w0, .ref wk, .ref cs])), (wk, .inl (G 5, 11, .inr (.inr (.inr (.inr (fun i => if i < 11 then some (rw i) else none)))))), (cs, .inl (G 4, 10, .inr (.inr (.inr (.inr (fun i => if i < 10 then some (rq i) else none))))))] ++ (((List.range 11).map (fun i => (rw i, .inl (G 1, 70, .inr (.inl (g21 i)))))) ++ (((List.range 10).map (fun i => (rq i, .inl (G 0, 70, .inl (g22 i))))) ++ []))) → va_S A s.heap H locs → ∀ (ls : Array Slot), lv_has ls 12 [(10, .long (((g2 (i + 1) (slotF (nI k) (j1 - 1))) * x1.toInt64) + ((g2 (i + 1) (slotF (nI k) (min 9 (j1 + 1)))) * ((20 - x1).toInt64)))), (8, .long (g2 (i + 1) (slotF (nI k) (min 9 (j1 + 1))))), (6, .long (g2 (i + 1) (slotF (nI k) (j1 - 1)))), (5, .int (nI j1)), (0, .ref h0), (1, .int (nI i)), (2, .int g), (3, .int (nI k)), (4, .int x1)] → W p l e (headSpec (Cond.code yX0_weigh cX0_weigh 12 none :: GT) ({ frames := 1, cells := 0, slots := 0, locals := 21 } : Room)).room s m ([.ref h0, .int (nI i), .int g, .int (nI k), .int x1] : List Value).toArray below meth c H locs 0 0 (MQ below (va_Qv (fun (u : Int64 × (Nat → Nat → Int64) × (Nat → Nat → Int32)) => match u with | (u0, u1, u2) => True) (fun (u : Int64 × (Nat → Nat → Int64) × (Nat → Nat → Int32)) (t : State) => match u with | (u0, u1, u2) => va_P (dC, dI) vwCl ([(h0, .inr (0, [.long u0, .ref wk, .ref cs])), (wk, .inl (G 5, 11, .inr (.inr (.inr (.inr (fun i => if i < 11 then some (rw i) else none)))))), (cs, .inl (G 4, 10, .inr (.inr (.inr (.inr (fun i => if i < 10 then some (rq i) else none))))))] ++ (((List.range 11).map (fun i => (rw i, .inl (G 1, 70, .inr (.inl (u1 i)))))) ++ (((List.range 10).map (fun i => (rq i, .inl (G 0, 70, .inl (u2 i))))) ++ []))) t.heap ∧ va_D A ([(h0, .inr (0, [.long u0, .ref wk, .ref cs])), (wk, .inl (G 5, 11, .inr (.inr (.inr (.inr (fun i => if i < 11 then some (rw i) else none)))))), (cs, .inl (G 4, 10, .inr (.inr (.inr (.inr (fun i => if i < 10 then some (rq i) else none))))))] ++ (((List.range 11).map (fun i => (rw i, .inl (G 1, 70, .inr (.inl (u1 i)))))) ++ (((List.range 10).map (fun i => (rq i, .inl (G 0, 70, .inl (u2 i))))) ++ [])))) A) ([.ref h0, .int (nI i), .int g, .int (nI k), .int x1] : List Value).toArray s 0 0 A) (F0 m 119 ls []) := by
          intro g21 g22 H locs hP hD hS ls hl
          refine lv_iinc (v := nI (j1 + 1)) (lv' := [(5, .int (nI (j1 + 1))), (10, .long (((g2 (i + 1) (slotF (nI k) (j1 - 1))) * x1.toInt64) + ((g2 (i + 1) (slotF (nI k) (min 9 (j1 + 1)))) * ((20 - x1).toInt64)))), (8, .long (g2 (i + 1) (slotF (nI k) (min 9 (j1 + 1))))), (6, .long (g2 (i + 1) (slotF (nI k) (j1 - 1)))), (0, .ref h0), (1, .int (nI i)), (2, .int g), (3, .int (nI k)), (4, .int x1)]) hx hb dX0_weigh_119 hl (k := 3) rfl (by rw [show Int32.ofInt 1 = nI 1 from by decide]; exact nI_add _ _) (by decide) rfl (fun ls hl => ?_)
          refine lv_goto (tgt := 3) hx hb dX0_weigh_122 (by decide) ?_
          exact ih3_4 (j1 + 1) (by omega) (by omega) (by omega) g21 g22 _ _ hP hD hS ls (lv_sub hl [0, 4, 5, 6, 7, 8] rfl)
        refine lv_if_ge (tgt := 119) hx hb dX0_weigh_87 (by decide) (fun c24 => ?_) (fun c24 => ?_)
        · skip
          exact cut119_23 g2 g3 _ _ hP hD hS ls (lv_sub hl [0, 1, 2, 3, 4, 5, 6, 7, 8] rfl)
        · skip
          refine lv_aload_n hx hb dX0_weigh_90 rfl (lv_at hl 4 rfl) ?_
          refine va_get (D := (dC, dI)) (ci := 0) (v := .ref wk) (C := RX0) (T := TX0) (N := 3) hx hb hg inG0 hown hK.1 hP 0 rfl rfl 1 (by decide) (hg _ wt_182) (fun _ h9 => h9) rfl dX0_weigh_91 ?_
          refine lv_iload_n hx hb dX0_weigh_94 rfl (lv_at hl 5 rfl) ?_
          refine va_aldA hx hb hK.1 hP 1 5 rfl rfl (vp_in_nI (by have t_hj6 := hj6; have t_hlo_j1 := hlo_j1; have t_n9 := n9; have t_hs12 := hs12; have t_hs17 := hs17; have t_hs20 := hs20; have t_c24 := lcm_ge_f c24; have t_n0 : (nI i).toInt = (i : Int) := nI_toInt (by omega); have t_n1 : (nI k).toInt = (k : Int) := nI_toInt (by omega); have t_n2 : (nI j1).toInt = (j1 : Int) := nI_toInt (by omega); omega) (by decide)) dX0_weigh_95 ?_
          refine lv_cgv (y := .ref (rw i)) (rowref (by have t_hj6 := hj6; have t_hlo_j1 := hlo_j1; have t_n9 := n9; have t_hs12 := hs12; have t_hs17 := hs17; have t_hs20 := hs20; have t_c24 := lcm_ge_f c24; have t_n0 : (nI i).toInt = (i : Int) := nI_toInt (by omega); have t_n1 : (nI k).toInt = (k : Int) := nI_toInt (by omega); have t_n2 : (nI j1).toInt = (j1 : Int) := nI_toInt (by omega); omega) (by decide)) ?_
          refine lv_iload_n hx hb dX0_weigh_96 rfl (lv_at hl 6 rfl) ?_
          refine lv_iload hx hb dX0_weigh_97 (lv_at hl 3 rfl) ?_
          have hPc := hP.sub (ws' := []) [] rfl
          refine va_calli (va_runS (As := [.int g, .int (nI j1)]) (rest := [.ref (rw i)]) ⟨hx, hb, hml, hown, hg⟩ (c_X0_slot l dC dI G _ j1 g (by have t_hj6 := hj6; have t_hlo_j1 := hlo_j1; have t_n9 := n9; have t_hs12 := hs12; have t_hs17 := hs17; have t_hs20 := hs20; have t_c24 := lcm_ge_f c24; have t_n0 : (nI i).toInt = (i : Int) := nI_toInt (by omega); have t_n1 : (nI k).toInt = (k : Int) := nI_toInt (by omega); have t_n2 : (nI j1).toInt = (j1 : Int) := nI_toInt (by omega); have t_n0 : (nI i).toInt = (i : Int) := nI_toInt (by omega); have t_n1 : (nI k).toInt = (k : Int) := nI_toInt (by omega); have t_n2 : (nI j1).toInt = (j1 : Int) := nI_toInt (by omega); omega) (by have t_hj6 := hj6; have t_hlo_j1 := hlo_j1; have t_n9 := n9; have t_hs12 := hs12; have t_hs17 := hs17; have t_hs20 := hs20; have t_c24 := lcm_ge_f c24; have t_n0 : (nI i).toInt = (i : Int) := nI_toInt (by omega); have t_n1 : (nI k).toInt = (k : Int) := nI_toInt (by omega); have t_n2 : (nI j1).toInt = (j1 : Int) := nI_toInt (by omega); have t_n0 : (nI i).toInt = (i : Int) := nI_toInt (by omega); have t_n1 : (nI k).toInt = (k : Int) := nI_toInt (by omega); have t_n2 : (nI j1).toInt = (j1 : Int) := nI_toInt (by omega); omega)) (kwS hg mfX0_slot wt_666 ⟨Nat.le_of_ble_eq_true rfl, Nat.le_of_ble_eq_true rfl⟩) (preSR hK hPc) rfl rfl hl.1 rfl (lv_room (Nat.le_of_ble_eq_true rfl)) dX0_weigh_99 ⟨Nat.le_of_ble_eq_true rfl, Nat.le_of_ble_eq_true rfl⟩) hS (fun q h1 h2 => absurd h2 (Nat.not_le.mpr h1)) (fun q h => hA q (Nat.le_trans hS.1 h)) (fun r25 ur25 t H1 locs ht hvm w26 hB hz1 hk1 hS => ?_)
          have hP := keepR hP hk1
          obtain ⟨w26, w26x⟩ := w26
          have hs27 : slotF g j1 < 70 := slotF_lt (by have t_hj6 := hj6; have t_hlo_j1 := hlo_j1; have t_n9 := n9; have t_hs12 := hs12; have t_hs17 := hs17; have t_hs20 := hs20; have t_c24 := lcm_ge_f c24; have t_n0 : (nI i).toInt = (i : Int) := nI_toInt (by omega); have t_n1 : (nI k).toInt = (k : Int) := nI_toInt (by omega); have t_n2 : (nI j1).toInt = (j1 : Int) := nI_toInt (by omega); omega) (by have t_hj6 := hj6; have t_hlo_j1 := hlo_j1; have t_n9 := n9; have t_hs12 := hs12; have t_hs17 := hs17; have t_hs20 := hs20; have t_c24 := lcm_ge_f c24; have t_n0 : (nI i).toInt = (i : Int) := nI_toInt (by omega); have t_n1 : (nI k).toInt = (k : Int) := nI_toInt (by omega); have t_n2 : (nI j1).toInt = (j1 : Int) := nI_toInt (by omega); omega)
          subst w26
          refine lv_lload hx hb dX0_weigh_102 (lv_at hl 0 rfl) ?_
          refine va_lastB (j := i) hx hb hK.1 hP hD hS 1 (by have t_hj6 := hj6; have t_hlo_j1 := hlo_j1; have t_n9 := n9; have t_hs12 := hs12; have t_hs17 := hs17; have t_hs20 := hs20; have t_c24 := lcm_ge_f c24; have t_hs27 := hs27; have t_n0 : (nI i).toInt = (i : Int) := nI_toInt (by omega); have t_n1 : (nI k).toInt = (k : Int) := nI_toInt (by omega); have t_n2 : (nI j1).toInt = (j1 : Int) := nI_toInt (by omega); omega) rfl (vp_in_nI (by have t_hj6 := hj6; have t_hlo_j1 := hlo_j1; have t_n9 := n9; have t_hs12 := hs12; have t_hs17 := hs17; have t_hs20 := hs20; have t_c24 := lcm_ge_f c24; have t_hs27 := hs27; have t_n0 : (nI i).toInt = (i : Int) := nI_toInt (by omega); have t_n1 : (nI k).toInt = (k : Int) := nI_toInt (by omega); have t_n2 : (nI j1).toInt = (j1 : Int) := nI_toInt (by omega); omega) (by decide)) dX0_weigh_104 (fun H locs hP hD hS => ?_)
          rw [nI_clamp (by have t_hj6 := hj6; have t_hlo_j1 := hlo_j1; have t_n9 := n9; have t_hs12 := hs12; have t_hs17 := hs17; have t_hs20 := hs20; have t_c24 := lcm_ge_f c24; have t_hs27 := hs27; have t_n0 : (nI i).toInt = (i : Int) := nI_toInt (by omega); have t_n1 : (nI k).toInt = (k : Int) := nI_toInt (by omega); have t_n2 : (nI j1).toInt = (j1 : Int) := nI_toInt (by omega); omega)] at hP hD
          have hP : va_P (dC, dI) vwCl ([(h0, .inr (0, [.long w0, .ref wk, .ref cs])), (wk, .inl (G 5, 11, .inr (.inr (.inr (.inr (fun i => if i < 11 then some (rw i) else none)))))), (cs, .inl (G 4, 10, .inr (.inr (.inr (.inr (fun i => if i < 10 then some (rq i) else none))))))] ++ (((List.range 11).map (fun i => (rw i, .inl (G 1, 70, .inr (.inl ((va_up g2 i (vp_updL (g2 i) (slotF g j1) (((g2 (i + 1) (slotF (nI k) (j1 - 1))) * x1.toInt64) + ((g2 (i + 1) (slotF (nI k) (min 9 (j1 + 1)))) * ((20 - x1).toInt64))))) i)))))) ++ (((List.range 10).map (fun i => (rq i, .inl (G 0, 70, .inl (g3 i))))) ++ []))) H := hP
          have hD : va_D A ([(h0, .inr (0, [.long w0, .ref wk, .ref cs])), (wk, .inl (G 5, 11, .inr (.inr (.inr (.inr (fun i => if i < 11 then some (rw i) else none)))))), (cs, .inl (G 4, 10, .inr (.inr (.inr (.inr (fun i => if i < 10 then some (rq i) else none))))))] ++ (((List.range 11).map (fun i => (rw i, .inl (G 1, 70, .inr (.inl ((va_up g2 i (vp_updL (g2 i) (slotF g j1) (((g2 (i + 1) (slotF (nI k) (j1 - 1))) * x1.toInt64) + ((g2 (i + 1) (slotF (nI k) (min 9 (j1 + 1)))) * ((20 - x1).toInt64))))) i)))))) ++ (((List.range 10).map (fun i => (rq i, .inl (G 0, 70, .inl (g3 i))))) ++ []))) := hD
          refine lv_aload_n hx hb dX0_weigh_105 rfl (lv_at hl 4 rfl) ?_
          refine va_get (D := (dC, dI)) (ci := 0) (v := .ref cs) (C := RX0) (T := TX0) (N := 3) hx hb hg inG0 hown hK.1 hP 0 rfl rfl 2 (by decide) (hg _ wt_183) (fun _ h9 => h9) rfl dX0_weigh_106 ?_
          refine lv_iload_n hx hb dX0_weigh_109 rfl (lv_at hl 5 rfl) ?_
          refine va_aldA hx hb hK.1 hP 2 4 rfl rfl (vp_in_nI (by have t_hj6 := hj6; have t_hlo_j1 := hlo_j1; have t_n9 := n9; have t_hs12 := hs12; have t_hs17 := hs17; have t_hs20 := hs20; have t_c24 := lcm_ge_f c24; have t_hs27 := hs27; have t_n0 : (nI i).toInt = (i : Int) := nI_toInt (by omega); have t_n1 : (nI k).toInt = (k : Int) := nI_toInt (by omega); have t_n2 : (nI j1).toInt = (j1 : Int) := nI_toInt (by omega); omega) (by decide)) dX0_weigh_110 ?_
          refine lv_cgv (y := .ref (rq i)) (rowref (by have t_hj6 := hj6; have t_hlo_j1 := hlo_j1; have t_n9 := n9; have t_hs12 := hs12; have t_hs17 := hs17; have t_hs20 := hs20; have t_c24 := lcm_ge_f c24; have t_hs27 := hs27; have t_n0 : (nI i).toInt = (i : Int) := nI_toInt (by omega); have t_n1 : (nI k).toInt = (k : Int) := nI_toInt (by omega); have t_n2 : (nI j1).toInt = (j1 : Int) := nI_toInt (by omega); omega) (by decide)) ?_
          refine lv_iload_n hx hb dX0_weigh_111 rfl (lv_at hl 6 rfl) ?_
          refine lv_iload hx hb dX0_weigh_112 (lv_at hl 3 rfl) ?_
          have hPc := hP.sub (ws' := []) [] rfl
          refine va_calli (va_runS (As := [.int g, .int (nI j1)]) (rest := [.ref (rq i)]) ⟨hx, hb, hml, hown, hg⟩ (c_X0_slot l dC dI G _ j1 g (by have t_hj6 := hj6; have t_hlo_j1 := hlo_j1; have t_n9 := n9; have t_hs12 := hs12; have t_hs17 := hs17; have t_hs20 := hs20; have t_c24 := lcm_ge_f c24; have t_hs27 := hs27; have t_n0 : (nI i).toInt = (i : Int) := nI_toInt (by omega); have t_n1 : (nI k).toInt = (k : Int) := nI_toInt (by omega); have t_n2 : (nI j1).toInt = (j1 : Int) := nI_toInt (by omega); have t_n0 : (nI i).toInt = (i : Int) := nI_toInt (by omega); have t_n1 : (nI k).toInt = (k : Int) := nI_toInt (by omega); have t_n2 : (nI j1).toInt = (j1 : Int) := nI_toInt (by omega); omega) (by have t_hj6 := hj6; have t_hlo_j1 := hlo_j1; have t_n9 := n9; have t_hs12 := hs12; have t_hs17 := hs17; have t_hs20 := hs20; have t_c24 := lcm_ge_f c24; have t_hs27 := hs27; have t_n0 : (nI i).toInt = (i : Int) := nI_toInt (by omega); have t_n1 : (nI k).toInt = (k : Int) := nI_toInt (by omega); have t_n2 : (nI j1).toInt = (j1 : Int) := nI_toInt (by omega); have t_n0 : (nI i).toInt = (i : Int) := nI_toInt (by omega); have t_n1 : (nI k).toInt = (k : Int) := nI_toInt (by omega); have t_n2 : (nI j1).toInt = (j1 : Int) := nI_toInt (by omega); omega)) (kwS hg mfX0_slot wt_666 ⟨Nat.le_of_ble_eq_true rfl, Nat.le_of_ble_eq_true rfl⟩) (preSR hK hPc) rfl rfl hl.1 rfl (lv_room (Nat.le_of_ble_eq_true rfl)) dX0_weigh_114 ⟨Nat.le_of_ble_eq_true rfl, Nat.le_of_ble_eq_true rfl⟩) hS (fun q h1 h2 => absurd h2 (Nat.not_le.mpr h1)) (fun q h => hA q (Nat.le_trans hS.1 h)) (fun r28 ur28 t H1 locs ht hvm w29 hB hz1 hk1 hS => ?_)
          have hP := keepR hP hk1
          obtain ⟨w29, w29x⟩ := w29
          have hs30 : slotF g j1 < 70 := slotF_lt (by have t_hj6 := hj6; have t_hlo_j1 := hlo_j1; have t_n9 := n9; have t_hs12 := hs12; have t_hs17 := hs17; have t_hs20 := hs20; have t_c24 := lcm_ge_f c24; have t_hs27 := hs27; have t_n0 : (nI i).toInt = (i : Int) := nI_toInt (by omega); have t_n1 : (nI k).toInt = (k : Int) := nI_toInt (by omega); have t_n2 : (nI j1).toInt = (j1 : Int) := nI_toInt (by omega); omega) (by have t_hj6 := hj6; have t_hlo_j1 := hlo_j1; have t_n9 := n9; have t_hs12 := hs12; have t_hs17 := hs17; have t_hs20 := hs20; have t_c24 := lcm_ge_f c24; have t_hs27 := hs27; have t_n0 : (nI i).toInt = (i : Int) := nI_toInt (by omega); have t_n1 : (nI k).toInt = (k : Int) := nI_toInt (by omega); have t_n2 : (nI j1).toInt = (j1 : Int) := nI_toInt (by omega); omega)
          subst w29
          refine lv_iload_n hx hb dX0_weigh_117 rfl (lv_at hl 7 rfl) ?_
          refine va_iastB2 (j := i) hx hb hK.1 hP hD hS 0 (by have t_hj6 := hj6; have t_hlo_j1 := hlo_j1; have t_n9 := n9; have t_hs12 := hs12; have t_hs17 := hs17; have t_hs20 := hs20; have t_c24 := lcm_ge_f c24; have t_hs27 := hs27; have t_hs30 := hs30; have t_n0 : (nI i).toInt = (i : Int) := nI_toInt (by omega); have t_n1 : (nI k).toInt = (k : Int) := nI_toInt (by omega); have t_n2 : (nI j1).toInt = (j1 : Int) := nI_toInt (by omega); omega) rfl (vp_in_nI (by have t_hj6 := hj6; have t_hlo_j1 := hlo_j1; have t_n9 := n9; have t_hs12 := hs12; have t_hs17 := hs17; have t_hs20 := hs20; have t_c24 := lcm_ge_f c24; have t_hs27 := hs27; have t_hs30 := hs30; have t_n0 : (nI i).toInt = (i : Int) := nI_toInt (by omega); have t_n1 : (nI k).toInt = (k : Int) := nI_toInt (by omega); have t_n2 : (nI j1).toInt = (j1 : Int) := nI_toInt (by omega); omega) (by decide)) dX0_weigh_118 (fun H locs hP hD hS => ?_)
          rw [nI_clamp (by have t_hj6 := hj6; have t_hlo_j1 := hlo_j1; have t_n9 := n9; have t_hs12 := hs12; have t_hs17 := hs17; have t_hs20 := hs20; have t_c24 := lcm_ge_f c24; have t_hs27 := hs27; have t_hs30 := hs30; have t_n0 : (nI i).toInt = (i : Int) := nI_toInt (by omega); have t_n1 : (nI k).toInt = (k : Int) := nI_toInt (by omega); have t_n2 : (nI j1).toInt = (j1 : Int) := nI_toInt (by omega); omega)] at hP hD
          have hP : va_P (dC, dI) vwCl ([(h0, .inr (0, [.long w0, .ref wk, .ref cs])), (wk, .inl (G 5, 11, .inr (.inr (.inr (.inr (fun i => if i < 11 then some (rw i) else none)))))), (cs, .inl (G 4, 10, .inr (.inr (.inr (.inr (fun i => if i < 10 then some (rq i) else none))))))] ++ (((List.range 11).map (fun i => (rw i, .inl (G 1, 70, .inr (.inl ((va_up g2 i (vp_updL (g2 i) (slotF g j1) (((g2 (i + 1) (slotF (nI k) (j1 - 1))) * x1.toInt64) + ((g2 (i + 1) (slotF (nI k) (min 9 (j1 + 1)))) * ((20 - x1).toInt64))))) i)))))) ++ (((List.range 10).map (fun i => (rq i, .inl (G 0, 70, .inl ((va_up g3 i (upd (g3 i) (slotF g j1) (nI k))) i))))) ++ []))) H := hP
          have hD : va_D A ([(h0, .inr (0, [.long w0, .ref wk, .ref cs])), (wk, .inl (G 5, 11, .inr (.inr (.inr (.inr (fun i => if i < 11 then some (rw i) else none)))))), (cs, .inl (G 4, 10, .inr (.inr (.inr (.inr (fun i => if i < 10 then some (rq i) else none))))))] ++ (((List.range 11).map (fun i => (rw i, .inl (G 1, 70, .inr (.inl ((va_up g2 i (vp_updL (g2 i) (slotF g j1) (((g2 (i + 1) (slotF (nI k) (j1 - 1))) * x1.toInt64) + ((g2 (i + 1) (slotF (nI k) (min 9 (j1 + 1)))) * ((20 - x1).toInt64))))) i)))))) ++ (((List.range 10).map (fun i => (rq i, .inl (G 0, 70, .inl ((va_up g3 i (upd (g3 i) (slotF g j1) (nI k))) i))))) ++ []))) := hD
          exact cut119_23 (va_up g2 i (vp_updL (g2 i) (slotF g j1) (((g2 (i + 1) (slotF (nI k) (j1 - 1))) * x1.toInt64) + ((g2 (i + 1) (slotF (nI k) (min 9 (j1 + 1)))) * ((20 - x1).toInt64))))) (va_up g3 i (upd (g3 i) (slotF g j1) (nI k))) _ _ hP hD hS ls (lv_sub hl [0, 1, 2, 3, 4, 5, 6, 7, 8] rfl)
  exact loop3_4 (10 + 1) 1 (by omega) (by omega) (by omega) F E _ _ hP hD hS ls (lv_sub hl [0, 1, 2, 3, 4, 5] rfl)
