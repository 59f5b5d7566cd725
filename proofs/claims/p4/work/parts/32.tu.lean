set_option maxHeartbeats 1000000 in
set_option maxRecDepth 100000 in
theorem c_X7_addBytesE (l : Launch) (dC : Nat → ClassId) (dI : Nat → Nat → Nat) (G : Nat → ClassId) (sz : Nat) (h0 ta T : Nat) (v : Int64) (f : Nat → Int32) (hT : T ≤ 320) : Met l yX7_addBytes (Cond.code yX7_addBytes cX7_addBytes 4 (some .boolean) :: GT) ({ frames := 0, cells := 0, slots := 0, locals := 0 } : Room) (PcW [.ref h0, .long v] dC dI G [(h0, .inr (7, [.int (nI T), .ref ta])), (ta, .inl (G 0, 320, .inl f))] sz) (va_Qi (fun (r : Int32) (u : Nat × (Nat → Int32)) => match u with | (u1, u2) => (r = if T + 8 ≤ 320 then 1 else 0) ∧ u1 = (if T + 8 ≤ 320 then T + 8 else T) ∧ u2 = (if T + 8 ≤ 320 then fdC f T v else f)) (fun (u : Nat × (Nat → Int32)) (t : State) => match u with | (u1, u2) => va_P (dC, dI) vwCl [(h0, .inr (7, [.int (nI u1), .ref ta])), (ta, .inl (G 0, 320, .inl u2))] t.heap ∧ va_D (va_A [(h0, .inr (7, [.int (nI T), .ref ta])), (ta, .inl (G 0, 320, .inl f))] sz) [(h0, .inr (7, [.int (nI u1), .ref ta])), (ta, .inl (G 0, 320, .inl u2))]) (va_A [(h0, .inr (7, [.int (nI T), .ref ta])), (ta, .inl (G 0, 320, .inl f))] sz)) 0 0 (va_A [(h0, .inr (7, [.int (nI T), .ref ta])), (ta, .inl (G 0, 320, .inl f))] sz) := by
  refine Met.ofW (cc := cX7_addBytes) (maxL := 4) (ret := (some .boolean)) (by decide) rfl ?_
  intro p e s m args below meth c s₁ Bd hml hv
  obtain ⟨rfl, hsz, hP, hK, hD0⟩ := hv
  have hx := Bd.exec
  have hb := Bd.bytes
  have hr := Bd.returns
  have hg : ∀ w ∈ GT, w.before ([.ref h0, .long v] : List Value).toArray s = true := fun w h => atoms_spec (ws := Cond.code yX7_addBytes cX7_addBytes 4 (some .boolean) :: GT) Bd.pre w (List.mem_cons_of_mem _ h)
  have hown : s.vm.findClass RX7 = some m.cls := findClass_of_methodNamed Bd.named
  have hlocks := Bd.notSynchronized
  subst hsz
  have hD := hD0.self (sz := s.heap.size)
  generalize hAe : va_A [(h0, .inr (7, [.int (nI T), .ref ta])), (ta, .inl (G 0, 320, .inl f))] s.heap.size = A at hD ⊢
  have hA : ∀ q : Nat, s.heap.size ≤ q → A q := fun q h => by rw [← hAe]; exact Or.inr h
  have hS : va_S A s.heap s.heap [] := va_S.rf
  have hl := lv_entry ([.ref h0, .long v]) (n := 4) (Nat.le_of_ble_eq_true rfl)
  rw [lg_entry_eq]
  generalize (lg_sl ([.ref h0, .long v]) ++ List.replicate (4 - (lg_sl ([.ref h0, .long v])).length) Slot.unset).toArray = ls at hl ⊢
  have hl : lv_has ls 4 [(0, .ref h0), (1, .long v)] := hl
  refine lv_aload_n hx hb dX7_addBytes_0 rfl (lv_at hl 0 rfl) ?_
  refine va_get (D := (dC, dI)) (ci := 7) (v := .int (nI T)) (C := RX7) (T := TX7) (N := 2) hx hb hg inG7 hown hK.1 hP 0 rfl rfl 0 (by decide) (hg _ wt_40) (fun _ h9 => h9) rfl dX7_addBytes_1 ?_
  refine lv_if_lt (tgt := 20) hx hb dX7_addBytes_4 (by decide) (fun c1 => ?_) (fun c1 => ?_)
  · skip
    have t_c1 := ltI c1
    have : (0 : Int32).toInt = 0 := (by decide)
    have t_n0 : (nI T).toInt = (T : Int) := nI_toInt (by omega)
    exfalso; omega
  · skip
    have n2 : 0 ≤ T := by have t := nltI c1; rw [nI_toInt (n := T) (by omega)] at t; have : (0 : Int32).toInt = 0 := (by decide); omega
    refine lv_aload_n hx hb dX7_addBytes_7 rfl (lv_at hl 0 rfl) ?_
    refine va_get (D := (dC, dI)) (ci := 7) (v := .int (nI T)) (C := RX7) (T := TX7) (N := 2) hx hb hg inG7 hown hK.1 hP 0 rfl rfl 0 (by decide) (hg _ wt_40) (fun _ h9 => h9) rfl dX7_addBytes_8 ?_
    refine lv_bipush (v := 8) hx hb dX7_addBytes_11 (by decide) ?_
    refine lv_iadd hx hb dX7_addBytes_13 ?_
    refine lv_cg (y := nI (T + 8)) (by rw [show (8 : Int32) = nI 8 from rfl]; exact nI_add _ _) ?_
    refine lv_sipush (v := 320) hx hb dX7_addBytes_14 (by decide) ?_
    refine lv_icmp_le (tgt := 22) hx hb dX7_addBytes_17 (by decide) (fun c3 => ?_) (fun c3 => ?_)
    · skip
      have n4 : (T + 8) ≤ 320 := by have t := leI c3; rw [nI_toInt (n := (T + 8)) (by omega)] at t; have : (320 : Int32).toInt = 320 := (by decide); omega
      refine lv_bipush (v := 56) hx hb dX7_addBytes_22 (by decide) ?_
      refine lv_istore_n (lv' := [(3, .int 56), (0, .ref h0), (1, .long v)]) hx hb dX7_addBytes_24 rfl hl (by decide) rfl (fun ls hl => ?_)
      refine lv_iload_n hx hb dX7_addBytes_25 rfl (lv_at hl 0 rfl) ?_
      refine lv_if_lt (tgt := 62) hx hb dX7_addBytes_26 (by decide) (fun c5 => ?_) (fun c5 => ?_)
      · skip
        exact absurd c5 (by decide)
      · skip
        refine lv_aload_n hx hb dX7_addBytes_29 rfl (lv_at hl 1 rfl) ?_
        refine va_get (D := (dC, dI)) (ci := 7) (v := .ref ta) (C := RX7) (T := TX7) (N := 2) hx hb hg inG7 hown hK.1 hP 0 rfl rfl 1 (by decide) (hg _ wt_43) (fun _ h9 => h9) rfl dX7_addBytes_30 ?_
        refine lv_aload_n hx hb dX7_addBytes_33 rfl (lv_at hl 1 rfl) ?_
        refine va_get (D := (dC, dI)) (ci := 7) (v := .int (nI T)) (C := RX7) (T := TX7) (N := 2) hx hb hg inG7 hown hK.1 hP 0 rfl rfl 0 (by decide) (hg _ wt_40) (fun _ h9 => h9) rfl dX7_addBytes_34 ?_
        refine lv_lload_n hx hb dX7_addBytes_37 rfl (lv_at hl 2 rfl) ?_
        refine lv_iload_n hx hb dX7_addBytes_38 rfl (lv_at hl 0 rfl) ?_
        refine lv_lushr (v := _) hx hb dX7_addBytes_39 rfl ?_
        refine lv_topl (fun v6 ev6 => ?_)
        refine lv_ldc2 (v := 255) hx hb hown (hg _ wt_353) dX7_addBytes_40 ?_
        refine lv_land hx hb dX7_addBytes_43 ?_
        refine lv_l2i (v := _) hx hb dX7_addBytes_44 rfl ?_
        refine lv_topi (fun v7 ev7 => ?_)
        refine va_iast hx hb hK.1 hP hD hS 1 0 rfl rfl (vp_in_nI (by have t_n2 := n2; have t_n4 := n4; have t_c5 := nltI c5; have : (0 : Int32).toInt = 0 := (by decide); have : (56 : Int32).toInt = 56 := (by decide); have t_n0 : (nI T).toInt = (T : Int) := nI_toInt (by omega); omega) (by decide)) dX7_addBytes_45 (fun H locs hP hD hS => ?_)
        rw [nI_clamp (by omega)] at hP hD
        have hP : va_P (dC, dI) vwCl [(h0, .inr (7, [.int (nI T), .ref ta])), (ta, .inl (G 0, 320, .inl (upd f T v7)))] H := hP
        have hD : va_D A [(h0, .inr (7, [.int (nI T), .ref ta])), (ta, .inl (G 0, 320, .inl (upd f T v7)))] := hD
        refine lv_aload_n hx hb dX7_addBytes_46 rfl (lv_at hl 1 rfl) ?_
        refine lv_dup hx hb dX7_addBytes_47 rfl ?_
        refine va_get (D := (dC, dI)) (ci := 7) (v := .int (nI T)) (C := RX7) (T := TX7) (N := 2) hx hb hg inG7 hown hK.1 hP 0 rfl rfl 0 (by decide) (hg _ wt_40) (fun _ h9 => h9) rfl dX7_addBytes_48 ?_
        refine lv_iconst (v := 1) hx hb dX7_addBytes_51 (by decide) ?_
        refine lv_iadd hx hb dX7_addBytes_52 ?_
        refine lv_cg (y := nI (T + 1)) (by rw [show (1 : Int32) = nI 1 from rfl]; exact nI_add _ _) ?_
        refine va_put (D := (dC, dI)) (ci := 7) (v := .int (nI (T + 1))) (ty := .int) (C := RX7) (T := TX7) (N := 2) hx hb hg inG7 tyX7 tyX7_ok nmX7 hown hK.1 hP hD hS 0 rfl rfl 0 (by decide) (hg _ wt_40) (fun _ h9 => h9) rfl (by decide +kernel) rfl rfl (Nat.le_of_ble_eq_true rfl) dX7_addBytes_53 (fun H locs hP hD hS => ?_)
        have hP : va_P (dC, dI) vwCl [(h0, .inr (7, [.int (nI (T + 1)), .ref ta])), (ta, .inl (G 0, 320, .inl (upd f T v7)))] H := hP
        have hD : va_D A [(h0, .inr (7, [.int (nI (T + 1)), .ref ta])), (ta, .inl (G 0, 320, .inl (upd f T v7)))] := hD
        refine lv_iinc (v := 48) (lv' := [(3, .int 48), (0, .ref h0), (1, .long v)]) hx hb dX7_addBytes_56 hl (k := 0) rfl (by decide) (by decide) rfl (fun ls hl => ?_)
        refine lv_goto (tgt := 25) hx hb dX7_addBytes_59 (by decide) ?_
        refine lv_iload_n hx hb dX7_addBytes_25 rfl (lv_at hl 0 rfl) ?_
        refine lv_if_lt (tgt := 62) hx hb dX7_addBytes_26 (by decide) (fun c8 => ?_) (fun c8 => ?_)
        · skip
          exact absurd c8 (by decide)
        · skip
          refine lv_aload_n hx hb dX7_addBytes_29 rfl (lv_at hl 1 rfl) ?_
          refine va_get (D := (dC, dI)) (ci := 7) (v := .ref ta) (C := RX7) (T := TX7) (N := 2) hx hb hg inG7 hown hK.1 hP 0 rfl rfl 1 (by decide) (hg _ wt_43) (fun _ h9 => h9) rfl dX7_addBytes_30 ?_
          refine lv_aload_n hx hb dX7_addBytes_33 rfl (lv_at hl 1 rfl) ?_
          refine va_get (D := (dC, dI)) (ci := 7) (v := .int (nI (T + 1))) (C := RX7) (T := TX7) (N := 2) hx hb hg inG7 hown hK.1 hP 0 rfl rfl 0 (by decide) (hg _ wt_40) (fun _ h9 => h9) rfl dX7_addBytes_34 ?_
          refine lv_lload_n hx hb dX7_addBytes_37 rfl (lv_at hl 2 rfl) ?_
          refine lv_iload_n hx hb dX7_addBytes_38 rfl (lv_at hl 0 rfl) ?_
          refine lv_lushr (v := _) hx hb dX7_addBytes_39 rfl ?_
          refine lv_topl (fun v9 ev9 => ?_)
          refine lv_ldc2 (v := 255) hx hb hown (hg _ wt_353) dX7_addBytes_40 ?_
          refine lv_land hx hb dX7_addBytes_43 ?_
          refine lv_l2i (v := _) hx hb dX7_addBytes_44 rfl ?_
          refine lv_topi (fun v10 ev10 => ?_)
          refine va_iast hx hb hK.1 hP hD hS 1 0 rfl rfl (vp_in_nI (by have t_n2 := n2; have t_n4 := n4; have t_c5 := nltI c5; have t_c8 := nltI c8; have : (0 : Int32).toInt = 0 := (by decide); have : (48 : Int32).toInt = 48 := (by decide); have : (56 : Int32).toInt = 56 := (by decide); have t_n0 : (nI T).toInt = (T : Int) := nI_toInt (by omega); omega) (by decide)) dX7_addBytes_45 (fun H locs hP hD hS => ?_)
          rw [nI_clamp (by omega)] at hP hD
          have hP : va_P (dC, dI) vwCl [(h0, .inr (7, [.int (nI (T + 1)), .ref ta])), (ta, .inl (G 0, 320, .inl (upd (upd f T v7) (T + 1) v10)))] H := hP
          have hD : va_D A [(h0, .inr (7, [.int (nI (T + 1)), .ref ta])), (ta, .inl (G 0, 320, .inl (upd (upd f T v7) (T + 1) v10)))] := hD
          refine lv_aload_n hx hb dX7_addBytes_46 rfl (lv_at hl 1 rfl) ?_
          refine lv_dup hx hb dX7_addBytes_47 rfl ?_
          refine va_get (D := (dC, dI)) (ci := 7) (v := .int (nI (T + 1))) (C := RX7) (T := TX7) (N := 2) hx hb hg inG7 hown hK.1 hP 0 rfl rfl 0 (by decide) (hg _ wt_40) (fun _ h9 => h9) rfl dX7_addBytes_48 ?_
          refine lv_iconst (v := 1) hx hb dX7_addBytes_51 (by decide) ?_
          refine lv_iadd hx hb dX7_addBytes_52 ?_
          refine lv_cg (y := nI ((T + 1) + 1)) (by rw [show (1 : Int32) = nI 1 from rfl]; exact nI_add _ _) ?_
          refine va_put (D := (dC, dI)) (ci := 7) (v := .int (nI ((T + 1) + 1))) (ty := .int) (C := RX7) (T := TX7) (N := 2) hx hb hg inG7 tyX7 tyX7_ok nmX7 hown hK.1 hP hD hS 0 rfl rfl 0 (by decide) (hg _ wt_40) (fun _ h9 => h9) rfl (by decide +kernel) rfl rfl (Nat.le_of_ble_eq_true rfl) dX7_addBytes_53 (fun H locs hP hD hS => ?_)
          have hP : va_P (dC, dI) vwCl [(h0, .inr (7, [.int (nI ((T + 1) + 1)), .ref ta])), (ta, .inl (G 0, 320, .inl (upd (upd f T v7) (T + 1) v10)))] H := hP
          have hD : va_D A [(h0, .inr (7, [.int (nI ((T + 1) + 1)), .ref ta])), (ta, .inl (G 0, 320, .inl (upd (upd f T v7) (T + 1) v10)))] := hD
          refine lv_iinc (v := 40) (lv' := [(3, .int 40), (0, .ref h0), (1, .long v)]) hx hb dX7_addBytes_56 hl (k := 0) rfl (by decide) (by decide) rfl (fun ls hl => ?_)
          refine lv_goto (tgt := 25) hx hb dX7_addBytes_59 (by decide) ?_
          refine lv_iload_n hx hb dX7_addBytes_25 rfl (lv_at hl 0 rfl) ?_
          refine lv_if_lt (tgt := 62) hx hb dX7_addBytes_26 (by decide) (fun c11 => ?_) (fun c11 => ?_)
          · skip
            exact absurd c11 (by decide)
          · skip
            refine lv_aload_n hx hb dX7_addBytes_29 rfl (lv_at hl 1 rfl) ?_
            refine va_get (D := (dC, dI)) (ci := 7) (v := .ref ta) (C := RX7) (T := TX7) (N := 2) hx hb hg inG7 hown hK.1 hP 0 rfl rfl 1 (by decide) (hg _ wt_43) (fun _ h9 => h9) rfl dX7_addBytes_30 ?_
            refine lv_aload_n hx hb dX7_addBytes_33 rfl (lv_at hl 1 rfl) ?_
            refine va_get (D := (dC, dI)) (ci := 7) (v := .int (nI ((T + 1) + 1))) (C := RX7) (T := TX7) (N := 2) hx hb hg inG7 hown hK.1 hP 0 rfl rfl 0 (by decide) (hg _ wt_40) (fun _ h9 => h9) rfl dX7_addBytes_34 ?_
            refine lv_lload_n hx hb dX7_addBytes_37 rfl (lv_at hl 2 rfl) ?_
            refine lv_iload_n hx hb dX7_addBytes_38 rfl (lv_at hl 0 rfl) ?_
            refine lv_lushr (v := _) hx hb dX7_addBytes_39 rfl ?_
            refine lv_topl (fun v12 ev12 => ?_)
            refine lv_ldc2 (v := 255) hx hb hown (hg _ wt_353) dX7_addBytes_40 ?_
            refine lv_land hx hb dX7_addBytes_43 ?_
            refine lv_l2i (v := _) hx hb dX7_addBytes_44 rfl ?_
            refine lv_topi (fun v13 ev13 => ?_)
            refine va_iast hx hb hK.1 hP hD hS 1 0 rfl rfl (vp_in_nI (by have t_n2 := n2; have t_n4 := n4; have t_c5 := nltI c5; have t_c8 := nltI c8; have t_c11 := nltI c11; have : (0 : Int32).toInt = 0 := (by decide); have : (40 : Int32).toInt = 40 := (by decide); have : (48 : Int32).toInt = 48 := (by decide); have : (56 : Int32).toInt = 56 := (by decide); have t_n0 : (nI T).toInt = (T : Int) := nI_toInt (by omega); omega) (by decide)) dX7_addBytes_45 (fun H locs hP hD hS => ?_)
            rw [nI_clamp (by omega)] at hP hD
            have hP : va_P (dC, dI) vwCl [(h0, .inr (7, [.int (nI ((T + 1) + 1)), .ref ta])), (ta, .inl (G 0, 320, .inl (upd (upd (upd f T v7) (T + 1) v10) ((T + 1) + 1) v13)))] H := hP
            have hD : va_D A [(h0, .inr (7, [.int (nI ((T + 1) + 1)), .ref ta])), (ta, .inl (G 0, 320, .inl (upd (upd (upd f T v7) (T + 1) v10) ((T + 1) + 1) v13)))] := hD
            refine lv_aload_n hx hb dX7_addBytes_46 rfl (lv_at hl 1 rfl) ?_
            refine lv_dup hx hb dX7_addBytes_47 rfl ?_
            refine va_get (D := (dC, dI)) (ci := 7) (v := .int (nI ((T + 1) + 1))) (C := RX7) (T := TX7) (N := 2) hx hb hg inG7 hown hK.1 hP 0 rfl rfl 0 (by decide) (hg _ wt_40) (fun _ h9 => h9) rfl dX7_addBytes_48 ?_
            refine lv_iconst (v := 1) hx hb dX7_addBytes_51 (by decide) ?_
            refine lv_iadd hx hb dX7_addBytes_52 ?_
            refine lv_cg (y := nI (((T + 1) + 1) + 1)) (by rw [show (1 : Int32) = nI 1 from rfl]; exact nI_add _ _) ?_
            refine va_put (D := (dC, dI)) (ci := 7) (v := .int (nI (((T + 1) + 1) + 1))) (ty := .int) (C := RX7) (T := TX7) (N := 2) hx hb hg inG7 tyX7 tyX7_ok nmX7 hown hK.1 hP hD hS 0 rfl rfl 0 (by decide) (hg _ wt_40) (fun _ h9 => h9) rfl (by decide +kernel) rfl rfl (Nat.le_of_ble_eq_true rfl) dX7_addBytes_53 (fun H locs hP hD hS => ?_)
            have hP : va_P (dC, dI) vwCl [(h0, .inr (7, [.int (nI (((T + 1) + 1) + 1)), .ref ta])), (ta, .inl (G 0, 320, .inl (upd (upd (upd f T v7) (T + 1) v10) ((T + 1) + 1) v13)))] H := hP
            have hD : va_D A [(h0, .inr (7, [.int (nI (((T + 1) + 1) + 1)), .ref ta])), (ta, .inl (G 0, 320, .inl (upd (upd (upd f T v7) (T + 1) v10) ((T + 1) + 1) v13)))] := hD
            refine lv_iinc (v := 32) (lv' := [(3, .int 32), (0, .ref h0), (1, .long v)]) hx hb dX7_addBytes_56 hl (k := 0) rfl (by decide) (by decide) rfl (fun ls hl => ?_)
            refine lv_goto (tgt := 25) hx hb dX7_addBytes_59 (by decide) ?_
            refine lv_iload_n hx hb dX7_addBytes_25 rfl (lv_at hl 0 rfl) ?_
            refine lv_if_lt (tgt := 62) hx hb dX7_addBytes_26 (by decide) (fun c14 => ?_) (fun c14 => ?_)
            · skip
              exact absurd c14 (by decide)
            · skip
              refine lv_aload_n hx hb dX7_addBytes_29 rfl (lv_at hl 1 rfl) ?_
              refine va_get (D := (dC, dI)) (ci := 7) (v := .ref ta) (C := RX7) (T := TX7) (N := 2) hx hb hg inG7 hown hK.1 hP 0 rfl rfl 1 (by decide) (hg _ wt_43) (fun _ h9 => h9) rfl dX7_addBytes_30 ?_
              refine lv_aload_n hx hb dX7_addBytes_33 rfl (lv_at hl 1 rfl) ?_
              refine va_get (D := (dC, dI)) (ci := 7) (v := .int (nI (((T + 1) + 1) + 1))) (C := RX7) (T := TX7) (N := 2) hx hb hg inG7 hown hK.1 hP 0 rfl rfl 0 (by decide) (hg _ wt_40) (fun _ h9 => h9) rfl dX7_addBytes_34 ?_
              refine lv_lload_n hx hb dX7_addBytes_37 rfl (lv_at hl 2 rfl) ?_
              refine lv_iload_n hx hb dX7_addBytes_38 rfl (lv_at hl 0 rfl) ?_
              refine lv_lushr (v := _) hx hb dX7_addBytes_39 rfl ?_
              refine lv_topl (fun v15 ev15 => ?_)
              refine lv_ldc2 (v := 255) hx hb hown (hg _ wt_353) dX7_addBytes_40 ?_
              refine lv_land hx hb dX7_addBytes_43 ?_
              refine lv_l2i (v := _) hx hb dX7_addBytes_44 rfl ?_
              refine lv_topi (fun v16 ev16 => ?_)
              refine va_iast hx hb hK.1 hP hD hS 1 0 rfl rfl (vp_in_nI (by have t_n2 := n2; have t_n4 := n4; have t_c5 := nltI c5; have t_c8 := nltI c8; have t_c11 := nltI c11; have t_c14 := nltI c14; have : (0 : Int32).toInt = 0 := (by decide); have : (32 : Int32).toInt = 32 := (by decide); have : (40 : Int32).toInt = 40 := (by decide); have : (48 : Int32).toInt = 48 := (by decide); have : (56 : Int32).toInt = 56 := (by decide); have t_n0 : (nI T).toInt = (T : Int) := nI_toInt (by omega); omega) (by decide)) dX7_addBytes_45 (fun H locs hP hD hS => ?_)
              rw [nI_clamp (by omega)] at hP hD
              have hP : va_P (dC, dI) vwCl [(h0, .inr (7, [.int (nI (((T + 1) + 1) + 1)), .ref ta])), (ta, .inl (G 0, 320, .inl (upd (upd (upd (upd f T v7) (T + 1) v10) ((T + 1) + 1) v13) (((T + 1) + 1) + 1) v16)))] H := hP
              have hD : va_D A [(h0, .inr (7, [.int (nI (((T + 1) + 1) + 1)), .ref ta])), (ta, .inl (G 0, 320, .inl (upd (upd (upd (upd f T v7) (T + 1) v10) ((T + 1) + 1) v13) (((T + 1) + 1) + 1) v16)))] := hD
              refine lv_aload_n hx hb dX7_addBytes_46 rfl (lv_at hl 1 rfl) ?_
              refine lv_dup hx hb dX7_addBytes_47 rfl ?_
              refine va_get (D := (dC, dI)) (ci := 7) (v := .int (nI (((T + 1) + 1) + 1))) (C := RX7) (T := TX7) (N := 2) hx hb hg inG7 hown hK.1 hP 0 rfl rfl 0 (by decide) (hg _ wt_40) (fun _ h9 => h9) rfl dX7_addBytes_48 ?_
              refine lv_iconst (v := 1) hx hb dX7_addBytes_51 (by decide) ?_
              refine lv_iadd hx hb dX7_addBytes_52 ?_
              refine lv_cg (y := nI ((((T + 1) + 1) + 1) + 1)) (by rw [show (1 : Int32) = nI 1 from rfl]; exact nI_add _ _) ?_
              refine va_put (D := (dC, dI)) (ci := 7) (v := .int (nI ((((T + 1) + 1) + 1) + 1))) (ty := .int) (C := RX7) (T := TX7) (N := 2) hx hb hg inG7 tyX7 tyX7_ok nmX7 hown hK.1 hP hD hS 0 rfl rfl 0 (by decide) (hg _ wt_40) (fun _ h9 => h9) rfl (by decide +kernel) rfl rfl (Nat.le_of_ble_eq_true rfl) dX7_addBytes_53 (fun H locs hP hD hS => ?_)
              have hP : va_P (dC, dI) vwCl [(h0, .inr (7, [.int (nI ((((T + 1) + 1) + 1) + 1)), .ref ta])), (ta, .inl (G 0, 320, .inl (upd (upd (upd (upd f T v7) (T + 1) v10) ((T + 1) + 1) v13) (((T + 1) + 1) + 1) v16)))] H := hP
              have hD : va_D A [(h0, .inr (7, [.int (nI ((((T + 1) + 1) + 1) + 1)), .ref ta])), (ta, .inl (G 0, 320, .inl (upd (upd (upd (upd f T v7) (T + 1) v10) ((T + 1) + 1) v13) (((T + 1) + 1) + 1) v16)))] := hD
              refine lv_iinc (v := 24) (lv' := [(3, .int 24), (0, .ref h0), (1, .long v)]) hx hb dX7_addBytes_56 hl (k := 0) rfl (by decide) (by decide) rfl (fun ls hl => ?_)
              refine lv_goto (tgt := 25) hx hb dX7_addBytes_59 (by decide) ?_
              refine lv_iload_n hx hb dX7_addBytes_25 rfl (lv_at hl 0 rfl) ?_
              refine lv_if_lt (tgt := 62) hx hb dX7_addBytes_26 (by decide) (fun c17 => ?_) (fun c17 => ?_)
              · skip
                exact absurd c17 (by decide)
              · skip
                refine lv_aload_n hx hb dX7_addBytes_29 rfl (lv_at hl 1 rfl) ?_
                refine va_get (D := (dC, dI)) (ci := 7) (v := .ref ta) (C := RX7) (T := TX7) (N := 2) hx hb hg inG7 hown hK.1 hP 0 rfl rfl 1 (by decide) (hg _ wt_43) (fun _ h9 => h9) rfl dX7_addBytes_30 ?_
                refine lv_aload_n hx hb dX7_addBytes_33 rfl (lv_at hl 1 rfl) ?_
                refine va_get (D := (dC, dI)) (ci := 7) (v := .int (nI ((((T + 1) + 1) + 1) + 1))) (C := RX7) (T := TX7) (N := 2) hx hb hg inG7 hown hK.1 hP 0 rfl rfl 0 (by decide) (hg _ wt_40) (fun _ h9 => h9) rfl dX7_addBytes_34 ?_
                refine lv_lload_n hx hb dX7_addBytes_37 rfl (lv_at hl 2 rfl) ?_
                refine lv_iload_n hx hb dX7_addBytes_38 rfl (lv_at hl 0 rfl) ?_
                refine lv_lushr (v := _) hx hb dX7_addBytes_39 rfl ?_
                refine lv_topl (fun v18 ev18 => ?_)
                refine lv_ldc2 (v := 255) hx hb hown (hg _ wt_353) dX7_addBytes_40 ?_
                refine lv_land hx hb dX7_addBytes_43 ?_
                refine lv_l2i (v := _) hx hb dX7_addBytes_44 rfl ?_
                refine lv_topi (fun v19 ev19 => ?_)
                refine va_iast hx hb hK.1 hP hD hS 1 0 rfl rfl (vp_in_nI (by have t_n2 := n2; have t_n4 := n4; have t_c5 := nltI c5; have t_c8 := nltI c8; have t_c11 := nltI c11; have t_c14 := nltI c14; have t_c17 := nltI c17; have : (0 : Int32).toInt = 0 := (by decide); have : (24 : Int32).toInt = 24 := (by decide); have : (32 : Int32).toInt = 32 := (by decide); have : (40 : Int32).toInt = 40 := (by decide); have : (48 : Int32).toInt = 48 := (by decide); have : (56 : Int32).toInt = 56 := (by decide); have t_n0 : (nI T).toInt = (T : Int) := nI_toInt (by omega); omega) (by decide)) dX7_addBytes_45 (fun H locs hP hD hS => ?_)
                rw [nI_clamp (by omega)] at hP hD
                have hP : va_P (dC, dI) vwCl [(h0, .inr (7, [.int (nI ((((T + 1) + 1) + 1) + 1)), .ref ta])), (ta, .inl (G 0, 320, .inl (upd (upd (upd (upd (upd f T v7) (T + 1) v10) ((T + 1) + 1) v13) (((T + 1) + 1) + 1) v16) ((((T + 1) + 1) + 1) + 1) v19)))] H := hP
                have hD : va_D A [(h0, .inr (7, [.int (nI ((((T + 1) + 1) + 1) + 1)), .ref ta])), (ta, .inl (G 0, 320, .inl (upd (upd (upd (upd (upd f T v7) (T + 1) v10) ((T + 1) + 1) v13) (((T + 1) + 1) + 1) v16) ((((T + 1) + 1) + 1) + 1) v19)))] := hD
                refine lv_aload_n hx hb dX7_addBytes_46 rfl (lv_at hl 1 rfl) ?_
                refine lv_dup hx hb dX7_addBytes_47 rfl ?_
                refine va_get (D := (dC, dI)) (ci := 7) (v := .int (nI ((((T + 1) + 1) + 1) + 1))) (C := RX7) (T := TX7) (N := 2) hx hb hg inG7 hown hK.1 hP 0 rfl rfl 0 (by decide) (hg _ wt_40) (fun _ h9 => h9) rfl dX7_addBytes_48 ?_
                refine lv_iconst (v := 1) hx hb dX7_addBytes_51 (by decide) ?_
                refine lv_iadd hx hb dX7_addBytes_52 ?_
                refine lv_cg (y := nI (((((T + 1) + 1) + 1) + 1) + 1)) (by rw [show (1 : Int32) = nI 1 from rfl]; exact nI_add _ _) ?_
                refine va_put (D := (dC, dI)) (ci := 7) (v := .int (nI (((((T + 1) + 1) + 1) + 1) + 1))) (ty := .int) (C := RX7) (T := TX7) (N := 2) hx hb hg inG7 tyX7 tyX7_ok nmX7 hown hK.1 hP hD hS 0 rfl rfl 0 (by decide) (hg _ wt_40) (fun _ h9 => h9) rfl (by decide +kernel) rfl rfl (Nat.le_of_ble_eq_true rfl) dX7_addBytes_53 (fun H locs hP hD hS => ?_)
                have hP : va_P (dC, dI) vwCl [(h0, .inr (7, [.int (nI (((((T + 1) + 1) + 1) + 1) + 1)), .ref ta])), (ta, .inl (G 0, 320, .inl (upd (upd (upd (upd (upd f T v7) (T + 1) v10) ((T + 1) + 1) v13) (((T + 1) + 1) + 1) v16) ((((T + 1) + 1) + 1) + 1) v19)))] H := hP
                have hD : va_D A [(h0, .inr (7, [.int (nI (((((T + 1) + 1) + 1) + 1) + 1)), .ref ta])), (ta, .inl (G 0, 320, .inl (upd (upd (upd (upd (upd f T v7) (T + 1) v10) ((T + 1) + 1) v13) (((T + 1) + 1) + 1) v16) ((((T + 1) + 1) + 1) + 1) v19)))] := hD
                refine lv_iinc (v := 16) (lv' := [(3, .int 16), (0, .ref h0), (1, .long v)]) hx hb dX7_addBytes_56 hl (k := 0) rfl (by decide) (by decide) rfl (fun ls hl => ?_)
                refine lv_goto (tgt := 25) hx hb dX7_addBytes_59 (by decide) ?_
                refine lv_iload_n hx hb dX7_addBytes_25 rfl (lv_at hl 0 rfl) ?_
                refine lv_if_lt (tgt := 62) hx hb dX7_addBytes_26 (by decide) (fun c20 => ?_) (fun c20 => ?_)
                · skip
                  exact absurd c20 (by decide)
                · skip
                  refine lv_aload_n hx hb dX7_addBytes_29 rfl (lv_at hl 1 rfl) ?_
                  refine va_get (D := (dC, dI)) (ci := 7) (v := .ref ta) (C := RX7) (T := TX7) (N := 2) hx hb hg inG7 hown hK.1 hP 0 rfl rfl 1 (by decide) (hg _ wt_43) (fun _ h9 => h9) rfl dX7_addBytes_30 ?_
                  refine lv_aload_n hx hb dX7_addBytes_33 rfl (lv_at hl 1 rfl) ?_
                  refine va_get (D := (dC, dI)) (ci := 7) (v := .int (nI (((((T + 1) + 1) + 1) + 1) + 1))) (C := RX7) (T := TX7) (N := 2) hx hb hg inG7 hown hK.1 hP 0 rfl rfl 0 (by decide) (hg _ wt_40) (fun _ h9 => h9) rfl dX7_addBytes_34 ?_
                  refine lv_lload_n hx hb dX7_addBytes_37 rfl (lv_at hl 2 rfl) ?_
                  refine lv_iload_n hx hb dX7_addBytes_38 rfl (lv_at hl 0 rfl) ?_
                  refine lv_lushr (v := _) hx hb dX7_addBytes_39 rfl ?_
                  refine lv_topl (fun v21 ev21 => ?_)
                  refine lv_ldc2 (v := 255) hx hb hown (hg _ wt_353) dX7_addBytes_40 ?_
                  refine lv_land hx hb dX7_addBytes_43 ?_
                  refine lv_l2i (v := _) hx hb dX7_addBytes_44 rfl ?_
                  refine lv_topi (fun v22 ev22 => ?_)
                  refine va_iast hx hb hK.1 hP hD hS 1 0 rfl rfl (vp_in_nI (by have t_n2 := n2; have t_n4 := n4; have t_c5 := nltI c5; have t_c8 := nltI c8; have t_c11 := nltI c11; have t_c14 := nltI c14; have t_c17 := nltI c17; have t_c20 := nltI c20; have : (0 : Int32).toInt = 0 := (by decide); have : (16 : Int32).toInt = 16 := (by decide); have : (24 : Int32).toInt = 24 := (by decide); have : (32 : Int32).toInt = 32 := (by decide); have : (40 : Int32).toInt = 40 := (by decide); have : (48 : Int32).toInt = 48 := (by decide); have : (56 : Int32).toInt = 56 := (by decide); have t_n0 : (nI T).toInt = (T : Int) := nI_toInt (by omega); omega) (by decide)) dX7_addBytes_45 (fun H locs hP hD hS => ?_)
                  rw [nI_clamp (by omega)] at hP hD
                  have hP : va_P (dC, dI) vwCl [(h0, .inr (7, [.int (nI (((((T + 1) + 1) + 1) + 1) + 1)), .ref ta])), (ta, .inl (G 0, 320, .inl (upd (upd (upd (upd (upd (upd f T v7) (T + 1) v10) ((T + 1) + 1) v13) (((T + 1) + 1) + 1) v16) ((((T + 1) + 1) + 1) + 1) v19) (((((T + 1) + 1) + 1) + 1) + 1) v22)))] H := hP
                  have hD : va_D A [(h0, .inr (7, [.int (nI (((((T + 1) + 1) + 1) + 1) + 1)), .ref ta])), (ta, .inl (G 0, 320, .inl (upd (upd (upd (upd (upd (upd f T v7) (T + 1) v10) ((T + 1) + 1) v13) (((T + 1) + 1) + 1) v16) ((((T + 1) + 1) + 1) + 1) v19) (((((T + 1) + 1) + 1) + 1) + 1) v22)))] := hD
                  refine lv_aload_n hx hb dX7_addBytes_46 rfl (lv_at hl 1 rfl) ?_
                  refine lv_dup hx hb dX7_addBytes_47 rfl ?_
                  refine va_get (D := (dC, dI)) (ci := 7) (v := .int (nI (((((T + 1) + 1) + 1) + 1) + 1))) (C := RX7) (T := TX7) (N := 2) hx hb hg inG7 hown hK.1 hP 0 rfl rfl 0 (by decide) (hg _ wt_40) (fun _ h9 => h9) rfl dX7_addBytes_48 ?_
                  refine lv_iconst (v := 1) hx hb dX7_addBytes_51 (by decide) ?_
                  refine lv_iadd hx hb dX7_addBytes_52 ?_
                  refine lv_cg (y := nI ((((((T + 1) + 1) + 1) + 1) + 1) + 1)) (by rw [show (1 : Int32) = nI 1 from rfl]; exact nI_add _ _) ?_
                  refine va_put (D := (dC, dI)) (ci := 7) (v := .int (nI ((((((T + 1) + 1) + 1) + 1) + 1) + 1))) (ty := .int) (C := RX7) (T := TX7) (N := 2) hx hb hg inG7 tyX7 tyX7_ok nmX7 hown hK.1 hP hD hS 0 rfl rfl 0 (by decide) (hg _ wt_40) (fun _ h9 => h9) rfl (by decide +kernel) rfl rfl (Nat.le_of_ble_eq_true rfl) dX7_addBytes_53 (fun H locs hP hD hS => ?_)
                  have hP : va_P (dC, dI) vwCl [(h0, .inr (7, [.int (nI ((((((T + 1) + 1) + 1) + 1) + 1) + 1)), .ref ta])), (ta, .inl (G 0, 320, .inl (upd (upd (upd (upd (upd (upd f T v7) (T + 1) v10) ((T + 1) + 1) v13) (((T + 1) + 1) + 1) v16) ((((T + 1) + 1) + 1) + 1) v19) (((((T + 1) + 1) + 1) + 1) + 1) v22)))] H := hP
                  have hD : va_D A [(h0, .inr (7, [.int (nI ((((((T + 1) + 1) + 1) + 1) + 1) + 1)), .ref ta])), (ta, .inl (G 0, 320, .inl (upd (upd (upd (upd (upd (upd f T v7) (T + 1) v10) ((T + 1) + 1) v13) (((T + 1) + 1) + 1) v16) ((((T + 1) + 1) + 1) + 1) v19) (((((T + 1) + 1) + 1) + 1) + 1) v22)))] := hD
                  refine lv_iinc (v := 8) (lv' := [(3, .int 8), (0, .ref h0), (1, .long v)]) hx hb dX7_addBytes_56 hl (k := 0) rfl (by decide) (by decide) rfl (fun ls hl => ?_)
                  refine lv_goto (tgt := 25) hx hb dX7_addBytes_59 (by decide) ?_
                  refine lv_iload_n hx hb dX7_addBytes_25 rfl (lv_at hl 0 rfl) ?_
                  refine lv_if_lt (tgt := 62) hx hb dX7_addBytes_26 (by decide) (fun c23 => ?_) (fun c23 => ?_)
                  · skip
                    exact absurd c23 (by decide)
                  · skip
                    refine lv_aload_n hx hb dX7_addBytes_29 rfl (lv_at hl 1 rfl) ?_
                    refine va_get (D := (dC, dI)) (ci := 7) (v := .ref ta) (C := RX7) (T := TX7) (N := 2) hx hb hg inG7 hown hK.1 hP 0 rfl rfl 1 (by decide) (hg _ wt_43) (fun _ h9 => h9) rfl dX7_addBytes_30 ?_
                    refine lv_aload_n hx hb dX7_addBytes_33 rfl (lv_at hl 1 rfl) ?_
                    refine va_get (D := (dC, dI)) (ci := 7) (v := .int (nI ((((((T + 1) + 1) + 1) + 1) + 1) + 1))) (C := RX7) (T := TX7) (N := 2) hx hb hg inG7 hown hK.1 hP 0 rfl rfl 0 (by decide) (hg _ wt_40) (fun _ h9 => h9) rfl dX7_addBytes_34 ?_
                    refine lv_lload_n hx hb dX7_addBytes_37 rfl (lv_at hl 2 rfl) ?_
                    refine lv_iload_n hx hb dX7_addBytes_38 rfl (lv_at hl 0 rfl) ?_
                    refine lv_lushr (v := _) hx hb dX7_addBytes_39 rfl ?_
                    refine lv_topl (fun v24 ev24 => ?_)
                    refine lv_ldc2 (v := 255) hx hb hown (hg _ wt_353) dX7_addBytes_40 ?_
                    refine lv_land hx hb dX7_addBytes_43 ?_
                    refine lv_l2i (v := _) hx hb dX7_addBytes_44 rfl ?_
                    refine lv_topi (fun v25 ev25 => ?_)
                    refine va_iast hx hb hK.1 hP hD hS 1 0 rfl rfl (vp_in_nI (by have t_n2 := n2; have t_n4 := n4; have t_c5 := nltI c5; have t_c8 := nltI c8; have t_c11 := nltI c11; have t_c14 := nltI c14; have t_c17 := nltI c17; have t_c20 := nltI c20; have t_c23 := nltI c23; have : (0 : Int32).toInt = 0 := (by decide); have : (8 : Int32).toInt = 8 := (by decide); have : (16 : Int32).toInt = 16 := (by decide); have : (24 : Int32).toInt = 24 := (by decide); have : (32 : Int32).toInt = 32 := (by decide); have : (40 : Int32).toInt = 40 := (by decide); have : (48 : Int32).toInt = 48 := (by decide); have : (56 : Int32).toInt = 56 := (by decide); have t_n0 : (nI T).toInt = (T : Int) := nI_toInt (by omega); omega) (by decide)) dX7_addBytes_45 (fun H locs hP hD hS => ?_)
                    rw [nI_clamp (by omega)] at hP hD
                    have hP : va_P (dC, dI) vwCl [(h0, .inr (7, [.int (nI ((((((T + 1) + 1) + 1) + 1) + 1) + 1)), .ref ta])), (ta, .inl (G 0, 320, .inl (upd (upd (upd (upd (upd (upd (upd f T v7) (T + 1) v10) ((T + 1) + 1) v13) (((T + 1) + 1) + 1) v16) ((((T + 1) + 1) + 1) + 1) v19) (((((T + 1) + 1) + 1) + 1) + 1) v22) ((((((T + 1) + 1) + 1) + 1) + 1) + 1) v25)))] H := hP
                    have hD : va_D A [(h0, .inr (7, [.int (nI ((((((T + 1) + 1) + 1) + 1) + 1) + 1)), .ref ta])), (ta, .inl (G 0, 320, .inl (upd (upd (upd (upd (upd (upd (upd f T v7) (T + 1) v10) ((T + 1) + 1) v13) (((T + 1) + 1) + 1) v16) ((((T + 1) + 1) + 1) + 1) v19) (((((T + 1) + 1) + 1) + 1) + 1) v22) ((((((T + 1) + 1) + 1) + 1) + 1) + 1) v25)))] := hD
                    refine lv_aload_n hx hb dX7_addBytes_46 rfl (lv_at hl 1 rfl) ?_
                    refine lv_dup hx hb dX7_addBytes_47 rfl ?_
                    refine va_get (D := (dC, dI)) (ci := 7) (v := .int (nI ((((((T + 1) + 1) + 1) + 1) + 1) + 1))) (C := RX7) (T := TX7) (N := 2) hx hb hg inG7 hown hK.1 hP 0 rfl rfl 0 (by decide) (hg _ wt_40) (fun _ h9 => h9) rfl dX7_addBytes_48 ?_
                    refine lv_iconst (v := 1) hx hb dX7_addBytes_51 (by decide) ?_
                    refine lv_iadd hx hb dX7_addBytes_52 ?_
                    refine lv_cg (y := nI (((((((T + 1) + 1) + 1) + 1) + 1) + 1) + 1)) (by rw [show (1 : Int32) = nI 1 from rfl]; exact nI_add _ _) ?_
                    refine va_put (D := (dC, dI)) (ci := 7) (v := .int (nI (((((((T + 1) + 1) + 1) + 1) + 1) + 1) + 1))) (ty := .int) (C := RX7) (T := TX7) (N := 2) hx hb hg inG7 tyX7 tyX7_ok nmX7 hown hK.1 hP hD hS 0 rfl rfl 0 (by decide) (hg _ wt_40) (fun _ h9 => h9) rfl (by decide +kernel) rfl rfl (Nat.le_of_ble_eq_true rfl) dX7_addBytes_53 (fun H locs hP hD hS => ?_)
                    have hP : va_P (dC, dI) vwCl [(h0, .inr (7, [.int (nI (((((((T + 1) + 1) + 1) + 1) + 1) + 1) + 1)), .ref ta])), (ta, .inl (G 0, 320, .inl (upd (upd (upd (upd (upd (upd (upd f T v7) (T + 1) v10) ((T + 1) + 1) v13) (((T + 1) + 1) + 1) v16) ((((T + 1) + 1) + 1) + 1) v19) (((((T + 1) + 1) + 1) + 1) + 1) v22) ((((((T + 1) + 1) + 1) + 1) + 1) + 1) v25)))] H := hP
                    have hD : va_D A [(h0, .inr (7, [.int (nI (((((((T + 1) + 1) + 1) + 1) + 1) + 1) + 1)), .ref ta])), (ta, .inl (G 0, 320, .inl (upd (upd (upd (upd (upd (upd (upd f T v7) (T + 1) v10) ((T + 1) + 1) v13) (((T + 1) + 1) + 1) v16) ((((T + 1) + 1) + 1) + 1) v19) (((((T + 1) + 1) + 1) + 1) + 1) v22) ((((((T + 1) + 1) + 1) + 1) + 1) + 1) v25)))] := hD
                    refine lv_iinc (v := 0) (lv' := [(3, .int 0), (0, .ref h0), (1, .long v)]) hx hb dX7_addBytes_56 hl (k := 0) rfl (by decide) (by decide) rfl (fun ls hl => ?_)
                    refine lv_goto (tgt := 25) hx hb dX7_addBytes_59 (by decide) ?_
                    refine lv_iload_n hx hb dX7_addBytes_25 rfl (lv_at hl 0 rfl) ?_
                    refine lv_if_lt (tgt := 62) hx hb dX7_addBytes_26 (by decide) (fun c26 => ?_) (fun c26 => ?_)
                    · skip
                      exact absurd c26 (by decide)
                    · skip
                      refine lv_aload_n hx hb dX7_addBytes_29 rfl (lv_at hl 1 rfl) ?_
                      refine va_get (D := (dC, dI)) (ci := 7) (v := .ref ta) (C := RX7) (T := TX7) (N := 2) hx hb hg inG7 hown hK.1 hP 0 rfl rfl 1 (by decide) (hg _ wt_43) (fun _ h9 => h9) rfl dX7_addBytes_30 ?_
                      refine lv_aload_n hx hb dX7_addBytes_33 rfl (lv_at hl 1 rfl) ?_
                      refine va_get (D := (dC, dI)) (ci := 7) (v := .int (nI (((((((T + 1) + 1) + 1) + 1) + 1) + 1) + 1))) (C := RX7) (T := TX7) (N := 2) hx hb hg inG7 hown hK.1 hP 0 rfl rfl 0 (by decide) (hg _ wt_40) (fun _ h9 => h9) rfl dX7_addBytes_34 ?_
                      refine lv_lload_n hx hb dX7_addBytes_37 rfl (lv_at hl 2 rfl) ?_
                      refine lv_iload_n hx hb dX7_addBytes_38 rfl (lv_at hl 0 rfl) ?_
                      refine lv_lushr (v := _) hx hb dX7_addBytes_39 rfl ?_
                      refine lv_topl (fun v27 ev27 => ?_)
                      refine lv_ldc2 (v := 255) hx hb hown (hg _ wt_353) dX7_addBytes_40 ?_
                      refine lv_land hx hb dX7_addBytes_43 ?_
                      refine lv_l2i (v := _) hx hb dX7_addBytes_44 rfl ?_
                      refine lv_topi (fun v28 ev28 => ?_)
                      refine va_iast hx hb hK.1 hP hD hS 1 0 rfl rfl (vp_in_nI (by have t_n2 := n2; have t_n4 := n4; have t_c5 := nltI c5; have t_c8 := nltI c8; have t_c11 := nltI c11; have t_c14 := nltI c14; have t_c17 := nltI c17; have t_c20 := nltI c20; have t_c23 := nltI c23; have t_c26 := nltI c26; have : (0 : Int32).toInt = 0 := (by decide); have : (8 : Int32).toInt = 8 := (by decide); have : (16 : Int32).toInt = 16 := (by decide); have : (24 : Int32).toInt = 24 := (by decide); have : (32 : Int32).toInt = 32 := (by decide); have : (40 : Int32).toInt = 40 := (by decide); have : (48 : Int32).toInt = 48 := (by decide); have : (56 : Int32).toInt = 56 := (by decide); have t_n0 : (nI T).toInt = (T : Int) := nI_toInt (by omega); omega) (by decide)) dX7_addBytes_45 (fun H locs hP hD hS => ?_)
                      rw [nI_clamp (by omega)] at hP hD
                      have hP : va_P (dC, dI) vwCl [(h0, .inr (7, [.int (nI (((((((T + 1) + 1) + 1) + 1) + 1) + 1) + 1)), .ref ta])), (ta, .inl (G 0, 320, .inl (upd (upd (upd (upd (upd (upd (upd (upd f T v7) (T + 1) v10) ((T + 1) + 1) v13) (((T + 1) + 1) + 1) v16) ((((T + 1) + 1) + 1) + 1) v19) (((((T + 1) + 1) + 1) + 1) + 1) v22) ((((((T + 1) + 1) + 1) + 1) + 1) + 1) v25) (((((((T + 1) + 1) + 1) + 1) + 1) + 1) + 1) v28)))] H := hP
                      have hD : va_D A [(h0, .inr (7, [.int (nI (((((((T + 1) + 1) + 1) + 1) + 1) + 1) + 1)), .ref ta])), (ta, .inl (G 0, 320, .inl (upd (upd (upd (upd (upd (upd (upd (upd f T v7) (T + 1) v10) ((T + 1) + 1) v13) (((T + 1) + 1) + 1) v16) ((((T + 1) + 1) + 1) + 1) v19) (((((T + 1) + 1) + 1) + 1) + 1) v22) ((((((T + 1) + 1) + 1) + 1) + 1) + 1) v25) (((((((T + 1) + 1) + 1) + 1) + 1) + 1) + 1) v28)))] := hD
                      refine lv_aload_n hx hb dX7_addBytes_46 rfl (lv_at hl 1 rfl) ?_
                      refine lv_dup hx hb dX7_addBytes_47 rfl ?_
                      refine va_get (D := (dC, dI)) (ci := 7) (v := .int (nI (((((((T + 1) + 1) + 1) + 1) + 1) + 1) + 1))) (C := RX7) (T := TX7) (N := 2) hx hb hg inG7 hown hK.1 hP 0 rfl rfl 0 (by decide) (hg _ wt_40) (fun _ h9 => h9) rfl dX7_addBytes_48 ?_
                      refine lv_iconst (v := 1) hx hb dX7_addBytes_51 (by decide) ?_
                      refine lv_iadd hx hb dX7_addBytes_52 ?_
                      refine lv_cg (y := nI ((((((((T + 1) + 1) + 1) + 1) + 1) + 1) + 1) + 1)) (by rw [show (1 : Int32) = nI 1 from rfl]; exact nI_add _ _) ?_
                      refine va_put (D := (dC, dI)) (ci := 7) (v := .int (nI ((((((((T + 1) + 1) + 1) + 1) + 1) + 1) + 1) + 1))) (ty := .int) (C := RX7) (T := TX7) (N := 2) hx hb hg inG7 tyX7 tyX7_ok nmX7 hown hK.1 hP hD hS 0 rfl rfl 0 (by decide) (hg _ wt_40) (fun _ h9 => h9) rfl (by decide +kernel) rfl rfl (Nat.le_of_ble_eq_true rfl) dX7_addBytes_53 (fun H locs hP hD hS => ?_)
                      have hP : va_P (dC, dI) vwCl [(h0, .inr (7, [.int (nI ((((((((T + 1) + 1) + 1) + 1) + 1) + 1) + 1) + 1)), .ref ta])), (ta, .inl (G 0, 320, .inl (upd (upd (upd (upd (upd (upd (upd (upd f T v7) (T + 1) v10) ((T + 1) + 1) v13) (((T + 1) + 1) + 1) v16) ((((T + 1) + 1) + 1) + 1) v19) (((((T + 1) + 1) + 1) + 1) + 1) v22) ((((((T + 1) + 1) + 1) + 1) + 1) + 1) v25) (((((((T + 1) + 1) + 1) + 1) + 1) + 1) + 1) v28)))] H := hP
                      have hD : va_D A [(h0, .inr (7, [.int (nI ((((((((T + 1) + 1) + 1) + 1) + 1) + 1) + 1) + 1)), .ref ta])), (ta, .inl (G 0, 320, .inl (upd (upd (upd (upd (upd (upd (upd (upd f T v7) (T + 1) v10) ((T + 1) + 1) v13) (((T + 1) + 1) + 1) v16) ((((T + 1) + 1) + 1) + 1) v19) (((((T + 1) + 1) + 1) + 1) + 1) v22) ((((((T + 1) + 1) + 1) + 1) + 1) + 1) v25) (((((((T + 1) + 1) + 1) + 1) + 1) + 1) + 1) v28)))] := hD
                      refine lv_iinc (v := (-8)) (lv' := [(3, .int (-8)), (0, .ref h0), (1, .long v)]) hx hb dX7_addBytes_56 hl (k := 0) rfl (by decide) (by decide) rfl (fun ls hl => ?_)
                      refine lv_goto (tgt := 25) hx hb dX7_addBytes_59 (by decide) ?_
                      refine lv_iload_n hx hb dX7_addBytes_25 rfl (lv_at hl 0 rfl) ?_
                      refine lv_if_lt (tgt := 62) hx hb dX7_addBytes_26 (by decide) (fun c29 => ?_) (fun c29 => ?_)
                      · skip
                        refine lv_iconst (v := 1) hx hb dX7_addBytes_62 (by decide) ?_
                        have hpost : (1 : Int32) = if T + 8 ≤ 320 then 1 else 0 := by
                          have t_n2 := n2
                          have t_n4 := n4
                          have t_c5 := nltI c5
                          have t_c8 := nltI c8
                          have t_c11 := nltI c11
                          have t_c14 := nltI c14
                          have t_c17 := nltI c17
                          have t_c20 := nltI c20
                          have t_c23 := nltI c23
                          have t_c26 := nltI c26
                          have t_c29 := ltI c29
                          have : ((-8) : Int32).toInt = -8 := (by decide)
                          have : (0 : Int32).toInt = 0 := (by decide)
                          have : (8 : Int32).toInt = 8 := (by decide)
                          have : (16 : Int32).toInt = 16 := (by decide)
                          have : (24 : Int32).toInt = 24 := (by decide)
                          have : (32 : Int32).toInt = 32 := (by decide)
                          have : (40 : Int32).toInt = 40 := (by decide)
                          have : (48 : Int32).toInt = 48 := (by decide)
                          have : (56 : Int32).toInt = 56 := (by decide)
                          have t_n0 : (nI T).toInt = (T : Int) := nI_toInt (by omega)
                          have t_n0 : (nI T).toInt = (T : Int) := nI_toInt (by omega)
                          first | rfl | ((repeat' split) <;> first | rfl | omega)
                        have hP9 := hP.sub (ws' := [(h0, .inr (7, [.int (nI ((((((((T + 1) + 1) + 1) + 1) + 1) + 1) + 1) + 1)), .ref ta])), (ta, .inl (G 0, 320, .inl (upd (upd (upd (upd (upd (upd (upd (upd f T v7) (T + 1) v10) ((T + 1) + 1) v13) (((T + 1) + 1) + 1) v16) ((((T + 1) + 1) + 1) + 1) v19) (((((T + 1) + 1) + 1) + 1) + 1) v22) ((((((T + 1) + 1) + 1) + 1) + 1) + 1) v25) (((((((T + 1) + 1) + 1) + 1) + 1) + 1) + 1) v28)))]) [0, 1] rfl
                        have hD9 := hD.sub (ws' := [(h0, .inr (7, [.int (nI ((((((((T + 1) + 1) + 1) + 1) + 1) + 1) + 1) + 1)), .ref ta])), (ta, .inl (G 0, 320, .inl (upd (upd (upd (upd (upd (upd (upd (upd f T v7) (T + 1) v10) ((T + 1) + 1) v13) (((T + 1) + 1) + 1) v16) ((((T + 1) + 1) + 1) + 1) v19) (((((T + 1) + 1) + 1) + 1) + 1) v22) ((((((T + 1) + 1) + 1) + 1) + 1) + 1) v25) (((((((T + 1) + 1) + 1) + 1) + 1) + 1) + 1) v28)))]) [0, 1] (by decide) rfl
                        refine W.widen (k := 0) (n := 0) (by omega) (by omega) ?_
                        exact W.zret (v := 1) hx hb hr (by first | rfl | decide | exact rfl) (fun t ht hW => ⟨⟨1, (((((((((T + 1) + 1) + 1) + 1) + 1) + 1) + 1) + 1), (upd (upd (upd (upd (upd (upd (upd (upd f T v7) (T + 1) v10) ((T + 1) + 1) v13) (((T + 1) + 1) + 1) v16) ((((T + 1) + 1) + 1) + 1) v19) (((((T + 1) + 1) + 1) + 1) + 1) v22) ((((((T + 1) + 1) + 1) + 1) + 1) + 1) v25) (((((((T + 1) + 1) + 1) + 1) + 1) + 1) + 1) v28)), rfl, ⟨hpost, (by have t_n2 := n2; have t_n4 := n4; have t_c5 := nltI c5; have t_c8 := nltI c8; have t_c11 := nltI c11; have t_c14 := nltI c14; have t_c17 := nltI c17; have t_c20 := nltI c20; have t_c23 := nltI c23; have t_c26 := nltI c26; have t_c29 := ltI c29; have : ((-8) : Int32).toInt = -8 := (by decide); have : (0 : Int32).toInt = 0 := (by decide); have : (8 : Int32).toInt = 8 := (by decide); have : (16 : Int32).toInt = 16 := (by decide); have : (24 : Int32).toInt = 24 := (by decide); have : (32 : Int32).toInt = 32 := (by decide); have : (40 : Int32).toInt = 40 := (by decide); have : (48 : Int32).toInt = 48 := (by decide); have : (56 : Int32).toInt = 56 := (by decide); have t_n0 : (nI T).toInt = (T : Int) := nI_toInt (by omega); refine ⟨(by split <;> omega), ?_⟩; rw [if_pos (by omega)]; (try rw [ev28]); (try rw [ev27]); (try rw [ev25]); (try rw [ev24]); (try rw [ev22]); (try rw [ev21]); (try rw [ev19]); (try rw [ev18]); (try rw [ev16]); (try rw [ev15]); (try rw [ev13]); (try rw [ev12]); (try rw [ev10]); (try rw [ev9]); (try rw [ev7]); (try rw [ev6]); rfl)⟩, ⟨by rw [ht]; exact hP9, hD9⟩⟩, hS.F ht⟩) hS.2.2 dX7_addBytes_63
                      · skip
                        exact absurd c29 (by decide)
    · skip
      have n30 : 320 < (T + 8) := by have t := nleI c3; rw [nI_toInt (n := (T + 8)) (by omega)] at t; have : (320 : Int32).toInt = 320 := (by decide); omega
      refine lv_iconst (v := 0) hx hb dX7_addBytes_20 (by decide) ?_
      have hpost : (0 : Int32) = if T + 8 ≤ 320 then 1 else 0 := by
        have t_n2 := n2
        have t_n30 := n30
        have t_n0 : (nI T).toInt = (T : Int) := nI_toInt (by omega)
        have t_n0 : (nI T).toInt = (T : Int) := nI_toInt (by omega)
        first | rfl | ((repeat' split) <;> first | rfl | omega)
      have hP9 := hP.sub (ws' := [(h0, .inr (7, [.int (nI T), .ref ta])), (ta, .inl (G 0, 320, .inl f))]) [0, 1] rfl
      have hD9 := hD.sub (ws' := [(h0, .inr (7, [.int (nI T), .ref ta])), (ta, .inl (G 0, 320, .inl f))]) [0, 1] (by decide) rfl
      refine W.widen (k := 0) (n := 0) (by omega) (by omega) ?_
      exact W.zret (v := 0) hx hb hr (by first | rfl | decide | exact rfl) (fun t ht hW => ⟨⟨0, (T, f), rfl, ⟨hpost, (by have t_n2 := n2; have t_n30 := n30; have t_n0 : (nI T).toInt = (T : Int) := nI_toInt (by omega); refine ⟨(by split <;> omega), ?_⟩; rw [if_neg (by omega)])⟩, ⟨by rw [ht]; exact hP9, hD9⟩⟩, hS.F ht⟩) hS.2.2 dX7_addBytes_21

set_option maxHeartbeats 1000000 in
set_option maxRecDepth 100000 in
theorem c_X10_feedE (l : Launch) (dC : Nat → ClassId) (dI : Nat → Nat → Nat) (G : Nat → ClassId) (sz : Nat) (h0 rd wy tr im kp od ch cr le mk tl sh tp td ta T : Nat) (tf rf dr0 dr1 dr2 dr3 dr4 dr5 dr6 dr7 dr8 dr9 : Int32) (v : Int64) (f : Nat → Int32) (hT : T ≤ 320) : Met l yX10_feed (Cond.code yX10_feed cX10_feed 3 (some .int) :: GT) ({ frames := 1, cells := 0, slots := 0, locals := 23 } : Room) (PcW [.ref h0, .long v] dC dI G [(h0, .inr (10, [.ref rd, .ref wy, .ref tr, .ref im, .ref kp, .ref od, .ref ch, .ref cr, .ref le, .ref mk, .ref tl, .ref sh, .int tf, .int rf])), (rd, .inr (5, [.ref tp, .ref td, .int dr0, .int dr1, .int dr2, .int dr3, .int dr4, .int dr5, .int dr6, .int dr7, .int dr8, .int dr9])), (tp, .inr (7, [.int (nI T), .ref ta])), (ta, .inl (G 0, 320, .inl f))] sz) (va_Qi (fun (r : Int32) (u : Nat × (Nat → Int32)) => match u with | (u1, u2) => (r = if T + 8 ≤ 320 then nI (T + 8) else -3) ∧ u1 = (if T + 8 ≤ 320 then T + 8 else T) ∧ u2 = (if T + 8 ≤ 320 then fdC f T v else f)) (fun (u : Nat × (Nat → Int32)) (t : State) => match u with | (u1, u2) => va_P (dC, dI) vwCl [(h0, .inr (10, [.ref rd, .ref wy, .ref tr, .ref im, .ref kp, .ref od, .ref ch, .ref cr, .ref le, .ref mk, .ref tl, .ref sh, .int tf, .int rf])), (rd, .inr (5, [.ref tp, .ref td, .int dr0, .int dr1, .int dr2, .int dr3, .int dr4, .int dr5, .int dr6, .int dr7, .int dr8, .int dr9])), (tp, .inr (7, [.int (nI u1), .ref ta])), (ta, .inl (G 0, 320, .inl u2))] t.heap ∧ va_D (va_A [(h0, .inr (10, [.ref rd, .ref wy, .ref tr, .ref im, .ref kp, .ref od, .ref ch, .ref cr, .ref le, .ref mk, .ref tl, .ref sh, .int tf, .int rf])), (rd, .inr (5, [.ref tp, .ref td, .int dr0, .int dr1, .int dr2, .int dr3, .int dr4, .int dr5, .int dr6, .int dr7, .int dr8, .int dr9])), (tp, .inr (7, [.int (nI T), .ref ta])), (ta, .inl (G 0, 320, .inl f))] sz) [(h0, .inr (10, [.ref rd, .ref wy, .ref tr, .ref im, .ref kp, .ref od, .ref ch, .ref cr, .ref le, .ref mk, .ref tl, .ref sh, .int tf, .int rf])), (rd, .inr (5, [.ref tp, .ref td, .int dr0, .int dr1, .int dr2, .int dr3, .int dr4, .int dr5, .int dr6, .int dr7, .int dr8, .int dr9])), (tp, .inr (7, [.int (nI u1), .ref ta])), (ta, .inl (G 0, 320, .inl u2))]) (va_A [(h0, .inr (10, [.ref rd, .ref wy, .ref tr, .ref im, .ref kp, .ref od, .ref ch, .ref cr, .ref le, .ref mk, .ref tl, .ref sh, .int tf, .int rf])), (rd, .inr (5, [.ref tp, .ref td, .int dr0, .int dr1, .int dr2, .int dr3, .int dr4, .int dr5, .int dr6, .int dr7, .int dr8, .int dr9])), (tp, .inr (7, [.int (nI T), .ref ta])), (ta, .inl (G 0, 320, .inl f))] sz)) 0 0 (va_A [(h0, .inr (10, [.ref rd, .ref wy, .ref tr, .ref im, .ref kp, .ref od, .ref ch, .ref cr, .ref le, .ref mk, .ref tl, .ref sh, .int tf, .int rf])), (rd, .inr (5, [.ref tp, .ref td, .int dr0, .int dr1, .int dr2, .int dr3, .int dr4, .int dr5, .int dr6, .int dr7, .int dr8, .int dr9])), (tp, .inr (7, [.int (nI T), .ref ta])), (ta, .inl (G 0, 320, .inl f))] sz) := by
  refine Met.ofW (cc := cX10_feed) (maxL := 3) (ret := (some .int)) (by decide) rfl ?_
  intro p e s m args below meth c s₁ Bd hml hv
  obtain ⟨rfl, hsz, hP, hK, hD0⟩ := hv
  have hx := Bd.exec
  have hb := Bd.bytes
  have hr := Bd.returns
  have hg : ∀ w ∈ GT, w.before ([.ref h0, .long v] : List Value).toArray s = true := fun w h => atoms_spec (ws := Cond.code yX10_feed cX10_feed 3 (some .int) :: GT) Bd.pre w (List.mem_cons_of_mem _ h)
  have hown : s.vm.findClass RX10 = some m.cls := findClass_of_methodNamed Bd.named
  have hlocks := Bd.notSynchronized
  subst hsz
  have hD := hD0.self (sz := s.heap.size)
  generalize hAe : va_A [(h0, .inr (10, [.ref rd, .ref wy, .ref tr, .ref im, .ref kp, .ref od, .ref ch, .ref cr, .ref le, .ref mk, .ref tl, .ref sh, .int tf, .int rf])), (rd, .inr (5, [.ref tp, .ref td, .int dr0, .int dr1, .int dr2, .int dr3, .int dr4, .int dr5, .int dr6, .int dr7, .int dr8, .int dr9])), (tp, .inr (7, [.int (nI T), .ref ta])), (ta, .inl (G 0, 320, .inl f))] s.heap.size = A at hD ⊢
  have hA : ∀ q : Nat, s.heap.size ≤ q → A q := fun q h => by rw [← hAe]; exact Or.inr h
  have hS : va_S A s.heap s.heap [] := va_S.rf
  have hl := lv_entry ([.ref h0, .long v]) (n := 3) (Nat.le_of_ble_eq_true rfl)
  rw [lg_entry_eq]
  generalize (lg_sl ([.ref h0, .long v]) ++ List.replicate (3 - (lg_sl ([.ref h0, .long v])).length) Slot.unset).toArray = ls at hl ⊢
  have hl : lv_has ls 3 [(0, .ref h0), (1, .long v)] := hl
  refine lv_aload_n hx hb dX10_feed_0 rfl (lv_at hl 0 rfl) ?_
  refine va_get (D := (dC, dI)) (ci := 10) (v := .ref rd) (C := RX10) (T := TX10) (N := 14) hx hb hg inG10 hown hK.1 hP 0 rfl rfl 0 (by decide) (hg _ wt_302) (fun _ h9 => h9) rfl dX10_feed_1 ?_
  refine va_getN (D := (dC, dI)) (ci := 5) (v := .ref tp) (C := RX5) (T := TX5) (N := 12) hx hb hg inG5 hown hK.1 hP 1 rfl rfl 0 (by decide) (hK.nest wn_106) (fun _ h9 => h9) rfl dX10_feed_4 ?_
  refine lv_lload_n hx hb dX10_feed_7 rfl (lv_at hl 1 rfl) ?_
  have hPc := hP.sub (ws' := [(tp, .inr (7, [.int (nI T), .ref ta])), (ta, .inl (G 0, 320, .inl f))]) [2, 3] rfl
  have hDc := hD.sub (ws' := [(tp, .inr (7, [.int (nI T), .ref ta])), (ta, .inl (G 0, 320, .inl f))]) [2, 3] (by decide) rfl
  have hFc := va_free (wc := [(tp, .inr (7, [.int (nI T), .ref ta])), (ta, .inl (G 0, 320, .inl f))]) hD hS hA [2, 3] rfl
  refine va_calli (va_runVN (As := [.long v]) (rest := []) ⟨hx, hb, hml, hown, hg⟩ (c_X7_addBytesE l dC dI G _ tp ta T v f (by have t_n0 : (nI T).toInt = (T : Int) := nI_toInt (by omega); omega)) (kwVN hg hK mfX7_addBytes wn_349 ⟨Nat.le_of_ble_eq_true rfl, Nat.le_of_ble_eq_true rfl⟩) (preVW hK hPc hDc (ci := 7) rfl rfl) rfl rfl hl.1 rfl (lv_room (Nat.le_of_ble_eq_true rfl)) dX10_feed_8 ⟨Nat.le_of_ble_eq_true rfl, Nat.le_of_ble_eq_true rfl⟩) hS (fun q _ h => hFc q h) hFc (fun r1 ur1 t H1 locs ht hvm w2 hB hz1 hk1 hS => ?_)
  obtain ⟨u3, u4⟩ := ur1
  obtain ⟨hP1, hD1⟩ := hB
  rw [ht] at hP1
  obtain ⟨hP, hD⟩ := va_join (wr := [(h0, .inr (10, [.ref rd, .ref wy, .ref tr, .ref im, .ref kp, .ref od, .ref ch, .ref cr, .ref le, .ref mk, .ref tl, .ref sh, .int tf, .int rf])), (rd, .inr (5, [.ref tp, .ref td, .int dr0, .int dr1, .int dr2, .int dr3, .int dr4, .int dr5, .int dr6, .int dr7, .int dr8, .int dr9]))]) (w1 := [(tp, .inr (7, [.int (nI u3), .ref ta])), (ta, .inl (G 0, 320, .inl u4))]) hP hD [2, 3] [0, 1] rfl rfl (by decide) (by decide) hk1 hFc hP1 hD1
  generalize H1 = H at hP hS ⊢
  have hP : va_P (dC, dI) vwCl [(h0, .inr (10, [.ref rd, .ref wy, .ref tr, .ref im, .ref kp, .ref od, .ref ch, .ref cr, .ref le, .ref mk, .ref tl, .ref sh, .int tf, .int rf])), (rd, .inr (5, [.ref tp, .ref td, .int dr0, .int dr1, .int dr2, .int dr3, .int dr4, .int dr5, .int dr6, .int dr7, .int dr8, .int dr9])), (tp, .inr (7, [.int (nI u3), .ref ta])), (ta, .inl (G 0, 320, .inl u4))] H := hP
  have hD : va_D A [(h0, .inr (10, [.ref rd, .ref wy, .ref tr, .ref im, .ref kp, .ref od, .ref ch, .ref cr, .ref le, .ref mk, .ref tl, .ref sh, .int tf, .int rf])), (rd, .inr (5, [.ref tp, .ref td, .int dr0, .int dr1, .int dr2, .int dr3, .int dr4, .int dr5, .int dr6, .int dr7, .int dr8, .int dr9])), (tp, .inr (7, [.int (nI u3), .ref ta])), (ta, .inl (G 0, 320, .inl u4))] := hD
  obtain ⟨w2, w2x⟩ := w2
  refine lv_if_eq (tgt := 27) hx hb dX10_feed_11 (by decide) (fun c5 => ?_) (fun c5 => ?_)
  · skip
    refine lv_bipush (v := (-3)) hx hb dX10_feed_27 (by decide) ?_
    have hpost : ((-3) : Int32) = if T + 8 ≤ 320 then nI (T + 8) else -3 := by
      have q8 := w2; have q9 := w2x.1
      split at q9 <;> rename_i h8
      · rw [if_pos h8]; rw [if_pos h8] at q8; first | (rw [q9]) | (exfalso; simp_all; done)
      · first | (rw [if_neg h8]; done) | (rw [if_neg h8]; rw [if_neg h8] at q8; first | rfl | (exfalso; simp_all; done))
    have hP9 := hP.sub (ws' := [(h0, .inr (10, [.ref rd, .ref wy, .ref tr, .ref im, .ref kp, .ref od, .ref ch, .ref cr, .ref le, .ref mk, .ref tl, .ref sh, .int tf, .int rf])), (rd, .inr (5, [.ref tp, .ref td, .int dr0, .int dr1, .int dr2, .int dr3, .int dr4, .int dr5, .int dr6, .int dr7, .int dr8, .int dr9])), (tp, .inr (7, [.int (nI u3), .ref ta])), (ta, .inl (G 0, 320, .inl u4))]) [0, 1, 2, 3] rfl
    have hD9 := hD.sub (ws' := [(h0, .inr (10, [.ref rd, .ref wy, .ref tr, .ref im, .ref kp, .ref od, .ref ch, .ref cr, .ref le, .ref mk, .ref tl, .ref sh, .int tf, .int rf])), (rd, .inr (5, [.ref tp, .ref td, .int dr0, .int dr1, .int dr2, .int dr3, .int dr4, .int dr5, .int dr6, .int dr7, .int dr8, .int dr9])), (tp, .inr (7, [.int (nI u3), .ref ta])), (ta, .inl (G 0, 320, .inl u4))]) [0, 1, 2, 3] (by decide) rfl
    refine W.widen (k := 0) (n := 0) (by omega) (by omega) ?_
    exact W.iret (v := (-3)) hx hb hr (fun t ht hW => ⟨⟨(-3), (u3, u4), rfl, ⟨hpost, (by exact w2x)⟩, ⟨by rw [ht]; exact hP9, hD9⟩⟩, hS.F ht⟩) hS.2.2 dX10_feed_29
  · skip
    refine lv_aload_n hx hb dX10_feed_14 rfl (lv_at hl 0 rfl) ?_
    refine va_get (D := (dC, dI)) (ci := 10) (v := .ref rd) (C := RX10) (T := TX10) (N := 14) hx hb hg inG10 hown hK.1 hP 0 rfl rfl 0 (by decide) (hg _ wt_302) (fun _ h9 => h9) rfl dX10_feed_15 ?_
    refine va_getN (D := (dC, dI)) (ci := 5) (v := .ref tp) (C := RX5) (T := TX5) (N := 12) hx hb hg inG5 hown hK.1 hP 1 rfl rfl 0 (by decide) (hK.nest wn_106) (fun _ h9 => h9) rfl dX10_feed_18 ?_
    refine va_getN (D := (dC, dI)) (ci := 7) (v := .int (nI u3)) (C := RX7) (T := TX7) (N := 2) hx hb hg inG7 hown hK.1 hP 2 rfl rfl 0 (by decide) (hK.nest wn_42) (fun _ h9 => h9) rfl dX10_feed_21 ?_
    refine lv_goto (tgt := 29) hx hb dX10_feed_24 (by decide) ?_
    have hpost : (nI u3 : Int32) = if T + 8 ≤ 320 then nI (T + 8) else -3 := by
      have q8 := w2; have q9 := w2x.1
      split at q9 <;> rename_i h8
      · rw [if_pos h8]; rw [if_pos h8] at q8; first | (rw [q9]) | (exfalso; simp_all; done)
      · first | (rw [if_neg h8]; done) | (rw [if_neg h8]; rw [if_neg h8] at q8; first | rfl | (exfalso; simp_all; done))
    have hP9 := hP.sub (ws' := [(h0, .inr (10, [.ref rd, .ref wy, .ref tr, .ref im, .ref kp, .ref od, .ref ch, .ref cr, .ref le, .ref mk, .ref tl, .ref sh, .int tf, .int rf])), (rd, .inr (5, [.ref tp, .ref td, .int dr0, .int dr1, .int dr2, .int dr3, .int dr4, .int dr5, .int dr6, .int dr7, .int dr8, .int dr9])), (tp, .inr (7, [.int (nI u3), .ref ta])), (ta, .inl (G 0, 320, .inl u4))]) [0, 1, 2, 3] rfl
    have hD9 := hD.sub (ws' := [(h0, .inr (10, [.ref rd, .ref wy, .ref tr, .ref im, .ref kp, .ref od, .ref ch, .ref cr, .ref le, .ref mk, .ref tl, .ref sh, .int tf, .int rf])), (rd, .inr (5, [.ref tp, .ref td, .int dr0, .int dr1, .int dr2, .int dr3, .int dr4, .int dr5, .int dr6, .int dr7, .int dr8, .int dr9])), (tp, .inr (7, [.int (nI u3), .ref ta])), (ta, .inl (G 0, 320, .inl u4))]) [0, 1, 2, 3] (by decide) rfl
    refine W.widen (k := 0) (n := 0) (by omega) (by omega) ?_
    exact W.iret (v := nI u3) hx hb hr (fun t ht hW => ⟨⟨nI u3, (u3, u4), rfl, ⟨hpost, (by exact w2x)⟩, ⟨by rw [ht]; exact hP9, hD9⟩⟩, hS.F ht⟩) hS.2.2 dX10_feed_29

set_option maxHeartbeats 1000000 in
set_option maxRecDepth 100000 in
theorem c_X10_faultE (l : Launch) (dC : Nat → ClassId) (dI : Nat → Nat → Nat) (G : Nat → ClassId) (sz : Nat) (h0 rd wy tr im kp od ch cr le mk tl sh : Nat) (tf rf : Int32)  : Met l yX10_fault (Cond.code yX10_fault cX10_fault 1 (some .int) :: GT) ({ frames := 0, cells := 0, slots := 0, locals := 0 } : Room) (PcR [.ref h0] dC dI G [(h0, .inr (10, [.ref rd, .ref wy, .ref tr, .ref im, .ref kp, .ref od, .ref ch, .ref cr, .ref le, .ref mk, .ref tl, .ref sh, .int tf, .int rf]))] sz) (va_Qi (fun (r : Int32) (u : Unit) => match u with | _ => (r = tf) ∧ True) (fun _ _ => True) (fun q : Nat => sz ≤ q)) 0 0 (fun q : Nat => sz ≤ q) := by
  refine Met.ofW (cc := cX10_fault) (maxL := 1) (ret := (some .int)) (by decide) rfl ?_
  intro p e s m args below meth c s₁ Bd hml hv
  obtain ⟨rfl, hsz, hP, hK⟩ := hv
  have hx := Bd.exec
  have hb := Bd.bytes
  have hr := Bd.returns
  have hg : ∀ w ∈ GT, w.before ([.ref h0] : List Value).toArray s = true := fun w h => atoms_spec (ws := Cond.code yX10_fault cX10_fault 1 (some .int) :: GT) Bd.pre w (List.mem_cons_of_mem _ h)
  have hown : s.vm.findClass RX10 = some m.cls := findClass_of_methodNamed Bd.named
  have hlocks := Bd.notSynchronized
  subst hsz
  have hA : ∀ q : Nat, s.heap.size ≤ q → (fun q : Nat => s.heap.size ≤ q) q := fun _ h => h
  have hS : va_S (fun q : Nat => s.heap.size ≤ q) s.heap s.heap [] := va_S.rf
  have hl := lv_entry ([.ref h0]) (n := 1) (Nat.le_of_ble_eq_true rfl)
  rw [lg_entry_eq]
  generalize (lg_sl ([.ref h0]) ++ List.replicate (1 - (lg_sl ([.ref h0])).length) Slot.unset).toArray = ls at hl ⊢
  have hl : lv_has ls 1 [(0, .ref h0)] := hl
  refine lv_aload_n hx hb dX10_fault_0 rfl (lv_at hl 0 rfl) ?_
  refine va_get (D := (dC, dI)) (ci := 10) (v := .int tf) (C := RX10) (T := TX10) (N := 14) hx hb hg inG10 hown hK.1 hP 0 rfl rfl 12 (by decide) (hg _ wt_314) (fun _ h9 => h9) rfl dX10_fault_1 ?_
  have hpost : (tf : Int32) = tf := by
    rfl
  refine W.widen (k := 0) (n := 0) (by omega) (by omega) ?_
  exact W.iret (v := tf) hx hb hr (fun t ht hW => ⟨⟨tf, (), rfl, ⟨hpost, trivial⟩, trivial⟩, hS.F ht⟩) hS.2.2 dX10_fault_4
