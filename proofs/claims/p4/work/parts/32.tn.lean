set_option maxHeartbeats 1000000 in
set_option maxRecDepth 100000 in
theorem c_X5_nextNumberE (l : Launch) (dC : Nat → ClassId) (dI : Nat → Nat → Nat) (G : Nat → ClassId) (sz : Nat) (h0 tp td ta T P : Nat) (x0 x1 x2 x3 x6 x7 x8 x9 x4 xlo xhi : Int32) (f : Nat → Int32) (hT : T ≤ 320) (hP0 : P ≤ T) : Met l yX5_nextNumber (Cond.code yX5_nextNumber cX5_nextNumber 4 (some .boolean) :: GT) ({ frames := 2, cells := 0, slots := 0, locals := 45 } : Room) (PcW [.ref h0, .int xlo, .int xhi] dC dI G [(h0, .inr (5, [.ref tp, .ref td, .int x0, .int x1, .int x2, .int x3, .int x4, .int (nI P), .int x6, .int x7, .int x8, .int x9])), (tp, .inr (7, [.int (nI T), .ref ta])), (ta, .inl (G 0, 320, .inl f))] sz) (va_Qi (fun (r : Int32) (u : Int32 × Int32 × Int32 × Nat × Nat) => match u with | (u0, u1, u3, u4, u5) => ((r = 0 ∨ (r = 1 ∧ xlo.toInt ≤ (valN f T u4 (u5 - u4)).toInt ∧ (valN f T u4 (u5 - u4)).toInt ≤ xhi.toInt)) ∧ r = (cNN f T xlo xhi x0 x1 x3 P).1) ∧ u4 ≤ u5 ∧ u5 ≤ T ∧ (u0, u1, u3, u4, u5) = (cNN f T xlo xhi x0 x1 x3 P).2) (fun (u : Int32 × Int32 × Int32 × Nat × Nat) (t : State) => match u with | (u0, u1, u3, u4, u5) => va_P (dC, dI) vwCl [(h0, .inr (5, [.ref tp, .ref td, .int u0, .int u1, .int x2, .int u3, .int (nI u4), .int (nI u5), .int x6, .int x7, .int x8, .int x9])), (tp, .inr (7, [.int (nI T), .ref ta])), (ta, .inl (G 0, 320, .inl f))] t.heap ∧ va_D (va_A [(h0, .inr (5, [.ref tp, .ref td, .int x0, .int x1, .int x2, .int x3, .int x4, .int (nI P), .int x6, .int x7, .int x8, .int x9])), (tp, .inr (7, [.int (nI T), .ref ta])), (ta, .inl (G 0, 320, .inl f))] sz) [(h0, .inr (5, [.ref tp, .ref td, .int u0, .int u1, .int x2, .int u3, .int (nI u4), .int (nI u5), .int x6, .int x7, .int x8, .int x9])), (tp, .inr (7, [.int (nI T), .ref ta])), (ta, .inl (G 0, 320, .inl f))]) (va_A [(h0, .inr (5, [.ref tp, .ref td, .int x0, .int x1, .int x2, .int x3, .int x4, .int (nI P), .int x6, .int x7, .int x8, .int x9])), (tp, .inr (7, [.int (nI T), .ref ta])), (ta, .inl (G 0, 320, .inl f))] sz)) 0 0 (va_A [(h0, .inr (5, [.ref tp, .ref td, .int x0, .int x1, .int x2, .int x3, .int x4, .int (nI P), .int x6, .int x7, .int x8, .int x9])), (tp, .inr (7, [.int (nI T), .ref ta])), (ta, .inl (G 0, 320, .inl f))] sz) := by
  refine Met.ofW (cc := cX5_nextNumber) (maxL := 4) (ret := (some .boolean)) (by decide) rfl ?_
  intro p e s m args below meth c s₁ Bd hml hv
  obtain ⟨rfl, hsz, hP, hK, hD0⟩ := hv
  have hx := Bd.exec
  have hb := Bd.bytes
  have hr := Bd.returns
  have hg : ∀ w ∈ GT, w.before ([.ref h0, .int xlo, .int xhi] : List Value).toArray s = true := fun w h => atoms_spec (ws := Cond.code yX5_nextNumber cX5_nextNumber 4 (some .boolean) :: GT) Bd.pre w (List.mem_cons_of_mem _ h)
  have hown : s.vm.findClass RX5 = some m.cls := findClass_of_methodNamed Bd.named
  have hlocks := Bd.notSynchronized
  subst hsz
  have hD := hD0.self (sz := s.heap.size)
  generalize hAe : va_A [(h0, .inr (5, [.ref tp, .ref td, .int x0, .int x1, .int x2, .int x3, .int x4, .int (nI P), .int x6, .int x7, .int x8, .int x9])), (tp, .inr (7, [.int (nI T), .ref ta])), (ta, .inl (G 0, 320, .inl f))] s.heap.size = A at hD ⊢
  have hA : ∀ q : Nat, s.heap.size ≤ q → A q := fun q h => by rw [← hAe]; exact Or.inr h
  have hS : va_S A s.heap s.heap [] := va_S.rf
  have hl := lv_entry ([.ref h0, .int xlo, .int xhi]) (n := 4) (Nat.le_of_ble_eq_true rfl)
  rw [lg_entry_eq]
  generalize (lg_sl ([.ref h0, .int xlo, .int xhi]) ++ List.replicate (4 - (lg_sl ([.ref h0, .int xlo, .int xhi])).length) Slot.unset).toArray = ls at hl ⊢
  have hl : lv_has ls 4 [(0, .ref h0), (1, .int xlo), (2, .int xhi)] := hl
  refine lv_aload_n hx hb dX5_nextNumber_0 rfl (lv_at hl 0 rfl) ?_
  have hPc := hP.sub (ws' := [(h0, .inr (5, [.ref tp, .ref td, .int x0, .int x1, .int x2, .int x3, .int x4, .int (nI P), .int x6, .int x7, .int x8, .int x9])), (tp, .inr (7, [.int (nI T), .ref ta])), (ta, .inl (G 0, 320, .inl f))]) [0, 1, 2] rfl
  have hDc := hD.sub (ws' := [(h0, .inr (5, [.ref tp, .ref td, .int x0, .int x1, .int x2, .int x3, .int x4, .int (nI P), .int x6, .int x7, .int x8, .int x9])), (tp, .inr (7, [.int (nI T), .ref ta])), (ta, .inl (G 0, 320, .inl f))]) [0, 1, 2] (by decide) rfl
  have hFc := va_free (wc := [(h0, .inr (5, [.ref tp, .ref td, .int x0, .int x1, .int x2, .int x3, .int x4, .int (nI P), .int x6, .int x7, .int x8, .int x9])), (tp, .inr (7, [.int (nI T), .ref ta])), (ta, .inl (G 0, 320, .inl f))]) hD hS hA [0, 1, 2] rfl
  refine va_calli (va_runV (As := []) (rest := []) ⟨hx, hb, hml, hown, hg⟩ (c_X5_nextTokenE l dC dI G _ h0 tp td ta T P x0 x1 x2 x3 x6 x7 x8 x9 x4 f (by have t_n0 : (nI P).toInt = (P : Int) := nI_toInt (by omega); have t_n1 : (nI T).toInt = (T : Int) := nI_toInt (by omega); omega) (by have t_n0 : (nI P).toInt = (P : Int) := nI_toInt (by omega); have t_n1 : (nI T).toInt = (T : Int) := nI_toInt (by omega); omega)) (kwV hg mfX5_nextToken wt_374 ⟨Nat.le_of_ble_eq_true rfl, Nat.le_of_ble_eq_true rfl⟩) (preVW hK hPc hDc (ci := 5) rfl rfl) rfl rfl hl.1 rfl (lv_room (Nat.le_of_ble_eq_true rfl)) dX5_nextNumber_1 ⟨Nat.le_of_ble_eq_true rfl, Nat.le_of_ble_eq_true rfl⟩) hS (fun q _ h => hFc q h) hFc (fun r1 ur1 t H1 locs ht hvm w2 hB hz1 hk1 hS => ?_)
  obtain ⟨u3, u4, u5, u6, u7⟩ := ur1
  obtain ⟨hP1, hD1⟩ := hB
  rw [ht] at hP1
  obtain ⟨hP, hD⟩ := va_join (wr := []) (w1 := [(h0, .inr (5, [.ref tp, .ref td, .int u3, .int u4, .int x2, .int u5, .int (nI u6), .int (nI u7), .int x6, .int x7, .int x8, .int x9])), (tp, .inr (7, [.int (nI T), .ref ta])), (ta, .inl (G 0, 320, .inl f))]) hP hD [0, 1, 2] [] rfl rfl (by decide) (by decide) hk1 hFc hP1 hD1
  generalize H1 = H at hP hS ⊢
  have hP : va_P (dC, dI) vwCl [(h0, .inr (5, [.ref tp, .ref td, .int u3, .int u4, .int x2, .int u5, .int (nI u6), .int (nI u7), .int x6, .int x7, .int x8, .int x9])), (tp, .inr (7, [.int (nI T), .ref ta])), (ta, .inl (G 0, 320, .inl f))] H := hP
  have hD : va_D A [(h0, .inr (5, [.ref tp, .ref td, .int u3, .int u4, .int x2, .int u5, .int (nI u6), .int (nI u7), .int x6, .int x7, .int x8, .int x9])), (tp, .inr (7, [.int (nI T), .ref ta])), (ta, .inl (G 0, 320, .inl f))] := hD
  obtain ⟨w2, w2x⟩ := w2
  have vw2 : ntG f T (pst f T 32 32 P) = r1 := w2.symm
  have ew2 : ntS1 f T (pst f T 32 32 P) x0 x1 x3 = (u3, u4, u5, u6, u7) := w2x.2.2.symm
  refine lv_if_ne (tgt := 9) hx hb dX5_nextNumber_4 (by decide) (fun c8 => ?_) (fun c8 => ?_)
  · skip
    refine lv_aload_n hx hb dX5_nextNumber_9 rfl (lv_at hl 0 rfl) ?_
    refine va_get (D := (dC, dI)) (ci := 5) (v := .int u5) (C := RX5) (T := TX5) (N := 12) hx hb hg inG5 hown hK.1 hP 0 rfl rfl 5 (by decide) (hg _ wt_115) (fun _ h9 => h9) rfl dX5_nextNumber_10 ?_
    refine lv_iconst (v := 2) hx hb dX5_nextNumber_13 (by decide) ?_
    refine lv_icmp_eq (tgt := 27) hx hb dX5_nextNumber_14 (by decide) (fun c9 => ?_) (fun c9 => ?_)
    · skip
      refine lv_aload_n hx hb dX5_nextNumber_27 rfl (lv_at hl 0 rfl) ?_
      have hPc := hP.sub (ws' := [(h0, .inr (5, [.ref tp, .ref td, .int u3, .int u4, .int x2, .int u5, .int (nI u6), .int (nI u7), .int x6, .int x7, .int x8, .int x9])), (tp, .inr (7, [.int (nI T), .ref ta])), (ta, .inl (G 0, 320, .inl f))]) [0, 1, 2] rfl
      refine va_calli (va_runV (As := []) (rest := []) ⟨hx, hb, hml, hown, hg⟩ (c_X5_value l dC dI G _ h0 tp td ta T u6 u7 u3 u4 x2 u5 x6 x7 x8 x9 f (by have t_c8 := neI c8; have t_c9 := eqI c9; have : (0 : Int32).toInt = 0 := (by decide); have : (2 : Int32).toInt = 2 := (by decide); have t_n0 : (nI P).toInt = (P : Int) := nI_toInt (by omega); have t_n1 : (nI T).toInt = (T : Int) := nI_toInt (by omega); omega) (by have t_c8 := neI c8; have t_c9 := eqI c9; have : (0 : Int32).toInt = 0 := (by decide); have : (2 : Int32).toInt = 2 := (by decide); have t_n0 : (nI P).toInt = (P : Int) := nI_toInt (by omega); have t_n1 : (nI T).toInt = (T : Int) := nI_toInt (by omega); omega) (by have t_c8 := neI c8; have t_c9 := eqI c9; have : (0 : Int32).toInt = 0 := (by decide); have : (2 : Int32).toInt = 2 := (by decide); have t_n0 : (nI P).toInt = (P : Int) := nI_toInt (by omega); have t_n1 : (nI T).toInt = (T : Int) := nI_toInt (by omega); omega)) (kwV hg mfX5_value wt_459 ⟨Nat.le_of_ble_eq_true rfl, Nat.le_of_ble_eq_true rfl⟩) (preVR hK hPc (ci := 5) rfl rfl) rfl rfl hl.1 rfl (lv_room (Nat.le_of_ble_eq_true rfl)) dX5_nextNumber_28 ⟨Nat.le_of_ble_eq_true rfl, Nat.le_of_ble_eq_true rfl⟩) hS (fun q h1 h2 => absurd h2 (Nat.not_le.mpr h1)) (fun q h => hA q (Nat.le_trans hS.1 h)) (fun r10 ur10 t H1 locs ht hvm w11 hB hz1 hk1 hS => ?_)
      have hP := keepR hP hk1
      obtain ⟨w11, w11x⟩ := w11
      subst w11
      refine lv_istore_n (lv' := [(3, .int (valN f T u6 (u7 - u6))), (0, .ref h0), (1, .int xlo), (2, .int xhi)]) hx hb dX5_nextNumber_31 rfl hl (by decide) rfl (fun ls hl => ?_)
      refine lv_iload_n hx hb dX5_nextNumber_32 rfl (lv_at hl 0 rfl) ?_
      refine lv_iload_n hx hb dX5_nextNumber_33 rfl (lv_at hl 2 rfl) ?_
      refine lv_icmp_lt (tgt := 42) hx hb dX5_nextNumber_34 (by decide) (fun c12 => ?_) (fun c12 => ?_)
      · skip
        refine lv_aload_n hx hb dX5_nextNumber_42 rfl (lv_at hl 1 rfl) ?_
        refine lv_iconst (v := 3) hx hb dX5_nextNumber_43 (by decide) ?_
        refine lv_aload_n hx hb dX5_nextNumber_44 rfl (lv_at hl 1 rfl) ?_
        refine va_get (D := (dC, dI)) (ci := 5) (v := .int (nI u6)) (C := RX5) (T := TX5) (N := 12) hx hb hg inG5 hown hK.1 hP 0 rfl rfl 6 (by decide) (hg _ wt_116) (fun _ h9 => h9) rfl dX5_nextNumber_45 ?_
        have hPc := hP.sub (ws' := [(h0, .inr (5, [.ref tp, .ref td, .int u3, .int u4, .int x2, .int u5, .int (nI u6), .int (nI u7), .int x6, .int x7, .int x8, .int x9]))]) [0] rfl
        have hDc := hD.sub (ws' := [(h0, .inr (5, [.ref tp, .ref td, .int u3, .int u4, .int x2, .int u5, .int (nI u6), .int (nI u7), .int x6, .int x7, .int x8, .int x9]))]) [0] (by decide) rfl
        have hFc := va_free (wc := [(h0, .inr (5, [.ref tp, .ref td, .int u3, .int u4, .int x2, .int u5, .int (nI u6), .int (nI u7), .int x6, .int x7, .int x8, .int x9]))]) hD hS hA [0] rfl
        refine va_calli (va_runV (As := [.int 3, .int (nI u6)]) (rest := []) ⟨hx, hb, hml, hown, hg⟩ (c_X5_refuseE l dC dI G _ h0 tp td u3 u4 x2 u5 (nI u6) (nI u7) x6 x7 x8 x9 3 (nI u6) ) (kwV hg mfX5_refuse wt_386 ⟨Nat.le_of_ble_eq_true rfl, Nat.le_of_ble_eq_true rfl⟩) (preVW hK hPc hDc (ci := 5) rfl rfl) rfl rfl hl.1 rfl (lv_room (Nat.le_of_ble_eq_true rfl)) dX5_nextNumber_48 ⟨Nat.le_of_ble_eq_true rfl, Nat.le_of_ble_eq_true rfl⟩) hS (fun q _ h => hFc q h) hFc (fun r13 ur13 t H1 locs ht hvm w14 hB hz1 hk1 hS => ?_)
        obtain ⟨u15, u16⟩ := ur13
        obtain ⟨hP1, hD1⟩ := hB
        rw [ht] at hP1
        obtain ⟨hP, hD⟩ := va_join (wr := [(tp, .inr (7, [.int (nI T), .ref ta])), (ta, .inl (G 0, 320, .inl f))]) (w1 := [(h0, .inr (5, [.ref tp, .ref td, .int u15, .int u16, .int x2, .int u5, .int (nI u6), .int (nI u7), .int x6, .int x7, .int x8, .int x9]))]) hP hD [0] [1, 2] rfl rfl (by decide) (by decide) hk1 hFc hP1 hD1
        generalize H1 = H at hP hS ⊢
        have hP : va_P (dC, dI) vwCl [(tp, .inr (7, [.int (nI T), .ref ta])), (ta, .inl (G 0, 320, .inl f)), (h0, .inr (5, [.ref tp, .ref td, .int u15, .int u16, .int x2, .int u5, .int (nI u6), .int (nI u7), .int x6, .int x7, .int x8, .int x9]))] H := hP
        have hD : va_D A [(tp, .inr (7, [.int (nI T), .ref ta])), (ta, .inl (G 0, 320, .inl f)), (h0, .inr (5, [.ref tp, .ref td, .int u15, .int u16, .int x2, .int u5, .int (nI u6), .int (nI u7), .int x6, .int x7, .int x8, .int x9]))] := hD
        obtain ⟨w14, w14x⟩ := w14
        subst w14
        have ew14 : cRF 3 (u3, u4, u5, u6, u7) = (u15, u16, u5, u6, u7) := (by show (flB _ _, flP _ _ _, _, _, _) = _; rw [← w14x.1, ← w14x.2])
        refine lv_if_eq (tgt := 58) hx hb dX5_nextNumber_51 (by decide) (fun c17 => ?_) (fun c17 => ?_)
        · skip
          refine lv_iconst (v := 0) hx hb dX5_nextNumber_58 (by decide) ?_
          have hpost : ((0 : Int32) = 0 ∨ ((0 : Int32) = 1 ∧ xlo.toInt ≤ (valN f T u6 (u7 - u6)).toInt ∧ (valN f T u6 (u7 - u6)).toInt ≤ xhi.toInt)) ∧ (0 : Int32) = (cNN f T xlo xhi x0 x1 x3 P).1 := by
            have t_c8 := neI c8
            have t_c9 := eqI c9
            have t_c12 := ltI c12
            have t_c17 := eqI c17
            have : (0 : Int32).toInt = 0 := (by decide)
            have : (2 : Int32).toInt = 2 := (by decide)
            have t_n0 : (nI P).toInt = (P : Int) := nI_toInt (by omega)
            have t_n1 : (nI T).toInt = (T : Int) := nI_toInt (by omega)
            have z0 : (0 : Int32).toInt = 0 := (by decide)
            have z1 : (1 : Int32).toInt = 1 := (by decide)
            have z2 : (2 : Int32).toInt = 2 := (by decide)
            have z3 : (3 : Int32).toInt = 3 := (by decide)
            have z5 : (5 : Int32).toInt = 5 := (by decide)
            have z9 : (9 : Int32).toInt = 9 := (by decide)
            refine ⟨Or.inl rfl, ?_⟩
            unfold cNN
            (try rw [vw2])
            (try rw [ew2])
            (try rw [ew14])
            (try (repeat (first | rw [if_pos (by assumption)] | rw [if_neg (by assumption)] | rw [if_pos (by omega)] | rw [if_neg (by omega)] | rw [if_pos (by decide)] | rw [if_neg (by decide)])))
            all_goals rfl
          have hP9 := hP.sub (ws' := [(h0, .inr (5, [.ref tp, .ref td, .int u15, .int u16, .int x2, .int u5, .int (nI u6), .int (nI u7), .int x6, .int x7, .int x8, .int x9])), (tp, .inr (7, [.int (nI T), .ref ta])), (ta, .inl (G 0, 320, .inl f))]) [2, 0, 1] rfl
          have hD9 := hD.sub (ws' := [(h0, .inr (5, [.ref tp, .ref td, .int u15, .int u16, .int x2, .int u5, .int (nI u6), .int (nI u7), .int x6, .int x7, .int x8, .int x9])), (tp, .inr (7, [.int (nI T), .ref ta])), (ta, .inl (G 0, 320, .inl f))]) [2, 0, 1] (by decide) rfl
          refine W.widen (k := 0) (n := 0) (by omega) (by omega) ?_
          exact W.zret (v := 0) hx hb hr (by first | rfl | decide | exact rfl) (fun t ht hW => ⟨⟨0, (u15, u16, u5, u6, u7), rfl, ⟨hpost, (by have t_c8 := neI c8; have t_c9 := eqI c9; have t_c12 := ltI c12; have t_c17 := eqI c17; have : (0 : Int32).toInt = 0 := (by decide); have : (2 : Int32).toInt = 2 := (by decide); have t_n0 : (nI P).toInt = (P : Int) := nI_toInt (by omega); have t_n1 : (nI T).toInt = (T : Int) := nI_toInt (by omega); have z0 : (0 : Int32).toInt = 0 := (by decide); have z1 : (1 : Int32).toInt = 1 := (by decide); have z2 : (2 : Int32).toInt = 2 := (by decide); have z3 : (3 : Int32).toInt = 3 := (by decide); have z5 : (5 : Int32).toInt = 5 := (by decide); have z9 : (9 : Int32).toInt = 9 := (by decide); refine ⟨by omega, by omega, ?_⟩; unfold cNN; (try rw [vw2]); (try rw [ew2]); (try rw [ew14]); (try (repeat (first | rw [if_pos (by assumption)] | rw [if_neg (by assumption)] | rw [if_pos (by omega)] | rw [if_neg (by omega)] | rw [if_pos (by decide)] | rw [if_neg (by decide)]))); all_goals rfl)⟩, ⟨by rw [ht]; exact hP9, hD9⟩⟩, hS.F ht⟩) hS.2.2 dX5_nextNumber_59
        · skip
          exact absurd c17 (by decide)
      · skip
        refine lv_iload_n hx hb dX5_nextNumber_37 rfl (lv_at hl 0 rfl) ?_
        refine lv_iload_n hx hb dX5_nextNumber_38 rfl (lv_at hl 3 rfl) ?_
        refine lv_icmp_le (tgt := 54) hx hb dX5_nextNumber_39 (by decide) (fun c18 => ?_) (fun c18 => ?_)
        · skip
          refine lv_iconst (v := 1) hx hb dX5_nextNumber_54 (by decide) ?_
          refine lv_goto (tgt := 59) hx hb dX5_nextNumber_55 (by decide) ?_
          have hpost : ((1 : Int32) = 0 ∨ ((1 : Int32) = 1 ∧ xlo.toInt ≤ (valN f T u6 (u7 - u6)).toInt ∧ (valN f T u6 (u7 - u6)).toInt ≤ xhi.toInt)) ∧ (1 : Int32) = (cNN f T xlo xhi x0 x1 x3 P).1 := by
            have t_c8 := neI c8
            have t_c9 := eqI c9
            have t_c12 := nltI c12
            have t_c18 := leI c18
            have : (0 : Int32).toInt = 0 := (by decide)
            have : (2 : Int32).toInt = 2 := (by decide)
            have t_n0 : (nI P).toInt = (P : Int) := nI_toInt (by omega)
            have t_n1 : (nI T).toInt = (T : Int) := nI_toInt (by omega)
            have z0 : (0 : Int32).toInt = 0 := (by decide)
            have z1 : (1 : Int32).toInt = 1 := (by decide)
            have z2 : (2 : Int32).toInt = 2 := (by decide)
            have z3 : (3 : Int32).toInt = 3 := (by decide)
            have z5 : (5 : Int32).toInt = 5 := (by decide)
            have z9 : (9 : Int32).toInt = 9 := (by decide)
            refine ⟨Or.inr ⟨rfl, by omega, by omega⟩, ?_⟩
            unfold cNN
            (try rw [vw2])
            (try rw [ew2])
            (try (repeat (first | rw [if_pos (by assumption)] | rw [if_neg (by assumption)] | rw [if_pos (by omega)] | rw [if_neg (by omega)] | rw [if_pos (by decide)] | rw [if_neg (by decide)])))
            all_goals rfl
          have hP9 := hP.sub (ws' := [(h0, .inr (5, [.ref tp, .ref td, .int u3, .int u4, .int x2, .int u5, .int (nI u6), .int (nI u7), .int x6, .int x7, .int x8, .int x9])), (tp, .inr (7, [.int (nI T), .ref ta])), (ta, .inl (G 0, 320, .inl f))]) [0, 1, 2] rfl
          have hD9 := hD.sub (ws' := [(h0, .inr (5, [.ref tp, .ref td, .int u3, .int u4, .int x2, .int u5, .int (nI u6), .int (nI u7), .int x6, .int x7, .int x8, .int x9])), (tp, .inr (7, [.int (nI T), .ref ta])), (ta, .inl (G 0, 320, .inl f))]) [0, 1, 2] (by decide) rfl
          refine W.widen (k := 0) (n := 0) (by omega) (by omega) ?_
          exact W.zret (v := 1) hx hb hr (by first | rfl | decide | exact rfl) (fun t ht hW => ⟨⟨1, (u3, u4, u5, u6, u7), rfl, ⟨hpost, (by have t_c8 := neI c8; have t_c9 := eqI c9; have t_c12 := nltI c12; have t_c18 := leI c18; have : (0 : Int32).toInt = 0 := (by decide); have : (2 : Int32).toInt = 2 := (by decide); have t_n0 : (nI P).toInt = (P : Int) := nI_toInt (by omega); have t_n1 : (nI T).toInt = (T : Int) := nI_toInt (by omega); have z0 : (0 : Int32).toInt = 0 := (by decide); have z1 : (1 : Int32).toInt = 1 := (by decide); have z2 : (2 : Int32).toInt = 2 := (by decide); have z3 : (3 : Int32).toInt = 3 := (by decide); have z5 : (5 : Int32).toInt = 5 := (by decide); have z9 : (9 : Int32).toInt = 9 := (by decide); refine ⟨by omega, by omega, ?_⟩; unfold cNN; (try rw [vw2]); (try rw [ew2]); (try (repeat (first | rw [if_pos (by assumption)] | rw [if_neg (by assumption)] | rw [if_pos (by omega)] | rw [if_neg (by omega)] | rw [if_pos (by decide)] | rw [if_neg (by decide)]))); all_goals rfl)⟩, ⟨by rw [ht]; exact hP9, hD9⟩⟩, hS.F ht⟩) hS.2.2 dX5_nextNumber_59
        · skip
          refine lv_aload_n hx hb dX5_nextNumber_42 rfl (lv_at hl 1 rfl) ?_
          refine lv_iconst (v := 3) hx hb dX5_nextNumber_43 (by decide) ?_
          refine lv_aload_n hx hb dX5_nextNumber_44 rfl (lv_at hl 1 rfl) ?_
          refine va_get (D := (dC, dI)) (ci := 5) (v := .int (nI u6)) (C := RX5) (T := TX5) (N := 12) hx hb hg inG5 hown hK.1 hP 0 rfl rfl 6 (by decide) (hg _ wt_116) (fun _ h9 => h9) rfl dX5_nextNumber_45 ?_
          have hPc := hP.sub (ws' := [(h0, .inr (5, [.ref tp, .ref td, .int u3, .int u4, .int x2, .int u5, .int (nI u6), .int (nI u7), .int x6, .int x7, .int x8, .int x9]))]) [0] rfl
          have hDc := hD.sub (ws' := [(h0, .inr (5, [.ref tp, .ref td, .int u3, .int u4, .int x2, .int u5, .int (nI u6), .int (nI u7), .int x6, .int x7, .int x8, .int x9]))]) [0] (by decide) rfl
          have hFc := va_free (wc := [(h0, .inr (5, [.ref tp, .ref td, .int u3, .int u4, .int x2, .int u5, .int (nI u6), .int (nI u7), .int x6, .int x7, .int x8, .int x9]))]) hD hS hA [0] rfl
          refine va_calli (va_runV (As := [.int 3, .int (nI u6)]) (rest := []) ⟨hx, hb, hml, hown, hg⟩ (c_X5_refuseE l dC dI G _ h0 tp td u3 u4 x2 u5 (nI u6) (nI u7) x6 x7 x8 x9 3 (nI u6) ) (kwV hg mfX5_refuse wt_386 ⟨Nat.le_of_ble_eq_true rfl, Nat.le_of_ble_eq_true rfl⟩) (preVW hK hPc hDc (ci := 5) rfl rfl) rfl rfl hl.1 rfl (lv_room (Nat.le_of_ble_eq_true rfl)) dX5_nextNumber_48 ⟨Nat.le_of_ble_eq_true rfl, Nat.le_of_ble_eq_true rfl⟩) hS (fun q _ h => hFc q h) hFc (fun r19 ur19 t H1 locs ht hvm w20 hB hz1 hk1 hS => ?_)
          obtain ⟨u21, u22⟩ := ur19
          obtain ⟨hP1, hD1⟩ := hB
          rw [ht] at hP1
          obtain ⟨hP, hD⟩ := va_join (wr := [(tp, .inr (7, [.int (nI T), .ref ta])), (ta, .inl (G 0, 320, .inl f))]) (w1 := [(h0, .inr (5, [.ref tp, .ref td, .int u21, .int u22, .int x2, .int u5, .int (nI u6), .int (nI u7), .int x6, .int x7, .int x8, .int x9]))]) hP hD [0] [1, 2] rfl rfl (by decide) (by decide) hk1 hFc hP1 hD1
          generalize H1 = H at hP hS ⊢
          have hP : va_P (dC, dI) vwCl [(tp, .inr (7, [.int (nI T), .ref ta])), (ta, .inl (G 0, 320, .inl f)), (h0, .inr (5, [.ref tp, .ref td, .int u21, .int u22, .int x2, .int u5, .int (nI u6), .int (nI u7), .int x6, .int x7, .int x8, .int x9]))] H := hP
          have hD : va_D A [(tp, .inr (7, [.int (nI T), .ref ta])), (ta, .inl (G 0, 320, .inl f)), (h0, .inr (5, [.ref tp, .ref td, .int u21, .int u22, .int x2, .int u5, .int (nI u6), .int (nI u7), .int x6, .int x7, .int x8, .int x9]))] := hD
          obtain ⟨w20, w20x⟩ := w20
          subst w20
          have ew20 : cRF 3 (u3, u4, u5, u6, u7) = (u21, u22, u5, u6, u7) := (by show (flB _ _, flP _ _ _, _, _, _) = _; rw [← w20x.1, ← w20x.2])
          refine lv_if_eq (tgt := 58) hx hb dX5_nextNumber_51 (by decide) (fun c23 => ?_) (fun c23 => ?_)
          · skip
            refine lv_iconst (v := 0) hx hb dX5_nextNumber_58 (by decide) ?_
            have hpost : ((0 : Int32) = 0 ∨ ((0 : Int32) = 1 ∧ xlo.toInt ≤ (valN f T u6 (u7 - u6)).toInt ∧ (valN f T u6 (u7 - u6)).toInt ≤ xhi.toInt)) ∧ (0 : Int32) = (cNN f T xlo xhi x0 x1 x3 P).1 := by
              have t_c8 := neI c8
              have t_c9 := eqI c9
              have t_c12 := nltI c12
              have t_c18 := nleI c18
              have t_c23 := eqI c23
              have : (0 : Int32).toInt = 0 := (by decide)
              have : (2 : Int32).toInt = 2 := (by decide)
              have t_n0 : (nI P).toInt = (P : Int) := nI_toInt (by omega)
              have t_n1 : (nI T).toInt = (T : Int) := nI_toInt (by omega)
              have z0 : (0 : Int32).toInt = 0 := (by decide)
              have z1 : (1 : Int32).toInt = 1 := (by decide)
              have z2 : (2 : Int32).toInt = 2 := (by decide)
              have z3 : (3 : Int32).toInt = 3 := (by decide)
              have z5 : (5 : Int32).toInt = 5 := (by decide)
              have z9 : (9 : Int32).toInt = 9 := (by decide)
              refine ⟨Or.inl rfl, ?_⟩
              unfold cNN
              (try rw [vw2])
              (try rw [ew2])
              (try rw [ew20])
              (try (repeat (first | rw [if_pos (by assumption)] | rw [if_neg (by assumption)] | rw [if_pos (by omega)] | rw [if_neg (by omega)] | rw [if_pos (by decide)] | rw [if_neg (by decide)])))
              all_goals rfl
            have hP9 := hP.sub (ws' := [(h0, .inr (5, [.ref tp, .ref td, .int u21, .int u22, .int x2, .int u5, .int (nI u6), .int (nI u7), .int x6, .int x7, .int x8, .int x9])), (tp, .inr (7, [.int (nI T), .ref ta])), (ta, .inl (G 0, 320, .inl f))]) [2, 0, 1] rfl
            have hD9 := hD.sub (ws' := [(h0, .inr (5, [.ref tp, .ref td, .int u21, .int u22, .int x2, .int u5, .int (nI u6), .int (nI u7), .int x6, .int x7, .int x8, .int x9])), (tp, .inr (7, [.int (nI T), .ref ta])), (ta, .inl (G 0, 320, .inl f))]) [2, 0, 1] (by decide) rfl
            refine W.widen (k := 0) (n := 0) (by omega) (by omega) ?_
            exact W.zret (v := 0) hx hb hr (by first | rfl | decide | exact rfl) (fun t ht hW => ⟨⟨0, (u21, u22, u5, u6, u7), rfl, ⟨hpost, (by have t_c8 := neI c8; have t_c9 := eqI c9; have t_c12 := nltI c12; have t_c18 := nleI c18; have t_c23 := eqI c23; have : (0 : Int32).toInt = 0 := (by decide); have : (2 : Int32).toInt = 2 := (by decide); have t_n0 : (nI P).toInt = (P : Int) := nI_toInt (by omega); have t_n1 : (nI T).toInt = (T : Int) := nI_toInt (by omega); have z0 : (0 : Int32).toInt = 0 := (by decide); have z1 : (1 : Int32).toInt = 1 := (by decide); have z2 : (2 : Int32).toInt = 2 := (by decide); have z3 : (3 : Int32).toInt = 3 := (by decide); have z5 : (5 : Int32).toInt = 5 := (by decide); have z9 : (9 : Int32).toInt = 9 := (by decide); refine ⟨by omega, by omega, ?_⟩; unfold cNN; (try rw [vw2]); (try rw [ew2]); (try rw [ew20]); (try (repeat (first | rw [if_pos (by assumption)] | rw [if_neg (by assumption)] | rw [if_pos (by omega)] | rw [if_neg (by omega)] | rw [if_pos (by decide)] | rw [if_neg (by decide)]))); all_goals rfl)⟩, ⟨by rw [ht]; exact hP9, hD9⟩⟩, hS.F ht⟩) hS.2.2 dX5_nextNumber_59
          · skip
            exact absurd c23 (by decide)
    · skip
      refine lv_aload_n hx hb dX5_nextNumber_17 rfl (lv_at hl 0 rfl) ?_
      refine lv_iconst (v := 2) hx hb dX5_nextNumber_18 (by decide) ?_
      refine lv_aload_n hx hb dX5_nextNumber_19 rfl (lv_at hl 0 rfl) ?_
      refine va_get (D := (dC, dI)) (ci := 5) (v := .int (nI u6)) (C := RX5) (T := TX5) (N := 12) hx hb hg inG5 hown hK.1 hP 0 rfl rfl 6 (by decide) (hg _ wt_116) (fun _ h9 => h9) rfl dX5_nextNumber_20 ?_
      have hPc := hP.sub (ws' := [(h0, .inr (5, [.ref tp, .ref td, .int u3, .int u4, .int x2, .int u5, .int (nI u6), .int (nI u7), .int x6, .int x7, .int x8, .int x9]))]) [0] rfl
      have hDc := hD.sub (ws' := [(h0, .inr (5, [.ref tp, .ref td, .int u3, .int u4, .int x2, .int u5, .int (nI u6), .int (nI u7), .int x6, .int x7, .int x8, .int x9]))]) [0] (by decide) rfl
      have hFc := va_free (wc := [(h0, .inr (5, [.ref tp, .ref td, .int u3, .int u4, .int x2, .int u5, .int (nI u6), .int (nI u7), .int x6, .int x7, .int x8, .int x9]))]) hD hS hA [0] rfl
      refine va_calli (va_runV (As := [.int 2, .int (nI u6)]) (rest := []) ⟨hx, hb, hml, hown, hg⟩ (c_X5_refuseE l dC dI G _ h0 tp td u3 u4 x2 u5 (nI u6) (nI u7) x6 x7 x8 x9 2 (nI u6) ) (kwV hg mfX5_refuse wt_386 ⟨Nat.le_of_ble_eq_true rfl, Nat.le_of_ble_eq_true rfl⟩) (preVW hK hPc hDc (ci := 5) rfl rfl) rfl rfl hl.1 rfl (lv_room (Nat.le_of_ble_eq_true rfl)) dX5_nextNumber_23 ⟨Nat.le_of_ble_eq_true rfl, Nat.le_of_ble_eq_true rfl⟩) hS (fun q _ h => hFc q h) hFc (fun r24 ur24 t H1 locs ht hvm w25 hB hz1 hk1 hS => ?_)
      obtain ⟨u26, u27⟩ := ur24
      obtain ⟨hP1, hD1⟩ := hB
      rw [ht] at hP1
      obtain ⟨hP, hD⟩ := va_join (wr := [(tp, .inr (7, [.int (nI T), .ref ta])), (ta, .inl (G 0, 320, .inl f))]) (w1 := [(h0, .inr (5, [.ref tp, .ref td, .int u26, .int u27, .int x2, .int u5, .int (nI u6), .int (nI u7), .int x6, .int x7, .int x8, .int x9]))]) hP hD [0] [1, 2] rfl rfl (by decide) (by decide) hk1 hFc hP1 hD1
      generalize H1 = H at hP hS ⊢
      have hP : va_P (dC, dI) vwCl [(tp, .inr (7, [.int (nI T), .ref ta])), (ta, .inl (G 0, 320, .inl f)), (h0, .inr (5, [.ref tp, .ref td, .int u26, .int u27, .int x2, .int u5, .int (nI u6), .int (nI u7), .int x6, .int x7, .int x8, .int x9]))] H := hP
      have hD : va_D A [(tp, .inr (7, [.int (nI T), .ref ta])), (ta, .inl (G 0, 320, .inl f)), (h0, .inr (5, [.ref tp, .ref td, .int u26, .int u27, .int x2, .int u5, .int (nI u6), .int (nI u7), .int x6, .int x7, .int x8, .int x9]))] := hD
      obtain ⟨w25, w25x⟩ := w25
      subst w25
      have ew25 : cRF 2 (u3, u4, u5, u6, u7) = (u26, u27, u5, u6, u7) := (by show (flB _ _, flP _ _ _, _, _, _) = _; rw [← w25x.1, ← w25x.2])
      have hpost : ((0 : Int32) = 0 ∨ ((0 : Int32) = 1 ∧ xlo.toInt ≤ (valN f T u6 (u7 - u6)).toInt ∧ (valN f T u6 (u7 - u6)).toInt ≤ xhi.toInt)) ∧ (0 : Int32) = (cNN f T xlo xhi x0 x1 x3 P).1 := by
        have t_c8 := neI c8
        have t_c9 := neI c9
        have : (0 : Int32).toInt = 0 := (by decide)
        have : (2 : Int32).toInt = 2 := (by decide)
        have t_n0 : (nI P).toInt = (P : Int) := nI_toInt (by omega)
        have t_n1 : (nI T).toInt = (T : Int) := nI_toInt (by omega)
        have z0 : (0 : Int32).toInt = 0 := (by decide)
        have z1 : (1 : Int32).toInt = 1 := (by decide)
        have z2 : (2 : Int32).toInt = 2 := (by decide)
        have z3 : (3 : Int32).toInt = 3 := (by decide)
        have z5 : (5 : Int32).toInt = 5 := (by decide)
        have z9 : (9 : Int32).toInt = 9 := (by decide)
        refine ⟨Or.inl rfl, ?_⟩
        unfold cNN
        (try rw [vw2])
        (try rw [ew2])
        (try rw [ew25])
        (try (repeat (first | rw [if_pos (by assumption)] | rw [if_neg (by assumption)] | rw [if_pos (by omega)] | rw [if_neg (by omega)] | rw [if_pos (by decide)] | rw [if_neg (by decide)])))
        all_goals rfl
      have hP9 := hP.sub (ws' := [(h0, .inr (5, [.ref tp, .ref td, .int u26, .int u27, .int x2, .int u5, .int (nI u6), .int (nI u7), .int x6, .int x7, .int x8, .int x9])), (tp, .inr (7, [.int (nI T), .ref ta])), (ta, .inl (G 0, 320, .inl f))]) [2, 0, 1] rfl
      have hD9 := hD.sub (ws' := [(h0, .inr (5, [.ref tp, .ref td, .int u26, .int u27, .int x2, .int u5, .int (nI u6), .int (nI u7), .int x6, .int x7, .int x8, .int x9])), (tp, .inr (7, [.int (nI T), .ref ta])), (ta, .inl (G 0, 320, .inl f))]) [2, 0, 1] (by decide) rfl
      refine W.widen (k := 0) (n := 0) (by omega) (by omega) ?_
      exact W.zret (v := 0) hx hb hr (by first | rfl | decide | exact rfl) (fun t ht hW => ⟨⟨0, (u26, u27, u5, u6, u7), rfl, ⟨hpost, (by have t_c8 := neI c8; have t_c9 := neI c9; have : (0 : Int32).toInt = 0 := (by decide); have : (2 : Int32).toInt = 2 := (by decide); have t_n0 : (nI P).toInt = (P : Int) := nI_toInt (by omega); have t_n1 : (nI T).toInt = (T : Int) := nI_toInt (by omega); have z0 : (0 : Int32).toInt = 0 := (by decide); have z1 : (1 : Int32).toInt = 1 := (by decide); have z2 : (2 : Int32).toInt = 2 := (by decide); have z3 : (3 : Int32).toInt = 3 := (by decide); have z5 : (5 : Int32).toInt = 5 := (by decide); have z9 : (9 : Int32).toInt = 9 := (by decide); refine ⟨by omega, by omega, ?_⟩; unfold cNN; (try rw [vw2]); (try rw [ew2]); (try rw [ew25]); (try (repeat (first | rw [if_pos (by assumption)] | rw [if_neg (by assumption)] | rw [if_pos (by omega)] | rw [if_neg (by omega)] | rw [if_pos (by decide)] | rw [if_neg (by decide)]))); all_goals rfl)⟩, ⟨by rw [ht]; exact hP9, hD9⟩⟩, hS.F ht⟩) hS.2.2 dX5_nextNumber_26
  · skip
    refine lv_iconst (v := 0) hx hb dX5_nextNumber_7 (by decide) ?_
    have hpost : ((0 : Int32) = 0 ∨ ((0 : Int32) = 1 ∧ xlo.toInt ≤ (valN f T u6 (u7 - u6)).toInt ∧ (valN f T u6 (u7 - u6)).toInt ≤ xhi.toInt)) ∧ (0 : Int32) = (cNN f T xlo xhi x0 x1 x3 P).1 := by
      have t_c8 := eqI c8
      have : (0 : Int32).toInt = 0 := (by decide)
      have t_n0 : (nI P).toInt = (P : Int) := nI_toInt (by omega)
      have t_n1 : (nI T).toInt = (T : Int) := nI_toInt (by omega)
      have z0 : (0 : Int32).toInt = 0 := (by decide)
      have z1 : (1 : Int32).toInt = 1 := (by decide)
      have z2 : (2 : Int32).toInt = 2 := (by decide)
      have z3 : (3 : Int32).toInt = 3 := (by decide)
      have z5 : (5 : Int32).toInt = 5 := (by decide)
      have z9 : (9 : Int32).toInt = 9 := (by decide)
      refine ⟨Or.inl rfl, ?_⟩
      unfold cNN
      (try rw [vw2])
      (try rw [ew2])
      (try (repeat (first | rw [if_pos (by assumption)] | rw [if_neg (by assumption)] | rw [if_pos (by omega)] | rw [if_neg (by omega)] | rw [if_pos (by decide)] | rw [if_neg (by decide)])))
      all_goals rfl
    have hP9 := hP.sub (ws' := [(h0, .inr (5, [.ref tp, .ref td, .int u3, .int u4, .int x2, .int u5, .int (nI u6), .int (nI u7), .int x6, .int x7, .int x8, .int x9])), (tp, .inr (7, [.int (nI T), .ref ta])), (ta, .inl (G 0, 320, .inl f))]) [0, 1, 2] rfl
    have hD9 := hD.sub (ws' := [(h0, .inr (5, [.ref tp, .ref td, .int u3, .int u4, .int x2, .int u5, .int (nI u6), .int (nI u7), .int x6, .int x7, .int x8, .int x9])), (tp, .inr (7, [.int (nI T), .ref ta])), (ta, .inl (G 0, 320, .inl f))]) [0, 1, 2] (by decide) rfl
    refine W.widen (k := 0) (n := 0) (by omega) (by omega) ?_
    exact W.zret (v := 0) hx hb hr (by first | rfl | decide | exact rfl) (fun t ht hW => ⟨⟨0, (u3, u4, u5, u6, u7), rfl, ⟨hpost, (by have t_c8 := eqI c8; have : (0 : Int32).toInt = 0 := (by decide); have t_n0 : (nI P).toInt = (P : Int) := nI_toInt (by omega); have t_n1 : (nI T).toInt = (T : Int) := nI_toInt (by omega); have z0 : (0 : Int32).toInt = 0 := (by decide); have z1 : (1 : Int32).toInt = 1 := (by decide); have z2 : (2 : Int32).toInt = 2 := (by decide); have z3 : (3 : Int32).toInt = 3 := (by decide); have z5 : (5 : Int32).toInt = 5 := (by decide); have z9 : (9 : Int32).toInt = 9 := (by decide); refine ⟨by omega, by omega, ?_⟩; unfold cNN; (try rw [vw2]); (try rw [ew2]); (try (repeat (first | rw [if_pos (by assumption)] | rw [if_neg (by assumption)] | rw [if_pos (by omega)] | rw [if_neg (by omega)] | rw [if_pos (by decide)] | rw [if_neg (by decide)]))); all_goals rfl)⟩, ⟨by rw [ht]; exact hP9, hD9⟩⟩, hS.F ht⟩) hS.2.2 dX5_nextNumber_8

set_option maxHeartbeats 1000000 in
set_option maxRecDepth 100000 in
theorem c_X5_nextStopE (l : Launch) (dC : Nat → ClassId) (dI : Nat → Nat → Nat) (G : Nat → ClassId) (sz : Nat) (h0 tp td ta T P : Nat) (x0 x1 x2 x3 x6 x7 x8 x9 x4 : Int32) (f : Nat → Int32) (hT : T ≤ 320) (hP0 : P ≤ T) : Met l yX5_nextStop (Cond.code yX5_nextStop cX5_nextStop 1 (some .boolean) :: GT) ({ frames := 2, cells := 0, slots := 0, locals := 45 } : Room) (PcW [.ref h0] dC dI G [(h0, .inr (5, [.ref tp, .ref td, .int x0, .int x1, .int x2, .int x3, .int x4, .int (nI P), .int x6, .int x7, .int x8, .int x9])), (tp, .inr (7, [.int (nI T), .ref ta])), (ta, .inl (G 0, 320, .inl f))] sz) (va_Qi (fun (r : Int32) (u : Int32 × Int32 × Int32 × Nat × Nat) => match u with | (u0, u1, u3, u4, u5) => ((r = 0 ∨ r = 1) ∧ r = (cNS f T x0 x1 x3 P).1) ∧ u4 ≤ u5 ∧ u5 ≤ T ∧ (u0, u1, u3, u4, u5) = (cNS f T x0 x1 x3 P).2) (fun (u : Int32 × Int32 × Int32 × Nat × Nat) (t : State) => match u with | (u0, u1, u3, u4, u5) => va_P (dC, dI) vwCl [(h0, .inr (5, [.ref tp, .ref td, .int u0, .int u1, .int x2, .int u3, .int (nI u4), .int (nI u5), .int x6, .int x7, .int x8, .int x9])), (tp, .inr (7, [.int (nI T), .ref ta])), (ta, .inl (G 0, 320, .inl f))] t.heap ∧ va_D (va_A [(h0, .inr (5, [.ref tp, .ref td, .int x0, .int x1, .int x2, .int x3, .int x4, .int (nI P), .int x6, .int x7, .int x8, .int x9])), (tp, .inr (7, [.int (nI T), .ref ta])), (ta, .inl (G 0, 320, .inl f))] sz) [(h0, .inr (5, [.ref tp, .ref td, .int u0, .int u1, .int x2, .int u3, .int (nI u4), .int (nI u5), .int x6, .int x7, .int x8, .int x9])), (tp, .inr (7, [.int (nI T), .ref ta])), (ta, .inl (G 0, 320, .inl f))]) (va_A [(h0, .inr (5, [.ref tp, .ref td, .int x0, .int x1, .int x2, .int x3, .int x4, .int (nI P), .int x6, .int x7, .int x8, .int x9])), (tp, .inr (7, [.int (nI T), .ref ta])), (ta, .inl (G 0, 320, .inl f))] sz)) 0 0 (va_A [(h0, .inr (5, [.ref tp, .ref td, .int x0, .int x1, .int x2, .int x3, .int x4, .int (nI P), .int x6, .int x7, .int x8, .int x9])), (tp, .inr (7, [.int (nI T), .ref ta])), (ta, .inl (G 0, 320, .inl f))] sz) := by
  refine Met.ofW (cc := cX5_nextStop) (maxL := 1) (ret := (some .boolean)) (by decide) rfl ?_
  intro p e s m args below meth c s₁ Bd hml hv
  obtain ⟨rfl, hsz, hP, hK, hD0⟩ := hv
  have hx := Bd.exec
  have hb := Bd.bytes
  have hr := Bd.returns
  have hg : ∀ w ∈ GT, w.before ([.ref h0] : List Value).toArray s = true := fun w h => atoms_spec (ws := Cond.code yX5_nextStop cX5_nextStop 1 (some .boolean) :: GT) Bd.pre w (List.mem_cons_of_mem _ h)
  have hown : s.vm.findClass RX5 = some m.cls := findClass_of_methodNamed Bd.named
  have hlocks := Bd.notSynchronized
  subst hsz
  have hD := hD0.self (sz := s.heap.size)
  generalize hAe : va_A [(h0, .inr (5, [.ref tp, .ref td, .int x0, .int x1, .int x2, .int x3, .int x4, .int (nI P), .int x6, .int x7, .int x8, .int x9])), (tp, .inr (7, [.int (nI T), .ref ta])), (ta, .inl (G 0, 320, .inl f))] s.heap.size = A at hD ⊢
  have hA : ∀ q : Nat, s.heap.size ≤ q → A q := fun q h => by rw [← hAe]; exact Or.inr h
  have hS : va_S A s.heap s.heap [] := va_S.rf
  have hl := lv_entry ([.ref h0]) (n := 1) (Nat.le_of_ble_eq_true rfl)
  rw [lg_entry_eq]
  generalize (lg_sl ([.ref h0]) ++ List.replicate (1 - (lg_sl ([.ref h0])).length) Slot.unset).toArray = ls at hl ⊢
  have hl : lv_has ls 1 [(0, .ref h0)] := hl
  refine lv_aload_n hx hb dX5_nextStop_0 rfl (lv_at hl 0 rfl) ?_
  have hPc := hP.sub (ws' := [(h0, .inr (5, [.ref tp, .ref td, .int x0, .int x1, .int x2, .int x3, .int x4, .int (nI P), .int x6, .int x7, .int x8, .int x9])), (tp, .inr (7, [.int (nI T), .ref ta])), (ta, .inl (G 0, 320, .inl f))]) [0, 1, 2] rfl
  have hDc := hD.sub (ws' := [(h0, .inr (5, [.ref tp, .ref td, .int x0, .int x1, .int x2, .int x3, .int x4, .int (nI P), .int x6, .int x7, .int x8, .int x9])), (tp, .inr (7, [.int (nI T), .ref ta])), (ta, .inl (G 0, 320, .inl f))]) [0, 1, 2] (by decide) rfl
  have hFc := va_free (wc := [(h0, .inr (5, [.ref tp, .ref td, .int x0, .int x1, .int x2, .int x3, .int x4, .int (nI P), .int x6, .int x7, .int x8, .int x9])), (tp, .inr (7, [.int (nI T), .ref ta])), (ta, .inl (G 0, 320, .inl f))]) hD hS hA [0, 1, 2] rfl
  refine va_calli (va_runV (As := []) (rest := []) ⟨hx, hb, hml, hown, hg⟩ (c_X5_nextTokenE l dC dI G _ h0 tp td ta T P x0 x1 x2 x3 x6 x7 x8 x9 x4 f (by have t_n0 : (nI P).toInt = (P : Int) := nI_toInt (by omega); have t_n1 : (nI T).toInt = (T : Int) := nI_toInt (by omega); omega) (by have t_n0 : (nI P).toInt = (P : Int) := nI_toInt (by omega); have t_n1 : (nI T).toInt = (T : Int) := nI_toInt (by omega); omega)) (kwV hg mfX5_nextToken wt_374 ⟨Nat.le_of_ble_eq_true rfl, Nat.le_of_ble_eq_true rfl⟩) (preVW hK hPc hDc (ci := 5) rfl rfl) rfl rfl hl.1 rfl (lv_room (Nat.le_of_ble_eq_true rfl)) dX5_nextStop_1 ⟨Nat.le_of_ble_eq_true rfl, Nat.le_of_ble_eq_true rfl⟩) hS (fun q _ h => hFc q h) hFc (fun r1 ur1 t H1 locs ht hvm w2 hB hz1 hk1 hS => ?_)
  obtain ⟨u3, u4, u5, u6, u7⟩ := ur1
  obtain ⟨hP1, hD1⟩ := hB
  rw [ht] at hP1
  obtain ⟨hP, hD⟩ := va_join (wr := []) (w1 := [(h0, .inr (5, [.ref tp, .ref td, .int u3, .int u4, .int x2, .int u5, .int (nI u6), .int (nI u7), .int x6, .int x7, .int x8, .int x9])), (tp, .inr (7, [.int (nI T), .ref ta])), (ta, .inl (G 0, 320, .inl f))]) hP hD [0, 1, 2] [] rfl rfl (by decide) (by decide) hk1 hFc hP1 hD1
  generalize H1 = H at hP hS ⊢
  have hP : va_P (dC, dI) vwCl [(h0, .inr (5, [.ref tp, .ref td, .int u3, .int u4, .int x2, .int u5, .int (nI u6), .int (nI u7), .int x6, .int x7, .int x8, .int x9])), (tp, .inr (7, [.int (nI T), .ref ta])), (ta, .inl (G 0, 320, .inl f))] H := hP
  have hD : va_D A [(h0, .inr (5, [.ref tp, .ref td, .int u3, .int u4, .int x2, .int u5, .int (nI u6), .int (nI u7), .int x6, .int x7, .int x8, .int x9])), (tp, .inr (7, [.int (nI T), .ref ta])), (ta, .inl (G 0, 320, .inl f))] := hD
  obtain ⟨w2, w2x⟩ := w2
  have vw2 : ntG f T (pst f T 32 32 P) = r1 := w2.symm
  have ew2 : ntS1 f T (pst f T 32 32 P) x0 x1 x3 = (u3, u4, u5, u6, u7) := w2x.2.2.symm
  refine lv_if_eq (tgt := 31) hx hb dX5_nextStop_4 (by decide) (fun c8 => ?_) (fun c8 => ?_)
  · skip
    refine lv_iconst (v := 0) hx hb dX5_nextStop_31 (by decide) ?_
    have hpost : ((0 : Int32) = 0 ∨ (0 : Int32) = 1) ∧ (0 : Int32) = (cNS f T x0 x1 x3 P).1 := by
      have t_c8 := eqI c8
      have : (0 : Int32).toInt = 0 := (by decide)
      have t_n0 : (nI P).toInt = (P : Int) := nI_toInt (by omega)
      have t_n1 : (nI T).toInt = (T : Int) := nI_toInt (by omega)
      have z0 : (0 : Int32).toInt = 0 := (by decide)
      have z1 : (1 : Int32).toInt = 1 := (by decide)
      have z2 : (2 : Int32).toInt = 2 := (by decide)
      have z3 : (3 : Int32).toInt = 3 := (by decide)
      have z5 : (5 : Int32).toInt = 5 := (by decide)
      have z9 : (9 : Int32).toInt = 9 := (by decide)
      refine ⟨Or.inl rfl, ?_⟩
      unfold cNS
      (try rw [vw2])
      (try rw [ew2])
      (try (repeat (first | rw [if_pos (by assumption)] | rw [if_neg (by assumption)] | rw [if_pos (by omega)] | rw [if_neg (by omega)] | rw [if_pos (by decide)] | rw [if_neg (by decide)])))
      all_goals rfl
    have hP9 := hP.sub (ws' := [(h0, .inr (5, [.ref tp, .ref td, .int u3, .int u4, .int x2, .int u5, .int (nI u6), .int (nI u7), .int x6, .int x7, .int x8, .int x9])), (tp, .inr (7, [.int (nI T), .ref ta])), (ta, .inl (G 0, 320, .inl f))]) [0, 1, 2] rfl
    have hD9 := hD.sub (ws' := [(h0, .inr (5, [.ref tp, .ref td, .int u3, .int u4, .int x2, .int u5, .int (nI u6), .int (nI u7), .int x6, .int x7, .int x8, .int x9])), (tp, .inr (7, [.int (nI T), .ref ta])), (ta, .inl (G 0, 320, .inl f))]) [0, 1, 2] (by decide) rfl
    refine W.widen (k := 0) (n := 0) (by omega) (by omega) ?_
    exact W.zret (v := 0) hx hb hr (by first | rfl | decide | exact rfl) (fun t ht hW => ⟨⟨0, (u3, u4, u5, u6, u7), rfl, ⟨hpost, (by have t_c8 := eqI c8; have : (0 : Int32).toInt = 0 := (by decide); have t_n0 : (nI P).toInt = (P : Int) := nI_toInt (by omega); have t_n1 : (nI T).toInt = (T : Int) := nI_toInt (by omega); have z0 : (0 : Int32).toInt = 0 := (by decide); have z1 : (1 : Int32).toInt = 1 := (by decide); have z2 : (2 : Int32).toInt = 2 := (by decide); have z3 : (3 : Int32).toInt = 3 := (by decide); have z5 : (5 : Int32).toInt = 5 := (by decide); have z9 : (9 : Int32).toInt = 9 := (by decide); refine ⟨by omega, by omega, ?_⟩; unfold cNS; (try rw [vw2]); (try rw [ew2]); (try (repeat (first | rw [if_pos (by assumption)] | rw [if_neg (by assumption)] | rw [if_pos (by omega)] | rw [if_neg (by omega)] | rw [if_pos (by decide)] | rw [if_neg (by decide)]))); all_goals rfl)⟩, ⟨by rw [ht]; exact hP9, hD9⟩⟩, hS.F ht⟩) hS.2.2 dX5_nextStop_32
  · skip
    refine lv_aload_n hx hb dX5_nextStop_7 rfl (lv_at hl 0 rfl) ?_
    refine va_get (D := (dC, dI)) (ci := 5) (v := .int u5) (C := RX5) (T := TX5) (N := 12) hx hb hg inG5 hown hK.1 hP 0 rfl rfl 5 (by decide) (hg _ wt_115) (fun _ h9 => h9) rfl dX5_nextStop_8 ?_
    refine lv_iconst (v := 3) hx hb dX5_nextStop_11 (by decide) ?_
    refine lv_icmp_eq (tgt := 27) hx hb dX5_nextStop_12 (by decide) (fun c9 => ?_) (fun c9 => ?_)
    · skip
      refine lv_iconst (v := 1) hx hb dX5_nextStop_27 (by decide) ?_
      refine lv_goto (tgt := 32) hx hb dX5_nextStop_28 (by decide) ?_
      have hpost : ((1 : Int32) = 0 ∨ (1 : Int32) = 1) ∧ (1 : Int32) = (cNS f T x0 x1 x3 P).1 := by
        have t_c8 := neI c8
        have t_c9 := eqI c9
        have : (0 : Int32).toInt = 0 := (by decide)
        have : (3 : Int32).toInt = 3 := (by decide)
        have t_n0 : (nI P).toInt = (P : Int) := nI_toInt (by omega)
        have t_n1 : (nI T).toInt = (T : Int) := nI_toInt (by omega)
        have z0 : (0 : Int32).toInt = 0 := (by decide)
        have z1 : (1 : Int32).toInt = 1 := (by decide)
        have z2 : (2 : Int32).toInt = 2 := (by decide)
        have z3 : (3 : Int32).toInt = 3 := (by decide)
        have z5 : (5 : Int32).toInt = 5 := (by decide)
        have z9 : (9 : Int32).toInt = 9 := (by decide)
        refine ⟨Or.inr rfl, ?_⟩
        unfold cNS
        (try rw [vw2])
        (try rw [ew2])
        (try (repeat (first | rw [if_pos (by assumption)] | rw [if_neg (by assumption)] | rw [if_pos (by omega)] | rw [if_neg (by omega)] | rw [if_pos (by decide)] | rw [if_neg (by decide)])))
        all_goals rfl
      have hP9 := hP.sub (ws' := [(h0, .inr (5, [.ref tp, .ref td, .int u3, .int u4, .int x2, .int u5, .int (nI u6), .int (nI u7), .int x6, .int x7, .int x8, .int x9])), (tp, .inr (7, [.int (nI T), .ref ta])), (ta, .inl (G 0, 320, .inl f))]) [0, 1, 2] rfl
      have hD9 := hD.sub (ws' := [(h0, .inr (5, [.ref tp, .ref td, .int u3, .int u4, .int x2, .int u5, .int (nI u6), .int (nI u7), .int x6, .int x7, .int x8, .int x9])), (tp, .inr (7, [.int (nI T), .ref ta])), (ta, .inl (G 0, 320, .inl f))]) [0, 1, 2] (by decide) rfl
      refine W.widen (k := 0) (n := 0) (by omega) (by omega) ?_
      exact W.zret (v := 1) hx hb hr (by first | rfl | decide | exact rfl) (fun t ht hW => ⟨⟨1, (u3, u4, u5, u6, u7), rfl, ⟨hpost, (by have t_c8 := neI c8; have t_c9 := eqI c9; have : (0 : Int32).toInt = 0 := (by decide); have : (3 : Int32).toInt = 3 := (by decide); have t_n0 : (nI P).toInt = (P : Int) := nI_toInt (by omega); have t_n1 : (nI T).toInt = (T : Int) := nI_toInt (by omega); have z0 : (0 : Int32).toInt = 0 := (by decide); have z1 : (1 : Int32).toInt = 1 := (by decide); have z2 : (2 : Int32).toInt = 2 := (by decide); have z3 : (3 : Int32).toInt = 3 := (by decide); have z5 : (5 : Int32).toInt = 5 := (by decide); have z9 : (9 : Int32).toInt = 9 := (by decide); refine ⟨by omega, by omega, ?_⟩; unfold cNS; (try rw [vw2]); (try rw [ew2]); (try (repeat (first | rw [if_pos (by assumption)] | rw [if_neg (by assumption)] | rw [if_pos (by omega)] | rw [if_neg (by omega)] | rw [if_pos (by decide)] | rw [if_neg (by decide)]))); all_goals rfl)⟩, ⟨by rw [ht]; exact hP9, hD9⟩⟩, hS.F ht⟩) hS.2.2 dX5_nextStop_32
    · skip
      refine lv_aload_n hx hb dX5_nextStop_15 rfl (lv_at hl 0 rfl) ?_
      refine lv_iconst (v := 2) hx hb dX5_nextStop_16 (by decide) ?_
      refine lv_aload_n hx hb dX5_nextStop_17 rfl (lv_at hl 0 rfl) ?_
      refine va_get (D := (dC, dI)) (ci := 5) (v := .int (nI u6)) (C := RX5) (T := TX5) (N := 12) hx hb hg inG5 hown hK.1 hP 0 rfl rfl 6 (by decide) (hg _ wt_116) (fun _ h9 => h9) rfl dX5_nextStop_18 ?_
      have hPc := hP.sub (ws' := [(h0, .inr (5, [.ref tp, .ref td, .int u3, .int u4, .int x2, .int u5, .int (nI u6), .int (nI u7), .int x6, .int x7, .int x8, .int x9]))]) [0] rfl
      have hDc := hD.sub (ws' := [(h0, .inr (5, [.ref tp, .ref td, .int u3, .int u4, .int x2, .int u5, .int (nI u6), .int (nI u7), .int x6, .int x7, .int x8, .int x9]))]) [0] (by decide) rfl
      have hFc := va_free (wc := [(h0, .inr (5, [.ref tp, .ref td, .int u3, .int u4, .int x2, .int u5, .int (nI u6), .int (nI u7), .int x6, .int x7, .int x8, .int x9]))]) hD hS hA [0] rfl
      refine va_calli (va_runV (As := [.int 2, .int (nI u6)]) (rest := []) ⟨hx, hb, hml, hown, hg⟩ (c_X5_refuseE l dC dI G _ h0 tp td u3 u4 x2 u5 (nI u6) (nI u7) x6 x7 x8 x9 2 (nI u6) ) (kwV hg mfX5_refuse wt_386 ⟨Nat.le_of_ble_eq_true rfl, Nat.le_of_ble_eq_true rfl⟩) (preVW hK hPc hDc (ci := 5) rfl rfl) rfl rfl hl.1 rfl (lv_room (Nat.le_of_ble_eq_true rfl)) dX5_nextStop_21 ⟨Nat.le_of_ble_eq_true rfl, Nat.le_of_ble_eq_true rfl⟩) hS (fun q _ h => hFc q h) hFc (fun r10 ur10 t H1 locs ht hvm w11 hB hz1 hk1 hS => ?_)
      obtain ⟨u12, u13⟩ := ur10
      obtain ⟨hP1, hD1⟩ := hB
      rw [ht] at hP1
      obtain ⟨hP, hD⟩ := va_join (wr := [(tp, .inr (7, [.int (nI T), .ref ta])), (ta, .inl (G 0, 320, .inl f))]) (w1 := [(h0, .inr (5, [.ref tp, .ref td, .int u12, .int u13, .int x2, .int u5, .int (nI u6), .int (nI u7), .int x6, .int x7, .int x8, .int x9]))]) hP hD [0] [1, 2] rfl rfl (by decide) (by decide) hk1 hFc hP1 hD1
      generalize H1 = H at hP hS ⊢
      have hP : va_P (dC, dI) vwCl [(tp, .inr (7, [.int (nI T), .ref ta])), (ta, .inl (G 0, 320, .inl f)), (h0, .inr (5, [.ref tp, .ref td, .int u12, .int u13, .int x2, .int u5, .int (nI u6), .int (nI u7), .int x6, .int x7, .int x8, .int x9]))] H := hP
      have hD : va_D A [(tp, .inr (7, [.int (nI T), .ref ta])), (ta, .inl (G 0, 320, .inl f)), (h0, .inr (5, [.ref tp, .ref td, .int u12, .int u13, .int x2, .int u5, .int (nI u6), .int (nI u7), .int x6, .int x7, .int x8, .int x9]))] := hD
      obtain ⟨w11, w11x⟩ := w11
      subst w11
      have ew11 : cRF 2 (u3, u4, u5, u6, u7) = (u12, u13, u5, u6, u7) := (by show (flB _ _, flP _ _ _, _, _, _) = _; rw [← w11x.1, ← w11x.2])
      refine lv_if_eq (tgt := 31) hx hb dX5_nextStop_24 (by decide) (fun c14 => ?_) (fun c14 => ?_)
      · skip
        refine lv_iconst (v := 0) hx hb dX5_nextStop_31 (by decide) ?_
        have hpost : ((0 : Int32) = 0 ∨ (0 : Int32) = 1) ∧ (0 : Int32) = (cNS f T x0 x1 x3 P).1 := by
          have t_c8 := neI c8
          have t_c9 := neI c9
          have t_c14 := eqI c14
          have : (0 : Int32).toInt = 0 := (by decide)
          have : (3 : Int32).toInt = 3 := (by decide)
          have t_n0 : (nI P).toInt = (P : Int) := nI_toInt (by omega)
          have t_n1 : (nI T).toInt = (T : Int) := nI_toInt (by omega)
          have z0 : (0 : Int32).toInt = 0 := (by decide)
          have z1 : (1 : Int32).toInt = 1 := (by decide)
          have z2 : (2 : Int32).toInt = 2 := (by decide)
          have z3 : (3 : Int32).toInt = 3 := (by decide)
          have z5 : (5 : Int32).toInt = 5 := (by decide)
          have z9 : (9 : Int32).toInt = 9 := (by decide)
          refine ⟨Or.inl rfl, ?_⟩
          unfold cNS
          (try rw [vw2])
          (try rw [ew2])
          (try rw [ew11])
          (try (repeat (first | rw [if_pos (by assumption)] | rw [if_neg (by assumption)] | rw [if_pos (by omega)] | rw [if_neg (by omega)] | rw [if_pos (by decide)] | rw [if_neg (by decide)])))
          all_goals rfl
        have hP9 := hP.sub (ws' := [(h0, .inr (5, [.ref tp, .ref td, .int u12, .int u13, .int x2, .int u5, .int (nI u6), .int (nI u7), .int x6, .int x7, .int x8, .int x9])), (tp, .inr (7, [.int (nI T), .ref ta])), (ta, .inl (G 0, 320, .inl f))]) [2, 0, 1] rfl
        have hD9 := hD.sub (ws' := [(h0, .inr (5, [.ref tp, .ref td, .int u12, .int u13, .int x2, .int u5, .int (nI u6), .int (nI u7), .int x6, .int x7, .int x8, .int x9])), (tp, .inr (7, [.int (nI T), .ref ta])), (ta, .inl (G 0, 320, .inl f))]) [2, 0, 1] (by decide) rfl
        refine W.widen (k := 0) (n := 0) (by omega) (by omega) ?_
        exact W.zret (v := 0) hx hb hr (by first | rfl | decide | exact rfl) (fun t ht hW => ⟨⟨0, (u12, u13, u5, u6, u7), rfl, ⟨hpost, (by have t_c8 := neI c8; have t_c9 := neI c9; have t_c14 := eqI c14; have : (0 : Int32).toInt = 0 := (by decide); have : (3 : Int32).toInt = 3 := (by decide); have t_n0 : (nI P).toInt = (P : Int) := nI_toInt (by omega); have t_n1 : (nI T).toInt = (T : Int) := nI_toInt (by omega); have z0 : (0 : Int32).toInt = 0 := (by decide); have z1 : (1 : Int32).toInt = 1 := (by decide); have z2 : (2 : Int32).toInt = 2 := (by decide); have z3 : (3 : Int32).toInt = 3 := (by decide); have z5 : (5 : Int32).toInt = 5 := (by decide); have z9 : (9 : Int32).toInt = 9 := (by decide); refine ⟨by omega, by omega, ?_⟩; unfold cNS; (try rw [vw2]); (try rw [ew2]); (try rw [ew11]); (try (repeat (first | rw [if_pos (by assumption)] | rw [if_neg (by assumption)] | rw [if_pos (by omega)] | rw [if_neg (by omega)] | rw [if_pos (by decide)] | rw [if_neg (by decide)]))); all_goals rfl)⟩, ⟨by rw [ht]; exact hP9, hD9⟩⟩, hS.F ht⟩) hS.2.2 dX5_nextStop_32
      · skip
        exact absurd c14 (by decide)
