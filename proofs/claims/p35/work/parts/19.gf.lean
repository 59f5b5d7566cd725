set_option maxHeartbeats 1000000 in
set_option maxRecDepth 100000 in
theorem c_X10_sheet (l : Launch) (dC : Nat → ClassId) (dI : Nat → Nat → Nat) (G : Nat → ClassId) (sz : Nat) (h0 rd wy tr im kp od ch cr le mk tl sh la si ce fi se : Nat) (tf rf k lane n x8 x9 : Int32) (fl fz : Nat → Int32) (rc : Nat → Nat) (F : Nat → Nat → Int32) (hz : ∀ q : Nat, q < 4 → 0 ≤ (fz q).toInt ∧ (fz q).toInt ≤ 40) : Met l yX10_sheet (Cond.code yX10_sheet cX10_sheet 4 (some .int) :: GT) ({ frames := 2, cells := 0, slots := 0, locals := 44 } : Room) (PcW [.ref h0, .int k, .int lane, .int n] dC dI G (([(h0, .inr (10, [.ref rd, .ref wy, .ref tr, .ref im, .ref kp, .ref od, .ref ch, .ref cr, .ref le, .ref mk, .ref tl, .ref sh, .int tf, .int rf])), (sh, .inr (6, [.ref la, .ref si, .ref ce, .int x8, .int x9, .ref fi, .ref se])), (la, .inl (G 0, 4, .inl fl)), (si, .inl (G 0, 4, .inl fz)), (ce, .inl (G 4, 4, .inr (.inr (.inr (.inr (fun ir => if ir < 4 then some (rc ir) else none))))))] : va_W) ++ ((((List.range 4).map (fun iq => (rc iq, .inl (G 0, 40, .inl (F iq))))) : va_W) ++ [])) sz) (va_Qi (fun (r : Int32) (u : (Nat → Int32) × (Nat → Int32) × (Nat → Nat → Int32)) => match u with | (u0, u1, u2) => (r = if (0 ≤ k.toInt ∧ k.toInt < 4) ∧ (0 ≤ lane.toInt ∧ lane.toInt ≤ 2) ∧ n.toInt ≤ 40 then (if n.toInt < 0 then -14 else 1) else -1) ∧ (u0 = (if ((0 ≤ k.toInt ∧ k.toInt < 4) ∧ (0 ≤ lane.toInt ∧ lane.toInt ≤ 2) ∧ n.toInt ≤ 40 ∧ 0 ≤ n.toInt) then upd fl k.toNatClampNeg lane else fl) ∧ u1 = (if ((0 ≤ k.toInt ∧ k.toInt < 4) ∧ (0 ≤ lane.toInt ∧ lane.toInt ≤ 2) ∧ n.toInt ≤ 40 ∧ 0 ≤ n.toInt) then upd fz k.toNatClampNeg n else fz)) ∧ ∀ q : Nat, q < 4 → 0 ≤ (u1 q).toInt ∧ (u1 q).toInt ≤ 40) (fun (u : (Nat → Int32) × (Nat → Int32) × (Nat → Nat → Int32)) (t : State) => match u with | (u0, u1, u2) => va_P (dC, dI) vwCl (([(h0, .inr (10, [.ref rd, .ref wy, .ref tr, .ref im, .ref kp, .ref od, .ref ch, .ref cr, .ref le, .ref mk, .ref tl, .ref sh, .int tf, .int rf])), (sh, .inr (6, [.ref la, .ref si, .ref ce, .int x8, .int x9, .ref fi, .ref se])), (la, .inl (G 0, 4, .inl u0)), (si, .inl (G 0, 4, .inl u1)), (ce, .inl (G 4, 4, .inr (.inr (.inr (.inr (fun ir => if ir < 4 then some (rc ir) else none))))))] : va_W) ++ ((((List.range 4).map (fun iq => (rc iq, .inl (G 0, 40, .inl (u2 iq))))) : va_W) ++ [])) t.heap ∧ va_D (va_A (([(h0, .inr (10, [.ref rd, .ref wy, .ref tr, .ref im, .ref kp, .ref od, .ref ch, .ref cr, .ref le, .ref mk, .ref tl, .ref sh, .int tf, .int rf])), (sh, .inr (6, [.ref la, .ref si, .ref ce, .int x8, .int x9, .ref fi, .ref se])), (la, .inl (G 0, 4, .inl fl)), (si, .inl (G 0, 4, .inl fz)), (ce, .inl (G 4, 4, .inr (.inr (.inr (.inr (fun ir => if ir < 4 then some (rc ir) else none))))))] : va_W) ++ ((((List.range 4).map (fun iq => (rc iq, .inl (G 0, 40, .inl (F iq))))) : va_W) ++ [])) sz) (([(h0, .inr (10, [.ref rd, .ref wy, .ref tr, .ref im, .ref kp, .ref od, .ref ch, .ref cr, .ref le, .ref mk, .ref tl, .ref sh, .int tf, .int rf])), (sh, .inr (6, [.ref la, .ref si, .ref ce, .int x8, .int x9, .ref fi, .ref se])), (la, .inl (G 0, 4, .inl u0)), (si, .inl (G 0, 4, .inl u1)), (ce, .inl (G 4, 4, .inr (.inr (.inr (.inr (fun ir => if ir < 4 then some (rc ir) else none))))))] : va_W) ++ ((((List.range 4).map (fun iq => (rc iq, .inl (G 0, 40, .inl (u2 iq))))) : va_W) ++ []))) (va_A (([(h0, .inr (10, [.ref rd, .ref wy, .ref tr, .ref im, .ref kp, .ref od, .ref ch, .ref cr, .ref le, .ref mk, .ref tl, .ref sh, .int tf, .int rf])), (sh, .inr (6, [.ref la, .ref si, .ref ce, .int x8, .int x9, .ref fi, .ref se])), (la, .inl (G 0, 4, .inl fl)), (si, .inl (G 0, 4, .inl fz)), (ce, .inl (G 4, 4, .inr (.inr (.inr (.inr (fun ir => if ir < 4 then some (rc ir) else none))))))] : va_W) ++ ((((List.range 4).map (fun iq => (rc iq, .inl (G 0, 40, .inl (F iq))))) : va_W) ++ [])) sz)) 0 0 (va_A (([(h0, .inr (10, [.ref rd, .ref wy, .ref tr, .ref im, .ref kp, .ref od, .ref ch, .ref cr, .ref le, .ref mk, .ref tl, .ref sh, .int tf, .int rf])), (sh, .inr (6, [.ref la, .ref si, .ref ce, .int x8, .int x9, .ref fi, .ref se])), (la, .inl (G 0, 4, .inl fl)), (si, .inl (G 0, 4, .inl fz)), (ce, .inl (G 4, 4, .inr (.inr (.inr (.inr (fun ir => if ir < 4 then some (rc ir) else none))))))] : va_W) ++ ((((List.range 4).map (fun iq => (rc iq, .inl (G 0, 40, .inl (F iq))))) : va_W) ++ [])) sz) := by
  refine Met.ofW (cc := cX10_sheet) (maxL := 4) (ret := (some .int)) (by decide) rfl ?_
  intro p e s m args below meth c s₁ Bd hml hv
  obtain ⟨rfl, hsz, hP, hK, hD0⟩ := hv
  have hx := Bd.exec
  have hb := Bd.bytes
  have hr := Bd.returns
  have hg : ∀ w ∈ GT, w.before ([.ref h0, .int k, .int lane, .int n] : List Value).toArray s = true := fun w h => atoms_spec (ws := Cond.code yX10_sheet cX10_sheet 4 (some .int) :: GT) Bd.pre w (List.mem_cons_of_mem _ h)
  have hown : s.vm.findClass RX10 = some m.cls := findClass_of_methodNamed Bd.named
  have hlocks := Bd.notSynchronized
  subst hsz
  have hD := hD0.self (sz := s.heap.size)
  generalize hAe : va_A (([(h0, .inr (10, [.ref rd, .ref wy, .ref tr, .ref im, .ref kp, .ref od, .ref ch, .ref cr, .ref le, .ref mk, .ref tl, .ref sh, .int tf, .int rf])), (sh, .inr (6, [.ref la, .ref si, .ref ce, .int x8, .int x9, .ref fi, .ref se])), (la, .inl (G 0, 4, .inl fl)), (si, .inl (G 0, 4, .inl fz)), (ce, .inl (G 4, 4, .inr (.inr (.inr (.inr (fun ir => if ir < 4 then some (rc ir) else none))))))] : va_W) ++ ((((List.range 4).map (fun iq => (rc iq, .inl (G 0, 40, .inl (F iq))))) : va_W) ++ [])) s.heap.size = A at hD ⊢
  have hA : ∀ q : Nat, s.heap.size ≤ q → A q := fun q h => by rw [← hAe]; exact Or.inr h
  have hS : va_S A s.heap s.heap [] := va_S.rf
  have hl := lv_entry ([.ref h0, .int k, .int lane, .int n]) (n := 4) (Nat.le_of_ble_eq_true rfl)
  rw [lg_entry_eq]
  generalize (lg_sl ([.ref h0, .int k, .int lane, .int n]) ++ List.replicate (4 - (lg_sl ([.ref h0, .int k, .int lane, .int n])).length) Slot.unset).toArray = ls at hl ⊢
  have hl : lv_has ls 4 [(0, .ref h0), (1, .int k), (2, .int lane), (3, .int n)] := hl
  refine lv_iload_n hx hb dX10_sheet_0 rfl (lv_at hl 1 rfl) ?_
  have hPc := hP.sub (ws' := []) [] rfl
  refine va_calli (va_runSN (As := [.int k]) (rest := []) ⟨hx, hb, hml, hown, hg⟩ (c_X6_isSheet l dC dI G _ k ) (kwSN hg hK mfX6_isSheet wn_823 ⟨Nat.le_of_ble_eq_true rfl, Nat.le_of_ble_eq_true rfl⟩) (preSR hK hPc) rfl rfl hl.1 rfl (lv_room (Nat.le_of_ble_eq_true rfl)) dX10_sheet_1 ⟨Nat.le_of_ble_eq_true rfl, Nat.le_of_ble_eq_true rfl⟩) hS (fun q h1 h2 => absurd h2 (Nat.not_le.mpr h1)) (fun q h => hA q (Nat.le_trans hS.1 h)) (fun r1 ur1 t H1 locs ht hvm w2 hB hz1 hk1 hS => ?_)
  have hP := keepR hP hk1
  obtain ⟨w2, w2x⟩ := w2
  try simp only [l_ii, show (0 : Int32).toInt = 0 from by decide, show (4 : Int32).toInt = 4 from by decide] at w2
  subst w2
  refine lv_if_eq (tgt := 20) hx hb dX10_sheet_4 (by decide) (fun c3 => ?_) (fun c3 => ?_)
  · skip
    have b4 := if10_n c3
    refine lv_iconst (v := (-1)) hx hb dX10_sheet_20 (by decide) ?_
    have hpost : ((-1) : Int32) = if (0 ≤ k.toInt ∧ k.toInt < 4) ∧ (0 ≤ lane.toInt ∧ lane.toInt ≤ 2) ∧ n.toInt ≤ 40 then (if n.toInt < 0 then -14 else 1) else -1 := by
      have t_b4 := b4
      first | rfl | ((repeat' split) <;> first | rfl | omega)
    have hP9 := hP.sub (ws' := (([(h0, .inr (10, [.ref rd, .ref wy, .ref tr, .ref im, .ref kp, .ref od, .ref ch, .ref cr, .ref le, .ref mk, .ref tl, .ref sh, .int tf, .int rf])), (sh, .inr (6, [.ref la, .ref si, .ref ce, .int x8, .int x9, .ref fi, .ref se])), (la, .inl (G 0, 4, .inl fl)), (si, .inl (G 0, 4, .inl fz)), (ce, .inl (G 4, 4, .inr (.inr (.inr (.inr (fun ir => if ir < 4 then some (rc ir) else none))))))] : va_W) ++ ((((List.range 4).map (fun iq => (rc iq, .inl (G 0, 40, .inl (F iq))))) : va_W) ++ []))) [0, 1, 2, 3, 4, 5, 6, 7, 8] rfl
    have hD9 := hD.sub (ws' := (([(h0, .inr (10, [.ref rd, .ref wy, .ref tr, .ref im, .ref kp, .ref od, .ref ch, .ref cr, .ref le, .ref mk, .ref tl, .ref sh, .int tf, .int rf])), (sh, .inr (6, [.ref la, .ref si, .ref ce, .int x8, .int x9, .ref fi, .ref se])), (la, .inl (G 0, 4, .inl fl)), (si, .inl (G 0, 4, .inl fz)), (ce, .inl (G 4, 4, .inr (.inr (.inr (.inr (fun ir => if ir < 4 then some (rc ir) else none))))))] : va_W) ++ ((((List.range 4).map (fun iq => (rc iq, .inl (G 0, 40, .inl (F iq))))) : va_W) ++ []))) [0, 1, 2, 3, 4, 5, 6, 7, 8] (by decide) rfl
    refine W.widen (k := 0) (n := 0) (by omega) (by omega) ?_
    exact W.iret (v := (-1)) hx hb hr (fun t ht hW => ⟨⟨(-1), (fl, fz, F), rfl, ⟨hpost, (by have t_b4 := b4; refine ⟨⟨?_, ?_⟩, hz⟩ <;> rw [if_neg (by omega)])⟩, ⟨by rw [ht]; exact hP9, hD9⟩⟩, hS.F ht⟩) hS.2.2 dX10_sheet_21
  · skip
    have b5 := if10_p c3
    refine lv_iload_n hx hb dX10_sheet_7 rfl (lv_at hl 2 rfl) ?_
    have hPc := hP.sub (ws' := []) [] rfl
    refine va_calli (va_runSN (As := [.int lane]) (rest := []) ⟨hx, hb, hml, hown, hg⟩ (c_X6_isLane l dC dI G _ lane ) (kwSN hg hK mfX6_isLane wn_826 ⟨Nat.le_of_ble_eq_true rfl, Nat.le_of_ble_eq_true rfl⟩) (preSR hK hPc) rfl rfl hl.1 rfl (lv_room (Nat.le_of_ble_eq_true rfl)) dX10_sheet_8 ⟨Nat.le_of_ble_eq_true rfl, Nat.le_of_ble_eq_true rfl⟩) hS (fun q h1 h2 => absurd h2 (Nat.not_le.mpr h1)) (fun q h => hA q (Nat.le_trans hS.1 h)) (fun r6 ur6 t H1 locs ht hvm w7 hB hz1 hk1 hS => ?_)
    have hP := keepR hP hk1
    obtain ⟨w7, w7x⟩ := w7
    try simp only [l_ii, show (0 : Int32).toInt = 0 from by decide, show (2 : Int32).toInt = 2 from by decide] at w7
    subst w7
    refine lv_if_eq (tgt := 20) hx hb dX10_sheet_11 (by decide) (fun c8 => ?_) (fun c8 => ?_)
    · skip
      have b9 := if10_n c8
      refine lv_iconst (v := (-1)) hx hb dX10_sheet_20 (by decide) ?_
      have hpost : ((-1) : Int32) = if (0 ≤ k.toInt ∧ k.toInt < 4) ∧ (0 ≤ lane.toInt ∧ lane.toInt ≤ 2) ∧ n.toInt ≤ 40 then (if n.toInt < 0 then -14 else 1) else -1 := by
        have t_b5 := b5
        have t_b9 := b9
        first | rfl | ((repeat' split) <;> first | rfl | omega)
      have hP9 := hP.sub (ws' := (([(h0, .inr (10, [.ref rd, .ref wy, .ref tr, .ref im, .ref kp, .ref od, .ref ch, .ref cr, .ref le, .ref mk, .ref tl, .ref sh, .int tf, .int rf])), (sh, .inr (6, [.ref la, .ref si, .ref ce, .int x8, .int x9, .ref fi, .ref se])), (la, .inl (G 0, 4, .inl fl)), (si, .inl (G 0, 4, .inl fz)), (ce, .inl (G 4, 4, .inr (.inr (.inr (.inr (fun ir => if ir < 4 then some (rc ir) else none))))))] : va_W) ++ ((((List.range 4).map (fun iq => (rc iq, .inl (G 0, 40, .inl (F iq))))) : va_W) ++ []))) [0, 1, 2, 3, 4, 5, 6, 7, 8] rfl
      have hD9 := hD.sub (ws' := (([(h0, .inr (10, [.ref rd, .ref wy, .ref tr, .ref im, .ref kp, .ref od, .ref ch, .ref cr, .ref le, .ref mk, .ref tl, .ref sh, .int tf, .int rf])), (sh, .inr (6, [.ref la, .ref si, .ref ce, .int x8, .int x9, .ref fi, .ref se])), (la, .inl (G 0, 4, .inl fl)), (si, .inl (G 0, 4, .inl fz)), (ce, .inl (G 4, 4, .inr (.inr (.inr (.inr (fun ir => if ir < 4 then some (rc ir) else none))))))] : va_W) ++ ((((List.range 4).map (fun iq => (rc iq, .inl (G 0, 40, .inl (F iq))))) : va_W) ++ []))) [0, 1, 2, 3, 4, 5, 6, 7, 8] (by decide) rfl
      refine W.widen (k := 0) (n := 0) (by omega) (by omega) ?_
      exact W.iret (v := (-1)) hx hb hr (fun t ht hW => ⟨⟨(-1), (fl, fz, F), rfl, ⟨hpost, (by have t_b5 := b5; have t_b9 := b9; refine ⟨⟨?_, ?_⟩, hz⟩ <;> rw [if_neg (by omega)])⟩, ⟨by rw [ht]; exact hP9, hD9⟩⟩, hS.F ht⟩) hS.2.2 dX10_sheet_21
    · skip
      have b10 := if10_p c8
      refine lv_iload_n hx hb dX10_sheet_14 rfl (lv_at hl 3 rfl) ?_
      refine lv_bipush (v := 40) hx hb dX10_sheet_15 (by decide) ?_
      refine lv_icmp_le (tgt := 22) hx hb dX10_sheet_17 (by decide) (fun c11 => ?_) (fun c11 => ?_)
      · skip
        refine lv_iload_n hx hb dX10_sheet_22 rfl (lv_at hl 3 rfl) ?_
        refine lv_if_ge (tgt := 29) hx hb dX10_sheet_23 (by decide) (fun c12 => ?_) (fun c12 => ?_)
        · skip
          obtain ⟨kk, hkk, rfl⟩ : ∃ j : Nat, j < 4 ∧ k = nI j := by
            have t_b5 := b5
            have t_b10 := b10
            have t_c11 := leI c11
            have t_c12 := leI c12
            have : (0 : Int32).toInt = 0 := (by decide)
            have : (40 : Int32).toInt = 40 := (by decide)
            exact i32_nat (by omega) (by omega)
          obtain ⟨nn, hnn, rfl⟩ : ∃ j : Nat, j < 41 ∧ n = nI j := by
            have t_b5 := b5
            have t_b10 := b10
            have t_c11 := leI c11
            have t_c12 := leI c12
            have t_hkk := hkk
            have : (0 : Int32).toInt = 0 := (by decide)
            have : (40 : Int32).toInt = 40 := (by decide)
            have t_n0 : (nI kk).toInt = (kk : Int) := nI_toInt (by omega)
            exact i32_nat (by omega) (by omega)
          refine lv_aload_n hx hb dX10_sheet_29 rfl (lv_at hl 0 rfl) ?_
          refine va_get (D := (dC, dI)) (ci := 10) (v := .ref sh) (C := RX10) (T := TX10) (N := 14) hx hb hg inG10 hown hK.1 hP 0 rfl rfl 11 (by decide) (hg _ wt_313) (fun _ h9 => h9) rfl dX10_sheet_30 ?_
          refine lv_iload_n hx hb dX10_sheet_33 rfl (lv_at hl 1 rfl) ?_
          refine lv_iload_n hx hb dX10_sheet_34 rfl (lv_at hl 2 rfl) ?_
          refine lv_iload_n hx hb dX10_sheet_35 rfl (lv_at hl 3 rfl) ?_
          have hPc := hP.sub (ws' := (([(sh, .inr (6, [.ref la, .ref si, .ref ce, .int x8, .int x9, .ref fi, .ref se])), (la, .inl (G 0, 4, .inl fl)), (si, .inl (G 0, 4, .inl fz)), (ce, .inl (G 4, 4, .inr (.inr (.inr (.inr (fun ir => if ir < 4 then some (rc ir) else none))))))] : va_W) ++ ((((List.range 4).map (fun iq => (rc iq, .inl (G 0, 40, .inl (F iq))))) : va_W) ++ []))) [1, 2, 3, 4, 5, 6, 7, 8] rfl
          have hDc := hD.sub (ws' := (([(sh, .inr (6, [.ref la, .ref si, .ref ce, .int x8, .int x9, .ref fi, .ref se])), (la, .inl (G 0, 4, .inl fl)), (si, .inl (G 0, 4, .inl fz)), (ce, .inl (G 4, 4, .inr (.inr (.inr (.inr (fun ir => if ir < 4 then some (rc ir) else none))))))] : va_W) ++ ((((List.range 4).map (fun iq => (rc iq, .inl (G 0, 40, .inl (F iq))))) : va_W) ++ []))) [1, 2, 3, 4, 5, 6, 7, 8] (by decide) rfl
          have hFc := va_free (wc := (([(sh, .inr (6, [.ref la, .ref si, .ref ce, .int x8, .int x9, .ref fi, .ref se])), (la, .inl (G 0, 4, .inl fl)), (si, .inl (G 0, 4, .inl fz)), (ce, .inl (G 4, 4, .inr (.inr (.inr (.inr (fun ir => if ir < 4 then some (rc ir) else none))))))] : va_W) ++ ((((List.range 4).map (fun iq => (rc iq, .inl (G 0, 40, .inl (F iq))))) : va_W) ++ []))) hD hS hA [1, 2, 3, 4, 5, 6, 7, 8] rfl
          refine va_callv (va_runVN (As := [.int (nI kk), .int lane, .int (nI nn)]) (rest := []) ⟨hx, hb, hml, hown, hg⟩ (c_X6_renew l dC dI G _ sh la si ce fi se kk nn x8 x9 lane fl fz rc F (by have t_b5 := b5; have t_b10 := b10; have t_c11 := leI c11; have t_c12 := leI c12; have t_hkk := hkk; have t_hnn := hnn; have : (0 : Int32).toInt = 0 := (by decide); have : (40 : Int32).toInt = 40 := (by decide); have t_n0 : (nI kk).toInt = (kk : Int) := nI_toInt (by omega); have t_n1 : (nI nn).toInt = (nn : Int) := nI_toInt (by omega); omega) (by have t_b5 := b5; have t_b10 := b10; have t_c11 := leI c11; have t_c12 := leI c12; have t_hkk := hkk; have t_hnn := hnn; have : (0 : Int32).toInt = 0 := (by decide); have : (40 : Int32).toInt = 40 := (by decide); have t_n0 : (nI kk).toInt = (kk : Int) := nI_toInt (by omega); have t_n1 : (nI nn).toInt = (nn : Int) := nI_toInt (by omega); omega)) (kwVN hg hK mfX6_renew wn_829 ⟨Nat.le_of_ble_eq_true rfl, Nat.le_of_ble_eq_true rfl⟩) (preVW hK hPc hDc (ci := 6) rfl rfl) rfl rfl hl.1 rfl (lv_room (Nat.le_of_ble_eq_true rfl)) dX10_sheet_36 ⟨Nat.le_of_ble_eq_true rfl, Nat.le_of_ble_eq_true rfl⟩) hS (fun q _ h => hFc q h) hFc (fun ur13 t H1 locs ht hvm w14 hB hz1 hk1 hS => ?_)
          obtain ⟨u15, u16, u17⟩ := ur13
          obtain ⟨hP1, hD1⟩ := hB
          rw [ht] at hP1
          obtain ⟨hP, hD⟩ := va_join (wr := [(h0, .inr (10, [.ref rd, .ref wy, .ref tr, .ref im, .ref kp, .ref od, .ref ch, .ref cr, .ref le, .ref mk, .ref tl, .ref sh, .int tf, .int rf]))]) (w1 := (([(sh, .inr (6, [.ref la, .ref si, .ref ce, .int x8, .int x9, .ref fi, .ref se])), (la, .inl (G 0, 4, .inl u16)), (si, .inl (G 0, 4, .inl u17)), (ce, .inl (G 4, 4, .inr (.inr (.inr (.inr (fun ir => if ir < 4 then some (rc ir) else none))))))] : va_W) ++ ((((List.range 4).map (fun iq => (rc iq, .inl (G 0, 40, .inl (u15 iq))))) : va_W) ++ []))) hP hD [1, 2, 3, 4, 5, 6, 7, 8] [0] rfl rfl (by decide) (by decide) hk1 hFc hP1 hD1
          have w14 : u16 = upd fl kk lane ∧ u17 = upd fz kk (nI nn) := w14
          generalize H1 = H at hP hS ⊢
          have hP : va_P (dC, dI) vwCl (([(h0, .inr (10, [.ref rd, .ref wy, .ref tr, .ref im, .ref kp, .ref od, .ref ch, .ref cr, .ref le, .ref mk, .ref tl, .ref sh, .int tf, .int rf])), (sh, .inr (6, [.ref la, .ref si, .ref ce, .int x8, .int x9, .ref fi, .ref se])), (la, .inl (G 0, 4, .inl u16)), (si, .inl (G 0, 4, .inl u17)), (ce, .inl (G 4, 4, .inr (.inr (.inr (.inr (fun ir => if ir < 4 then some (rc ir) else none))))))] : va_W) ++ ((((List.range 4).map (fun iq => (rc iq, .inl (G 0, 40, .inl (u15 iq))))) : va_W) ++ [])) H := hP
          have hD : va_D A (([(h0, .inr (10, [.ref rd, .ref wy, .ref tr, .ref im, .ref kp, .ref od, .ref ch, .ref cr, .ref le, .ref mk, .ref tl, .ref sh, .int tf, .int rf])), (sh, .inr (6, [.ref la, .ref si, .ref ce, .int x8, .int x9, .ref fi, .ref se])), (la, .inl (G 0, 4, .inl u16)), (si, .inl (G 0, 4, .inl u17)), (ce, .inl (G 4, 4, .inr (.inr (.inr (.inr (fun ir => if ir < 4 then some (rc ir) else none))))))] : va_W) ++ ((((List.range 4).map (fun iq => (rc iq, .inl (G 0, 40, .inl (u15 iq))))) : va_W) ++ [])) := hD
          refine lv_iconst (v := 1) hx hb dX10_sheet_39 (by decide) ?_
          have hpost : (1 : Int32) = if (0 ≤ (nI kk).toInt ∧ (nI kk).toInt < 4) ∧ (0 ≤ lane.toInt ∧ lane.toInt ≤ 2) ∧ (nI nn).toInt ≤ 40 then (if (nI nn).toInt < 0 then -14 else 1) else -1 := by
            have t_b5 := b5
            have t_b10 := b10
            have t_c11 := leI c11
            have t_c12 := leI c12
            have t_hkk := hkk
            have t_hnn := hnn
            have : (0 : Int32).toInt = 0 := (by decide)
            have : (40 : Int32).toInt = 40 := (by decide)
            have t_n0 : (nI kk).toInt = (kk : Int) := nI_toInt (by omega)
            have t_n1 : (nI nn).toInt = (nn : Int) := nI_toInt (by omega)
            have t_n0 : (nI kk).toInt = (kk : Int) := nI_toInt (by omega)
            have t_n1 : (nI nn).toInt = (nn : Int) := nI_toInt (by omega)
            first | rfl | ((repeat' split) <;> first | rfl | omega)
          have hP9 := hP.sub (ws' := (([(h0, .inr (10, [.ref rd, .ref wy, .ref tr, .ref im, .ref kp, .ref od, .ref ch, .ref cr, .ref le, .ref mk, .ref tl, .ref sh, .int tf, .int rf])), (sh, .inr (6, [.ref la, .ref si, .ref ce, .int x8, .int x9, .ref fi, .ref se])), (la, .inl (G 0, 4, .inl u16)), (si, .inl (G 0, 4, .inl u17)), (ce, .inl (G 4, 4, .inr (.inr (.inr (.inr (fun ir => if ir < 4 then some (rc ir) else none))))))] : va_W) ++ ((((List.range 4).map (fun iq => (rc iq, .inl (G 0, 40, .inl (u15 iq))))) : va_W) ++ []))) [0, 1, 2, 3, 4, 5, 6, 7, 8] rfl
          have hD9 := hD.sub (ws' := (([(h0, .inr (10, [.ref rd, .ref wy, .ref tr, .ref im, .ref kp, .ref od, .ref ch, .ref cr, .ref le, .ref mk, .ref tl, .ref sh, .int tf, .int rf])), (sh, .inr (6, [.ref la, .ref si, .ref ce, .int x8, .int x9, .ref fi, .ref se])), (la, .inl (G 0, 4, .inl u16)), (si, .inl (G 0, 4, .inl u17)), (ce, .inl (G 4, 4, .inr (.inr (.inr (.inr (fun ir => if ir < 4 then some (rc ir) else none))))))] : va_W) ++ ((((List.range 4).map (fun iq => (rc iq, .inl (G 0, 40, .inl (u15 iq))))) : va_W) ++ []))) [0, 1, 2, 3, 4, 5, 6, 7, 8] (by decide) rfl
          refine W.widen (k := 0) (n := 0) (by omega) (by omega) ?_
          exact W.iret (v := 1) hx hb hr (fun t ht hW => ⟨⟨1, (u16, u17, u15), rfl, ⟨hpost, (by have t_b5 := b5; have t_b10 := b10; have t_c11 := leI c11; have t_c12 := leI c12; have t_hkk := hkk; have t_hnn := hnn; have : (0 : Int32).toInt = 0 := (by decide); have : (40 : Int32).toInt = 40 := (by decide); have t_n0 : (nI kk).toInt = (kk : Int) := nI_toInt (by omega); have t_n1 : (nI nn).toInt = (nn : Int) := nI_toInt (by omega); have q9 := w14; refine ⟨⟨?_, ?_⟩, q9.2 ▸ hz_upd hz (by omega)⟩; (rw [if_pos (by omega), nI_clamp (by omega)]; exact q9.1); (rw [if_pos (by omega), nI_clamp (by omega)]; exact q9.2))⟩, ⟨by rw [ht]; exact hP9, hD9⟩⟩, hS.F ht⟩) hS.2.2 dX10_sheet_40
        · skip
          refine lv_bipush (v := (-14)) hx hb dX10_sheet_26 (by decide) ?_
          have hpost : ((-14) : Int32) = if (0 ≤ k.toInt ∧ k.toInt < 4) ∧ (0 ≤ lane.toInt ∧ lane.toInt ≤ 2) ∧ n.toInt ≤ 40 then (if n.toInt < 0 then -14 else 1) else -1 := by
            have t_b5 := b5
            have t_b10 := b10
            have t_c11 := leI c11
            have t_c12 := nleI c12
            have : (0 : Int32).toInt = 0 := (by decide)
            have : (40 : Int32).toInt = 40 := (by decide)
            first | rfl | ((repeat' split) <;> first | rfl | omega)
          have hP9 := hP.sub (ws' := (([(h0, .inr (10, [.ref rd, .ref wy, .ref tr, .ref im, .ref kp, .ref od, .ref ch, .ref cr, .ref le, .ref mk, .ref tl, .ref sh, .int tf, .int rf])), (sh, .inr (6, [.ref la, .ref si, .ref ce, .int x8, .int x9, .ref fi, .ref se])), (la, .inl (G 0, 4, .inl fl)), (si, .inl (G 0, 4, .inl fz)), (ce, .inl (G 4, 4, .inr (.inr (.inr (.inr (fun ir => if ir < 4 then some (rc ir) else none))))))] : va_W) ++ ((((List.range 4).map (fun iq => (rc iq, .inl (G 0, 40, .inl (F iq))))) : va_W) ++ []))) [0, 1, 2, 3, 4, 5, 6, 7, 8] rfl
          have hD9 := hD.sub (ws' := (([(h0, .inr (10, [.ref rd, .ref wy, .ref tr, .ref im, .ref kp, .ref od, .ref ch, .ref cr, .ref le, .ref mk, .ref tl, .ref sh, .int tf, .int rf])), (sh, .inr (6, [.ref la, .ref si, .ref ce, .int x8, .int x9, .ref fi, .ref se])), (la, .inl (G 0, 4, .inl fl)), (si, .inl (G 0, 4, .inl fz)), (ce, .inl (G 4, 4, .inr (.inr (.inr (.inr (fun ir => if ir < 4 then some (rc ir) else none))))))] : va_W) ++ ((((List.range 4).map (fun iq => (rc iq, .inl (G 0, 40, .inl (F iq))))) : va_W) ++ []))) [0, 1, 2, 3, 4, 5, 6, 7, 8] (by decide) rfl
          refine W.widen (k := 0) (n := 0) (by omega) (by omega) ?_
          exact W.iret (v := (-14)) hx hb hr (fun t ht hW => ⟨⟨(-14), (fl, fz, F), rfl, ⟨hpost, (by have t_b5 := b5; have t_b10 := b10; have t_c11 := leI c11; have t_c12 := nleI c12; have : (0 : Int32).toInt = 0 := (by decide); have : (40 : Int32).toInt = 40 := (by decide); refine ⟨⟨?_, ?_⟩, hz⟩ <;> rw [if_neg (by omega)])⟩, ⟨by rw [ht]; exact hP9, hD9⟩⟩, hS.F ht⟩) hS.2.2 dX10_sheet_28
      · skip
        refine lv_iconst (v := (-1)) hx hb dX10_sheet_20 (by decide) ?_
        have hpost : ((-1) : Int32) = if (0 ≤ k.toInt ∧ k.toInt < 4) ∧ (0 ≤ lane.toInt ∧ lane.toInt ≤ 2) ∧ n.toInt ≤ 40 then (if n.toInt < 0 then -14 else 1) else -1 := by
          have t_b5 := b5
          have t_b10 := b10
          have t_c11 := nleI c11
          have : (40 : Int32).toInt = 40 := (by decide)
          first | rfl | ((repeat' split) <;> first | rfl | omega)
        have hP9 := hP.sub (ws' := (([(h0, .inr (10, [.ref rd, .ref wy, .ref tr, .ref im, .ref kp, .ref od, .ref ch, .ref cr, .ref le, .ref mk, .ref tl, .ref sh, .int tf, .int rf])), (sh, .inr (6, [.ref la, .ref si, .ref ce, .int x8, .int x9, .ref fi, .ref se])), (la, .inl (G 0, 4, .inl fl)), (si, .inl (G 0, 4, .inl fz)), (ce, .inl (G 4, 4, .inr (.inr (.inr (.inr (fun ir => if ir < 4 then some (rc ir) else none))))))] : va_W) ++ ((((List.range 4).map (fun iq => (rc iq, .inl (G 0, 40, .inl (F iq))))) : va_W) ++ []))) [0, 1, 2, 3, 4, 5, 6, 7, 8] rfl
        have hD9 := hD.sub (ws' := (([(h0, .inr (10, [.ref rd, .ref wy, .ref tr, .ref im, .ref kp, .ref od, .ref ch, .ref cr, .ref le, .ref mk, .ref tl, .ref sh, .int tf, .int rf])), (sh, .inr (6, [.ref la, .ref si, .ref ce, .int x8, .int x9, .ref fi, .ref se])), (la, .inl (G 0, 4, .inl fl)), (si, .inl (G 0, 4, .inl fz)), (ce, .inl (G 4, 4, .inr (.inr (.inr (.inr (fun ir => if ir < 4 then some (rc ir) else none))))))] : va_W) ++ ((((List.range 4).map (fun iq => (rc iq, .inl (G 0, 40, .inl (F iq))))) : va_W) ++ []))) [0, 1, 2, 3, 4, 5, 6, 7, 8] (by decide) rfl
        refine W.widen (k := 0) (n := 0) (by omega) (by omega) ?_
        exact W.iret (v := (-1)) hx hb hr (fun t ht hW => ⟨⟨(-1), (fl, fz, F), rfl, ⟨hpost, (by have t_b5 := b5; have t_b10 := b10; have t_c11 := nleI c11; have : (40 : Int32).toInt = 40 := (by decide); refine ⟨⟨?_, ?_⟩, hz⟩ <;> rw [if_neg (by omega)])⟩, ⟨by rw [ht]; exact hP9, hD9⟩⟩, hS.F ht⟩) hS.2.2 dX10_sheet_21

set_option maxHeartbeats 1000000 in
set_option maxRecDepth 100000 in
theorem c_X10_lay (l : Launch) (dC : Nat → ClassId) (dI : Nat → Nat → Nat) (G : Nat → ClassId) (sz : Nat) (h0 rd wy tr im kp od ch cr le mk tl sh la si ce fi se : Nat) (tf rf k i v x8 x9 : Int32) (fl fz : Nat → Int32) (rc : Nat → Nat) (F : Nat → Nat → Int32) (hz : ∀ q : Nat, q < 4 → 0 ≤ (fz q).toInt ∧ (fz q).toInt ≤ 40) : Met l yX10_lay (Cond.code yX10_lay cX10_lay 5 (some .int) :: GT) ({ frames := 2, cells := 0, slots := 0, locals := 46 } : Room) (PcW [.ref h0, .int k, .int i, .int v] dC dI G (([(h0, .inr (10, [.ref rd, .ref wy, .ref tr, .ref im, .ref kp, .ref od, .ref ch, .ref cr, .ref le, .ref mk, .ref tl, .ref sh, .int tf, .int rf])), (sh, .inr (6, [.ref la, .ref si, .ref ce, .int x8, .int x9, .ref fi, .ref se])), (la, .inl (G 0, 4, .inl fl)), (si, .inl (G 0, 4, .inl fz)), (ce, .inl (G 4, 4, .inr (.inr (.inr (.inr (fun ir => if ir < 4 then some (rc ir) else none))))))] : va_W) ++ ((((List.range 4).map (fun iq => (rc iq, .inl (G 0, 40, .inl (F iq))))) : va_W) ++ [])) sz) (va_Qi (fun (r : Int32) (u : (Nat → Nat → Int32)) => match u with | u0 => (r = if 0 ≤ k.toInt ∧ k.toInt < 4 then (if fl k.toNatClampNeg = -1 then -11 else if 0 ≤ i.toInt ∧ i.toInt < (fz k.toNatClampNeg).toInt then 1 else -12) else -1) ∧ True) (fun (u : (Nat → Nat → Int32)) (t : State) => match u with | u0 => va_P (dC, dI) vwCl (([(h0, .inr (10, [.ref rd, .ref wy, .ref tr, .ref im, .ref kp, .ref od, .ref ch, .ref cr, .ref le, .ref mk, .ref tl, .ref sh, .int tf, .int rf])), (sh, .inr (6, [.ref la, .ref si, .ref ce, .int x8, .int x9, .ref fi, .ref se])), (la, .inl (G 0, 4, .inl fl)), (si, .inl (G 0, 4, .inl fz)), (ce, .inl (G 4, 4, .inr (.inr (.inr (.inr (fun ir => if ir < 4 then some (rc ir) else none))))))] : va_W) ++ ((((List.range 4).map (fun iq => (rc iq, .inl (G 0, 40, .inl (u0 iq))))) : va_W) ++ [])) t.heap ∧ va_D (va_A (([(h0, .inr (10, [.ref rd, .ref wy, .ref tr, .ref im, .ref kp, .ref od, .ref ch, .ref cr, .ref le, .ref mk, .ref tl, .ref sh, .int tf, .int rf])), (sh, .inr (6, [.ref la, .ref si, .ref ce, .int x8, .int x9, .ref fi, .ref se])), (la, .inl (G 0, 4, .inl fl)), (si, .inl (G 0, 4, .inl fz)), (ce, .inl (G 4, 4, .inr (.inr (.inr (.inr (fun ir => if ir < 4 then some (rc ir) else none))))))] : va_W) ++ ((((List.range 4).map (fun iq => (rc iq, .inl (G 0, 40, .inl (F iq))))) : va_W) ++ [])) sz) (([(h0, .inr (10, [.ref rd, .ref wy, .ref tr, .ref im, .ref kp, .ref od, .ref ch, .ref cr, .ref le, .ref mk, .ref tl, .ref sh, .int tf, .int rf])), (sh, .inr (6, [.ref la, .ref si, .ref ce, .int x8, .int x9, .ref fi, .ref se])), (la, .inl (G 0, 4, .inl fl)), (si, .inl (G 0, 4, .inl fz)), (ce, .inl (G 4, 4, .inr (.inr (.inr (.inr (fun ir => if ir < 4 then some (rc ir) else none))))))] : va_W) ++ ((((List.range 4).map (fun iq => (rc iq, .inl (G 0, 40, .inl (u0 iq))))) : va_W) ++ []))) (va_A (([(h0, .inr (10, [.ref rd, .ref wy, .ref tr, .ref im, .ref kp, .ref od, .ref ch, .ref cr, .ref le, .ref mk, .ref tl, .ref sh, .int tf, .int rf])), (sh, .inr (6, [.ref la, .ref si, .ref ce, .int x8, .int x9, .ref fi, .ref se])), (la, .inl (G 0, 4, .inl fl)), (si, .inl (G 0, 4, .inl fz)), (ce, .inl (G 4, 4, .inr (.inr (.inr (.inr (fun ir => if ir < 4 then some (rc ir) else none))))))] : va_W) ++ ((((List.range 4).map (fun iq => (rc iq, .inl (G 0, 40, .inl (F iq))))) : va_W) ++ [])) sz)) 0 0 (va_A (([(h0, .inr (10, [.ref rd, .ref wy, .ref tr, .ref im, .ref kp, .ref od, .ref ch, .ref cr, .ref le, .ref mk, .ref tl, .ref sh, .int tf, .int rf])), (sh, .inr (6, [.ref la, .ref si, .ref ce, .int x8, .int x9, .ref fi, .ref se])), (la, .inl (G 0, 4, .inl fl)), (si, .inl (G 0, 4, .inl fz)), (ce, .inl (G 4, 4, .inr (.inr (.inr (.inr (fun ir => if ir < 4 then some (rc ir) else none))))))] : va_W) ++ ((((List.range 4).map (fun iq => (rc iq, .inl (G 0, 40, .inl (F iq))))) : va_W) ++ [])) sz) := by
  refine Met.ofW (cc := cX10_lay) (maxL := 5) (ret := (some .int)) (by decide) rfl ?_
  intro p e s m args below meth c s₁ Bd hml hv
  obtain ⟨rfl, hsz, hP, hK, hD0⟩ := hv
  have hx := Bd.exec
  have hb := Bd.bytes
  have hr := Bd.returns
  have hg : ∀ w ∈ GT, w.before ([.ref h0, .int k, .int i, .int v] : List Value).toArray s = true := fun w h => atoms_spec (ws := Cond.code yX10_lay cX10_lay 5 (some .int) :: GT) Bd.pre w (List.mem_cons_of_mem _ h)
  have hown : s.vm.findClass RX10 = some m.cls := findClass_of_methodNamed Bd.named
  have hlocks := Bd.notSynchronized
  subst hsz
  have hD := hD0.self (sz := s.heap.size)
  generalize hAe : va_A (([(h0, .inr (10, [.ref rd, .ref wy, .ref tr, .ref im, .ref kp, .ref od, .ref ch, .ref cr, .ref le, .ref mk, .ref tl, .ref sh, .int tf, .int rf])), (sh, .inr (6, [.ref la, .ref si, .ref ce, .int x8, .int x9, .ref fi, .ref se])), (la, .inl (G 0, 4, .inl fl)), (si, .inl (G 0, 4, .inl fz)), (ce, .inl (G 4, 4, .inr (.inr (.inr (.inr (fun ir => if ir < 4 then some (rc ir) else none))))))] : va_W) ++ ((((List.range 4).map (fun iq => (rc iq, .inl (G 0, 40, .inl (F iq))))) : va_W) ++ [])) s.heap.size = A at hD ⊢
  have hA : ∀ q : Nat, s.heap.size ≤ q → A q := fun q h => by rw [← hAe]; exact Or.inr h
  have hS : va_S A s.heap s.heap [] := va_S.rf
  have hl := lv_entry ([.ref h0, .int k, .int i, .int v]) (n := 5) (Nat.le_of_ble_eq_true rfl)
  rw [lg_entry_eq]
  generalize (lg_sl ([.ref h0, .int k, .int i, .int v]) ++ List.replicate (5 - (lg_sl ([.ref h0, .int k, .int i, .int v])).length) Slot.unset).toArray = ls at hl ⊢
  have hl : lv_has ls 5 [(0, .ref h0), (1, .int k), (2, .int i), (3, .int v)] := hl
  refine lv_iload_n hx hb dX10_lay_0 rfl (lv_at hl 1 rfl) ?_
  have hPc := hP.sub (ws' := []) [] rfl
  refine va_calli (va_runSN (As := [.int k]) (rest := []) ⟨hx, hb, hml, hown, hg⟩ (c_X6_isSheet l dC dI G _ k ) (kwSN hg hK mfX6_isSheet wn_823 ⟨Nat.le_of_ble_eq_true rfl, Nat.le_of_ble_eq_true rfl⟩) (preSR hK hPc) rfl rfl hl.1 rfl (lv_room (Nat.le_of_ble_eq_true rfl)) dX10_lay_1 ⟨Nat.le_of_ble_eq_true rfl, Nat.le_of_ble_eq_true rfl⟩) hS (fun q h1 h2 => absurd h2 (Nat.not_le.mpr h1)) (fun q h => hA q (Nat.le_trans hS.1 h)) (fun r1 ur1 t H1 locs ht hvm w2 hB hz1 hk1 hS => ?_)
  have hP := keepR hP hk1
  obtain ⟨w2, w2x⟩ := w2
  try simp only [l_ii, show (0 : Int32).toInt = 0 from by decide, show (4 : Int32).toInt = 4 from by decide] at w2
  subst w2
  refine lv_if_ne (tgt := 9) hx hb dX10_lay_4 (by decide) (fun c3 => ?_) (fun c3 => ?_)
  · skip
    have b4 := if10_p c3
    obtain ⟨kk, hkk, rfl⟩ : ∃ j : Nat, j < 4 ∧ k = nI j := by
      have t_b4 := b4
      exact i32_nat (by omega) (by omega)
    refine lv_aload_n hx hb dX10_lay_9 rfl (lv_at hl 0 rfl) ?_
    refine va_get (D := (dC, dI)) (ci := 10) (v := .ref sh) (C := RX10) (T := TX10) (N := 14) hx hb hg inG10 hown hK.1 hP 0 rfl rfl 11 (by decide) (hg _ wt_313) (fun _ h9 => h9) rfl dX10_lay_10 ?_
    refine lv_iload_n hx hb dX10_lay_13 rfl (lv_at hl 1 rfl) ?_
    refine lv_iload_n hx hb dX10_lay_14 rfl (lv_at hl 2 rfl) ?_
    refine lv_i2l (v := i.toInt64) hx hb dX10_lay_15 rfl ?_
    have hPc := hP.sub (ws' := [(sh, .inr (6, [.ref la, .ref si, .ref ce, .int x8, .int x9, .ref fi, .ref se])), (la, .inl (G 0, 4, .inl fl)), (si, .inl (G 0, 4, .inl fz))]) [1, 2, 3] rfl
    refine va_calli (va_runVN (As := [.int (nI kk), .long i.toInt64]) (rest := []) ⟨hx, hb, hml, hown, hg⟩ (c_X6_faultAt l dC dI G _ sh la si ce fi se kk x8 x9 i.toInt64 fl fz (by have t_b4 := b4; have t_hkk := hkk; have t_n0 : (nI kk).toInt = (kk : Int) := nI_toInt (by omega); omega)) (kwVN hg hK mfX6_faultAt wn_838 ⟨Nat.le_of_ble_eq_true rfl, Nat.le_of_ble_eq_true rfl⟩) (preVR hK hPc (ci := 6) rfl rfl) rfl rfl hl.1 rfl (lv_room (Nat.le_of_ble_eq_true rfl)) dX10_lay_16 ⟨Nat.le_of_ble_eq_true rfl, Nat.le_of_ble_eq_true rfl⟩) hS (fun q h1 h2 => absurd h2 (Nat.not_le.mpr h1)) (fun q h => hA q (Nat.le_trans hS.1 h)) (fun r5 ur5 t H1 locs ht hvm w6 hB hz1 hk1 hS => ?_)
    have hP := keepR hP hk1
    obtain ⟨w6, w6x⟩ := w6
    refine lv_istore (lv' := [(4, .int r5), (0, .ref h0), (1, .int (nI kk)), (2, .int i), (3, .int v)]) hx hb dX10_lay_19 hl (by decide) rfl (fun ls hl => ?_)
    refine lv_iload hx hb dX10_lay_21 (lv_at hl 0 rfl) ?_
    refine lv_if_eq (tgt := 32) hx hb dX10_lay_23 (by decide) (fun c7 => ?_) (fun c7 => ?_)
    · skip
      have b8 := fz0 w6 c7
      refine lv_aload_n hx hb dX10_lay_32 rfl (lv_at hl 1 rfl) ?_
      refine va_get (D := (dC, dI)) (ci := 10) (v := .ref sh) (C := RX10) (T := TX10) (N := 14) hx hb hg inG10 hown hK.1 hP 0 rfl rfl 11 (by decide) (hg _ wt_313) (fun _ h9 => h9) rfl dX10_lay_33 ?_
      refine lv_iload_n hx hb dX10_lay_36 rfl (lv_at hl 2 rfl) ?_
      refine lv_iload_n hx hb dX10_lay_37 rfl (lv_at hl 3 rfl) ?_
      refine lv_iload_n hx hb dX10_lay_38 rfl (lv_at hl 4 rfl) ?_
      have hPc := hP.sub (ws' := (([(sh, .inr (6, [.ref la, .ref si, .ref ce, .int x8, .int x9, .ref fi, .ref se])), (la, .inl (G 0, 4, .inl fl)), (si, .inl (G 0, 4, .inl fz)), (ce, .inl (G 4, 4, .inr (.inr (.inr (.inr (fun ir => if ir < 4 then some (rc ir) else none))))))] : va_W) ++ ((((List.range 4).map (fun iq => (rc iq, .inl (G 0, 40, .inl (F iq))))) : va_W) ++ []))) [1, 2, 3, 4, 5, 6, 7, 8] rfl
      have hDc := hD.sub (ws' := (([(sh, .inr (6, [.ref la, .ref si, .ref ce, .int x8, .int x9, .ref fi, .ref se])), (la, .inl (G 0, 4, .inl fl)), (si, .inl (G 0, 4, .inl fz)), (ce, .inl (G 4, 4, .inr (.inr (.inr (.inr (fun ir => if ir < 4 then some (rc ir) else none))))))] : va_W) ++ ((((List.range 4).map (fun iq => (rc iq, .inl (G 0, 40, .inl (F iq))))) : va_W) ++ []))) [1, 2, 3, 4, 5, 6, 7, 8] (by decide) rfl
      have hFc := va_free (wc := (([(sh, .inr (6, [.ref la, .ref si, .ref ce, .int x8, .int x9, .ref fi, .ref se])), (la, .inl (G 0, 4, .inl fl)), (si, .inl (G 0, 4, .inl fz)), (ce, .inl (G 4, 4, .inr (.inr (.inr (.inr (fun ir => if ir < 4 then some (rc ir) else none))))))] : va_W) ++ ((((List.range 4).map (fun iq => (rc iq, .inl (G 0, 40, .inl (F iq))))) : va_W) ++ []))) hD hS hA [1, 2, 3, 4, 5, 6, 7, 8] rfl
      refine va_callv (va_runVN (As := [.int (nI kk), .int i, .int v]) (rest := []) ⟨hx, hb, hml, hown, hg⟩ (c_X6_fill l dC dI G _ sh la si ce fi se kk x8 x9 i v fl fz rc F (by omega) hz) (kwVN hg hK mfX6_fill wn_842 ⟨Nat.le_of_ble_eq_true rfl, Nat.le_of_ble_eq_true rfl⟩) (preVW hK hPc hDc (ci := 6) rfl rfl) rfl rfl hl.1 rfl (lv_room (Nat.le_of_ble_eq_true rfl)) dX10_lay_39 ⟨Nat.le_of_ble_eq_true rfl, Nat.le_of_ble_eq_true rfl⟩) hS (fun q _ h => hFc q h) hFc (fun ur9 t H1 locs ht hvm w10 hB hz1 hk1 hS => ?_)
      obtain ⟨u11, rfl⟩ : ∃ z, z = ur9 := ⟨_, rfl⟩
      obtain ⟨hP1, hD1⟩ := hB
      rw [ht] at hP1
      obtain ⟨hP, hD⟩ := va_join (wr := [(h0, .inr (10, [.ref rd, .ref wy, .ref tr, .ref im, .ref kp, .ref od, .ref ch, .ref cr, .ref le, .ref mk, .ref tl, .ref sh, .int tf, .int rf]))]) (w1 := (([(sh, .inr (6, [.ref la, .ref si, .ref ce, .int x8, .int x9, .ref fi, .ref se])), (la, .inl (G 0, 4, .inl fl)), (si, .inl (G 0, 4, .inl fz)), (ce, .inl (G 4, 4, .inr (.inr (.inr (.inr (fun ir => if ir < 4 then some (rc ir) else none))))))] : va_W) ++ ((((List.range 4).map (fun iq => (rc iq, .inl (G 0, 40, .inl (u11 iq))))) : va_W) ++ []))) hP hD [1, 2, 3, 4, 5, 6, 7, 8] [0] rfl rfl (by decide) (by decide) hk1 hFc hP1 hD1
      generalize H1 = H at hP hS ⊢
      have hP : va_P (dC, dI) vwCl (([(h0, .inr (10, [.ref rd, .ref wy, .ref tr, .ref im, .ref kp, .ref od, .ref ch, .ref cr, .ref le, .ref mk, .ref tl, .ref sh, .int tf, .int rf])), (sh, .inr (6, [.ref la, .ref si, .ref ce, .int x8, .int x9, .ref fi, .ref se])), (la, .inl (G 0, 4, .inl fl)), (si, .inl (G 0, 4, .inl fz)), (ce, .inl (G 4, 4, .inr (.inr (.inr (.inr (fun ir => if ir < 4 then some (rc ir) else none))))))] : va_W) ++ ((((List.range 4).map (fun iq => (rc iq, .inl (G 0, 40, .inl (u11 iq))))) : va_W) ++ [])) H := hP
      have hD : va_D A (([(h0, .inr (10, [.ref rd, .ref wy, .ref tr, .ref im, .ref kp, .ref od, .ref ch, .ref cr, .ref le, .ref mk, .ref tl, .ref sh, .int tf, .int rf])), (sh, .inr (6, [.ref la, .ref si, .ref ce, .int x8, .int x9, .ref fi, .ref se])), (la, .inl (G 0, 4, .inl fl)), (si, .inl (G 0, 4, .inl fz)), (ce, .inl (G 4, 4, .inr (.inr (.inr (.inr (fun ir => if ir < 4 then some (rc ir) else none))))))] : va_W) ++ ((((List.range 4).map (fun iq => (rc iq, .inl (G 0, 40, .inl (u11 iq))))) : va_W) ++ [])) := hD
      refine lv_iconst (v := 1) hx hb dX10_lay_42 (by decide) ?_
      have hpost : (1 : Int32) = if 0 ≤ (nI kk).toInt ∧ (nI kk).toInt < 4 then (if fl (nI kk).toNatClampNeg = -1 then -11 else if 0 ≤ i.toInt ∧ i.toInt < (fz (nI kk).toNatClampNeg).toInt then 1 else -12) else -1 := by
        have t_b4 := b4
        have t_hkk := hkk
        have t_b8 := b8
        have t_n0 : (nI kk).toInt = (kk : Int) := nI_toInt (by omega)
        rw [nI_clamp (by omega), if_pos (by omega)]
        have q9 := w6
        simp only [l_ii] at q9
        have c9 : r5 = 0 := by assumption
        rw [c9] at q9
        split at q9
        · exact absurd q9 (by decide)
        · rename_i d; rw [if_neg d]; split at q9
          · exact absurd q9 (by decide)
          · rename_i g; rw [if_pos (by omega)]
      have hP9 := hP.sub (ws' := (([(h0, .inr (10, [.ref rd, .ref wy, .ref tr, .ref im, .ref kp, .ref od, .ref ch, .ref cr, .ref le, .ref mk, .ref tl, .ref sh, .int tf, .int rf])), (sh, .inr (6, [.ref la, .ref si, .ref ce, .int x8, .int x9, .ref fi, .ref se])), (la, .inl (G 0, 4, .inl fl)), (si, .inl (G 0, 4, .inl fz)), (ce, .inl (G 4, 4, .inr (.inr (.inr (.inr (fun ir => if ir < 4 then some (rc ir) else none))))))] : va_W) ++ ((((List.range 4).map (fun iq => (rc iq, .inl (G 0, 40, .inl (u11 iq))))) : va_W) ++ []))) [0, 1, 2, 3, 4, 5, 6, 7, 8] rfl
      have hD9 := hD.sub (ws' := (([(h0, .inr (10, [.ref rd, .ref wy, .ref tr, .ref im, .ref kp, .ref od, .ref ch, .ref cr, .ref le, .ref mk, .ref tl, .ref sh, .int tf, .int rf])), (sh, .inr (6, [.ref la, .ref si, .ref ce, .int x8, .int x9, .ref fi, .ref se])), (la, .inl (G 0, 4, .inl fl)), (si, .inl (G 0, 4, .inl fz)), (ce, .inl (G 4, 4, .inr (.inr (.inr (.inr (fun ir => if ir < 4 then some (rc ir) else none))))))] : va_W) ++ ((((List.range 4).map (fun iq => (rc iq, .inl (G 0, 40, .inl (u11 iq))))) : va_W) ++ []))) [0, 1, 2, 3, 4, 5, 6, 7, 8] (by decide) rfl
      refine W.widen (k := 0) (n := 0) (by omega) (by omega) ?_
      exact W.iret (v := 1) hx hb hr (fun t ht hW => ⟨⟨1, u11, rfl, ⟨hpost, trivial⟩, ⟨by rw [ht]; exact hP9, hD9⟩⟩, hS.F ht⟩) hS.2.2 dX10_lay_43
    · skip
      refine lv_bipush (v := (-10)) hx hb dX10_lay_26 (by decide) ?_
      refine lv_iload hx hb dX10_lay_28 (lv_at hl 0 rfl) ?_
      refine lv_isub hx hb dX10_lay_30 ?_
      have hpost : ((-10) - r5 : Int32) = if 0 ≤ (nI kk).toInt ∧ (nI kk).toInt < 4 then (if fl (nI kk).toNatClampNeg = -1 then -11 else if 0 ≤ i.toInt ∧ i.toInt < (fz (nI kk).toNatClampNeg).toInt then 1 else -12) else -1 := by
        have t_b4 := b4
        have t_hkk := hkk
        have t_c7 := neI c7
        have : (0 : Int32).toInt = 0 := (by decide)
        have t_n0 : (nI kk).toInt = (kk : Int) := nI_toInt (by omega)
        rw [nI_clamp (by omega), if_pos (by omega)]
        have q9 := w6
        simp only [l_ii] at q9
        split at q9
        · rename_i d; rw [q9, if_pos d]; decide
        · rename_i d; rw [if_neg d]; split at q9
          · rename_i g; rw [q9, if_neg (by omega)]; decide
          · exact absurd q9 (by assumption)
      have hP9 := hP.sub (ws' := (([(h0, .inr (10, [.ref rd, .ref wy, .ref tr, .ref im, .ref kp, .ref od, .ref ch, .ref cr, .ref le, .ref mk, .ref tl, .ref sh, .int tf, .int rf])), (sh, .inr (6, [.ref la, .ref si, .ref ce, .int x8, .int x9, .ref fi, .ref se])), (la, .inl (G 0, 4, .inl fl)), (si, .inl (G 0, 4, .inl fz)), (ce, .inl (G 4, 4, .inr (.inr (.inr (.inr (fun ir => if ir < 4 then some (rc ir) else none))))))] : va_W) ++ ((((List.range 4).map (fun iq => (rc iq, .inl (G 0, 40, .inl (F iq))))) : va_W) ++ []))) [0, 1, 2, 3, 4, 5, 6, 7, 8] rfl
      have hD9 := hD.sub (ws' := (([(h0, .inr (10, [.ref rd, .ref wy, .ref tr, .ref im, .ref kp, .ref od, .ref ch, .ref cr, .ref le, .ref mk, .ref tl, .ref sh, .int tf, .int rf])), (sh, .inr (6, [.ref la, .ref si, .ref ce, .int x8, .int x9, .ref fi, .ref se])), (la, .inl (G 0, 4, .inl fl)), (si, .inl (G 0, 4, .inl fz)), (ce, .inl (G 4, 4, .inr (.inr (.inr (.inr (fun ir => if ir < 4 then some (rc ir) else none))))))] : va_W) ++ ((((List.range 4).map (fun iq => (rc iq, .inl (G 0, 40, .inl (F iq))))) : va_W) ++ []))) [0, 1, 2, 3, 4, 5, 6, 7, 8] (by decide) rfl
      refine W.widen (k := 0) (n := 0) (by omega) (by omega) ?_
      exact W.iret (v := (-10) - r5) hx hb hr (fun t ht hW => ⟨⟨(-10) - r5, F, rfl, ⟨hpost, trivial⟩, ⟨by rw [ht]; exact hP9, hD9⟩⟩, hS.F ht⟩) hS.2.2 dX10_lay_31
  · skip
    have b12 := if10_n c3
    refine lv_iconst (v := (-1)) hx hb dX10_lay_7 (by decide) ?_
    have hpost : ((-1) : Int32) = if 0 ≤ k.toInt ∧ k.toInt < 4 then (if fl k.toNatClampNeg = -1 then -11 else if 0 ≤ i.toInt ∧ i.toInt < (fz k.toNatClampNeg).toInt then 1 else -12) else -1 := by
      have t_b12 := b12
      rw [if_neg (by omega)]
    have hP9 := hP.sub (ws' := (([(h0, .inr (10, [.ref rd, .ref wy, .ref tr, .ref im, .ref kp, .ref od, .ref ch, .ref cr, .ref le, .ref mk, .ref tl, .ref sh, .int tf, .int rf])), (sh, .inr (6, [.ref la, .ref si, .ref ce, .int x8, .int x9, .ref fi, .ref se])), (la, .inl (G 0, 4, .inl fl)), (si, .inl (G 0, 4, .inl fz)), (ce, .inl (G 4, 4, .inr (.inr (.inr (.inr (fun ir => if ir < 4 then some (rc ir) else none))))))] : va_W) ++ ((((List.range 4).map (fun iq => (rc iq, .inl (G 0, 40, .inl (F iq))))) : va_W) ++ []))) [0, 1, 2, 3, 4, 5, 6, 7, 8] rfl
    have hD9 := hD.sub (ws' := (([(h0, .inr (10, [.ref rd, .ref wy, .ref tr, .ref im, .ref kp, .ref od, .ref ch, .ref cr, .ref le, .ref mk, .ref tl, .ref sh, .int tf, .int rf])), (sh, .inr (6, [.ref la, .ref si, .ref ce, .int x8, .int x9, .ref fi, .ref se])), (la, .inl (G 0, 4, .inl fl)), (si, .inl (G 0, 4, .inl fz)), (ce, .inl (G 4, 4, .inr (.inr (.inr (.inr (fun ir => if ir < 4 then some (rc ir) else none))))))] : va_W) ++ ((((List.range 4).map (fun iq => (rc iq, .inl (G 0, 40, .inl (F iq))))) : va_W) ++ []))) [0, 1, 2, 3, 4, 5, 6, 7, 8] (by decide) rfl
    refine W.widen (k := 0) (n := 0) (by omega) (by omega) ?_
    exact W.iret (v := (-1)) hx hb hr (fun t ht hW => ⟨⟨(-1), F, rfl, ⟨hpost, trivial⟩, ⟨by rw [ht]; exact hP9, hD9⟩⟩, hS.F ht⟩) hS.2.2 dX10_lay_8

set_option maxHeartbeats 1000000 in
set_option maxRecDepth 100000 in
theorem c_X6_takePairs (l : Launch) (dC : Nat → ClassId) (dI : Nat → Nat → Nat) (G : Nat → ClassId) (sz : Nat) (h0 la si ce fi se k nn : Nat) (x8 x9 lane x1 : Int32) (fl fz f1 f2 : Nat → Int32) (rc : Nat → Nat) (F : Nat → Nat → Int32) (hk : k < 4) (hnn : nn ≤ 20) (hz : ∀ q : Nat, q < 4 → 0 ≤ (fz q).toInt ∧ (fz q).toInt ≤ 40) : Met l yX6_takePairs (Cond.code yX6_takePairs cX6_takePairs 8 none :: GT) ({ frames := 1, cells := 0, slots := 0, locals := 23 } : Room) (PcW [.ref h0, .int (nI k), .int lane, .int x1, .int (nI nn)] dC dI G (([(h0, .inr (6, [.ref la, .ref si, .ref ce, .int x8, .int x9, .ref fi, .ref se])), (la, .inl (G 0, 4, .inl fl)), (si, .inl (G 0, 4, .inl fz)), (ce, .inl (G 4, 4, .inr (.inr (.inr (.inr (fun ir => if ir < 4 then some (rc ir) else none)))))), (fi, .inl (G 0, 20, .inl f1)), (se, .inl (G 0, 20, .inl f2))] : va_W) ++ ((((List.range 4).map (fun iq => (rc iq, .inl (G 0, 40, .inl (F iq))))) : va_W) ++ [])) sz) (va_Qv (fun (u : Int32 × Nat × (Nat → Int32) × (Nat → Int32)) => match u with | (u0, u1, u2, u3) => u1 ≤ 20) (fun (u : Int32 × Nat × (Nat → Int32) × (Nat → Int32)) (t : State) => match u with | (u0, u1, u2, u3) => va_P (dC, dI) vwCl (([(h0, .inr (6, [.ref la, .ref si, .ref ce, .int u0, .int (nI u1), .ref fi, .ref se])), (la, .inl (G 0, 4, .inl fl)), (si, .inl (G 0, 4, .inl fz)), (ce, .inl (G 4, 4, .inr (.inr (.inr (.inr (fun ir => if ir < 4 then some (rc ir) else none)))))), (fi, .inl (G 0, 20, .inl u2)), (se, .inl (G 0, 20, .inl u3))] : va_W) ++ ((((List.range 4).map (fun iq => (rc iq, .inl (G 0, 40, .inl (F iq))))) : va_W) ++ [])) t.heap ∧ va_D (va_A (([(h0, .inr (6, [.ref la, .ref si, .ref ce, .int x8, .int x9, .ref fi, .ref se])), (la, .inl (G 0, 4, .inl fl)), (si, .inl (G 0, 4, .inl fz)), (ce, .inl (G 4, 4, .inr (.inr (.inr (.inr (fun ir => if ir < 4 then some (rc ir) else none)))))), (fi, .inl (G 0, 20, .inl f1)), (se, .inl (G 0, 20, .inl f2))] : va_W) ++ ((((List.range 4).map (fun iq => (rc iq, .inl (G 0, 40, .inl (F iq))))) : va_W) ++ [])) sz) (([(h0, .inr (6, [.ref la, .ref si, .ref ce, .int u0, .int (nI u1), .ref fi, .ref se])), (la, .inl (G 0, 4, .inl fl)), (si, .inl (G 0, 4, .inl fz)), (ce, .inl (G 4, 4, .inr (.inr (.inr (.inr (fun ir => if ir < 4 then some (rc ir) else none)))))), (fi, .inl (G 0, 20, .inl u2)), (se, .inl (G 0, 20, .inl u3))] : va_W) ++ ((((List.range 4).map (fun iq => (rc iq, .inl (G 0, 40, .inl (F iq))))) : va_W) ++ []))) (va_A (([(h0, .inr (6, [.ref la, .ref si, .ref ce, .int x8, .int x9, .ref fi, .ref se])), (la, .inl (G 0, 4, .inl fl)), (si, .inl (G 0, 4, .inl fz)), (ce, .inl (G 4, 4, .inr (.inr (.inr (.inr (fun ir => if ir < 4 then some (rc ir) else none)))))), (fi, .inl (G 0, 20, .inl f1)), (se, .inl (G 0, 20, .inl f2))] : va_W) ++ ((((List.range 4).map (fun iq => (rc iq, .inl (G 0, 40, .inl (F iq))))) : va_W) ++ [])) sz)) 0 0 (va_A (([(h0, .inr (6, [.ref la, .ref si, .ref ce, .int x8, .int x9, .ref fi, .ref se])), (la, .inl (G 0, 4, .inl fl)), (si, .inl (G 0, 4, .inl fz)), (ce, .inl (G 4, 4, .inr (.inr (.inr (.inr (fun ir => if ir < 4 then some (rc ir) else none)))))), (fi, .inl (G 0, 20, .inl f1)), (se, .inl (G 0, 20, .inl f2))] : va_W) ++ ((((List.range 4).map (fun iq => (rc iq, .inl (G 0, 40, .inl (F iq))))) : va_W) ++ [])) sz) := by
  refine Met.ofW (cc := cX6_takePairs) (maxL := 8) (ret := none) (by decide) rfl ?_
  intro p e s m args below meth c s₁ Bd hml hv
  obtain ⟨rfl, hsz, hP, hK, hD0⟩ := hv
  have hx := Bd.exec
  have hb := Bd.bytes
  have hr := Bd.returns
  have hg : ∀ w ∈ GT, w.before ([.ref h0, .int (nI k), .int lane, .int x1, .int (nI nn)] : List Value).toArray s = true := fun w h => atoms_spec (ws := Cond.code yX6_takePairs cX6_takePairs 8 none :: GT) Bd.pre w (List.mem_cons_of_mem _ h)
  have hown : s.vm.findClass RX6 = some m.cls := findClass_of_methodNamed Bd.named
  have hlocks := Bd.notSynchronized
  subst hsz
  have hD := hD0.self (sz := s.heap.size)
  generalize hAe : va_A (([(h0, .inr (6, [.ref la, .ref si, .ref ce, .int x8, .int x9, .ref fi, .ref se])), (la, .inl (G 0, 4, .inl fl)), (si, .inl (G 0, 4, .inl fz)), (ce, .inl (G 4, 4, .inr (.inr (.inr (.inr (fun ir => if ir < 4 then some (rc ir) else none)))))), (fi, .inl (G 0, 20, .inl f1)), (se, .inl (G 0, 20, .inl f2))] : va_W) ++ ((((List.range 4).map (fun iq => (rc iq, .inl (G 0, 40, .inl (F iq))))) : va_W) ++ [])) s.heap.size = A at hD ⊢
  have hA : ∀ q : Nat, s.heap.size ≤ q → A q := fun q h => by rw [← hAe]; exact Or.inr h
  have hS : va_S A s.heap s.heap [] := va_S.rf
  have hl := lv_entry ([.ref h0, .int (nI k), .int lane, .int x1, .int (nI nn)]) (n := 8) (Nat.le_of_ble_eq_true rfl)
  rw [lg_entry_eq]
  generalize (lg_sl ([.ref h0, .int (nI k), .int lane, .int x1, .int (nI nn)]) ++ List.replicate (8 - (lg_sl ([.ref h0, .int (nI k), .int lane, .int x1, .int (nI nn)])).length) Slot.unset).toArray = ls at hl ⊢
  have hl : lv_has ls 8 [(0, .ref h0), (1, .int (nI k)), (2, .int lane), (3, .int x1), (4, .int (nI nn))] := hl
  have hzk := hz k hk
  refine lv_aload_n hx hb dX6_takePairs_0 rfl (lv_at hl 0 rfl) ?_
  refine lv_iconst (v := 0) hx hb dX6_takePairs_1 (by decide) ?_
  refine va_put (D := (dC, dI)) (ci := 6) (v := .int 0) (ty := .int) (C := RX6) (T := TX6) (N := 7) hx hb hg inG6 tyX6 tyX6_ok nmX6 hown hK.1 hP hD hS 0 rfl rfl 4 (by decide) (hg _ wt_281) (fun _ h9 => h9) rfl (by decide +kernel) rfl rfl (Nat.le_of_ble_eq_true rfl) dX6_takePairs_2 (fun H locs hP hD hS => ?_)
  have hP : va_P (dC, dI) vwCl (([(h0, .inr (6, [.ref la, .ref si, .ref ce, .int x8, .int 0, .ref fi, .ref se])), (la, .inl (G 0, 4, .inl fl)), (si, .inl (G 0, 4, .inl fz)), (ce, .inl (G 4, 4, .inr (.inr (.inr (.inr (fun ir => if ir < 4 then some (rc ir) else none)))))), (fi, .inl (G 0, 20, .inl f1)), (se, .inl (G 0, 20, .inl f2))] : va_W) ++ ((((List.range 4).map (fun iq => (rc iq, .inl (G 0, 40, .inl (F iq))))) : va_W) ++ [])) H := hP
  have hD : va_D A (([(h0, .inr (6, [.ref la, .ref si, .ref ce, .int x8, .int 0, .ref fi, .ref se])), (la, .inl (G 0, 4, .inl fl)), (si, .inl (G 0, 4, .inl fz)), (ce, .inl (G 4, 4, .inr (.inr (.inr (.inr (fun ir => if ir < 4 then some (rc ir) else none)))))), (fi, .inl (G 0, 20, .inl f1)), (se, .inl (G 0, 20, .inl f2))] : va_W) ++ ((((List.range 4).map (fun iq => (rc iq, .inl (G 0, 40, .inl (F iq))))) : va_W) ++ [])) := hD
  refine lv_aload_n hx hb dX6_takePairs_5 rfl (lv_at hl 0 rfl) ?_
  refine lv_aload_n hx hb dX6_takePairs_6 rfl (lv_at hl 0 rfl) ?_
  refine va_get (D := (dC, dI)) (ci := 6) (v := .ref la) (C := RX6) (T := TX6) (N := 7) hx hb hg inG6 hown hK.1 hP 0 rfl rfl 0 (by decide) (hg _ wt_276) (fun _ h9 => h9) rfl dX6_takePairs_7 ?_
  refine lv_iload_n hx hb dX6_takePairs_10 rfl (lv_at hl 1 rfl) ?_
  refine va_iald hx hb hK.1 hP 1 0 rfl rfl (vp_in_nI (by have t_n0 : (nI k).toInt = (k : Int) := nI_toInt (by omega); have t_n1 : (nI nn).toInt = (nn : Int) := nI_toInt (by omega); omega) (by decide)) dX6_takePairs_11 ?_
  refine lv_cg (y := fl k) (by rw [nI_clamp (by omega)]) ?_
  refine lv_iconst (v := (-1)) hx hb dX6_takePairs_12 (by decide) ?_
  have cut31_3 : ∀ (k2 : Nat) (H : Heap) (locs : List Loc), k2 ≤ 3 → va_P (dC, dI) vwCl (([(h0, .inr (6, [.ref la, .ref si, .ref ce, .int x8, .int 0, .ref fi, .ref se])), (la, .inl (G 0, 4, .inl fl)), (si, .inl (G 0, 4, .inl fz)), (ce, .inl (G 4, 4, .inr (.inr (.inr (.inr (fun ir => if ir < 4 then some (rc ir) else none)))))), (fi, .inl (G 0, 20, .inl f1)), (se, .inl (G 0, 20, .inl f2))] : va_W) ++ ((((List.range 4).map (fun iq => (rc iq, .inl (G 0, 40, .inl (F iq))))) : va_W) ++ [])) H → va_D A (([(h0, .inr (6, [.ref la, .ref si, .ref ce, .int x8, .int 0, .ref fi, .ref se])), (la, .inl (G 0, 4, .inl fl)), (si, .inl (G 0, 4, .inl fz)), (ce, .inl (G 4, 4, .inr (.inr (.inr (.inr (fun ir => if ir < 4 then some (rc ir) else none)))))), (fi, .inl (G 0, 20, .inl f1)), (se, .inl (G 0, 20, .inl f2))] : va_W) ++ ((((List.range 4).map (fun iq => (rc iq, .inl (G 0, 40, .inl (F iq))))) : va_W) ++ [])) → va_S A s.heap H locs → ∀ (ls : Array Slot), lv_has ls 8 [(0, .ref h0), (1, .int (nI k)), (2, .int lane), (3, .int x1), (4, .int (nI nn))] → W p l e (headSpec (Cond.code yX6_takePairs cX6_takePairs 8 none :: GT) ({ frames := 1, cells := 0, slots := 0, locals := 23 } : Room)).room s m ([.ref h0, .int (nI k), .int lane, .int x1, .int (nI nn)] : List Value).toArray below meth c H locs 0 0 (MQ below (va_Qv (fun (u : Int32 × Nat × (Nat → Int32) × (Nat → Int32)) => match u with | (u0, u1, u2, u3) => u1 ≤ 20) (fun (u : Int32 × Nat × (Nat → Int32) × (Nat → Int32)) (t : State) => match u with | (u0, u1, u2, u3) => va_P (dC, dI) vwCl (([(h0, .inr (6, [.ref la, .ref si, .ref ce, .int u0, .int (nI u1), .ref fi, .ref se])), (la, .inl (G 0, 4, .inl fl)), (si, .inl (G 0, 4, .inl fz)), (ce, .inl (G 4, 4, .inr (.inr (.inr (.inr (fun ir => if ir < 4 then some (rc ir) else none)))))), (fi, .inl (G 0, 20, .inl u2)), (se, .inl (G 0, 20, .inl u3))] : va_W) ++ ((((List.range 4).map (fun iq => (rc iq, .inl (G 0, 40, .inl (F iq))))) : va_W) ++ [])) t.heap ∧ va_D A (([(h0, .inr (6, [.ref la, .ref si, .ref ce, .int u0, .int (nI u1), .ref fi, .ref se])), (la, .inl (G 0, 4, .inl fl)), (si, .inl (G 0, 4, .inl fz)), (ce, .inl (G 4, 4, .inr (.inr (.inr (.inr (fun ir => if ir < 4 then some (rc ir) else none)))))), (fi, .inl (G 0, 20, .inl u2)), (se, .inl (G 0, 20, .inl u3))] : va_W) ++ ((((List.range 4).map (fun iq => (rc iq, .inl (G 0, 40, .inl (F iq))))) : va_W) ++ []))) A) ([.ref h0, .int (nI k), .int lane, .int x1, .int (nI nn)] : List Value).toArray s 0 0 A) (F0 m 31 ls [.int (nI k2), .ref h0]) := by
    intro k2 H locs hb_k2 hP hD hS ls hl
    refine va_put (D := (dC, dI)) (ci := 6) (v := .int (nI k2)) (ty := .int) (C := RX6) (T := TX6) (N := 7) hx hb hg inG6 tyX6 tyX6_ok nmX6 hown hK.1 hP hD hS 0 rfl rfl 3 (by decide) (hg _ wt_279) (fun _ h9 => h9) rfl (by decide +kernel) rfl rfl (Nat.le_of_ble_eq_true rfl) dX6_takePairs_31 (fun H locs hP hD hS => ?_)
    have hP : va_P (dC, dI) vwCl (([(h0, .inr (6, [.ref la, .ref si, .ref ce, .int (nI k2), .int 0, .ref fi, .ref se])), (la, .inl (G 0, 4, .inl fl)), (si, .inl (G 0, 4, .inl fz)), (ce, .inl (G 4, 4, .inr (.inr (.inr (.inr (fun ir => if ir < 4 then some (rc ir) else none)))))), (fi, .inl (G 0, 20, .inl f1)), (se, .inl (G 0, 20, .inl f2))] : va_W) ++ ((((List.range 4).map (fun iq => (rc iq, .inl (G 0, 40, .inl (F iq))))) : va_W) ++ [])) H := hP
    have hD : va_D A (([(h0, .inr (6, [.ref la, .ref si, .ref ce, .int (nI k2), .int 0, .ref fi, .ref se])), (la, .inl (G 0, 4, .inl fl)), (si, .inl (G 0, 4, .inl fz)), (ce, .inl (G 4, 4, .inr (.inr (.inr (.inr (fun ir => if ir < 4 then some (rc ir) else none)))))), (fi, .inl (G 0, 20, .inl f1)), (se, .inl (G 0, 20, .inl f2))] : va_W) ++ ((((List.range 4).map (fun iq => (rc iq, .inl (G 0, 40, .inl (F iq))))) : va_W) ++ [])) := hD
    refine lv_iconst (v := 0) hx hb dX6_takePairs_34 (by decide) ?_
    refine lv_istore (lv' := [(5, .int 0), (0, .ref h0), (1, .int (nI k)), (2, .int lane), (3, .int x1), (4, .int (nI nn))]) hx hb dX6_takePairs_35 hl (by decide) rfl (fun ls hl => ?_)
    have loop37_10 : ∀ (nf j4 : Nat), 20 + 1 ≤ j4 + nf → j4 ≤ 20 → ∀ (y5 : Int32) (k7 : Nat) (g8 : Nat → Int32) (g9 : Nat → Int32) (H : Heap) (locs : List Loc), k7 ≤ j4 → va_P (dC, dI) vwCl (([(h0, .inr (6, [.ref la, .ref si, .ref ce, .int y5, .int (nI k7), .ref fi, .ref se])), (la, .inl (G 0, 4, .inl fl)), (si, .inl (G 0, 4, .inl fz)), (ce, .inl (G 4, 4, .inr (.inr (.inr (.inr (fun ir => if ir < 4 then some (rc ir) else none)))))), (fi, .inl (G 0, 20, .inl g8)), (se, .inl (G 0, 20, .inl g9))] : va_W) ++ ((((List.range 4).map (fun iq => (rc iq, .inl (G 0, 40, .inl (F iq))))) : va_W) ++ [])) H → va_D A (([(h0, .inr (6, [.ref la, .ref si, .ref ce, .int y5, .int (nI k7), .ref fi, .ref se])), (la, .inl (G 0, 4, .inl fl)), (si, .inl (G 0, 4, .inl fz)), (ce, .inl (G 4, 4, .inr (.inr (.inr (.inr (fun ir => if ir < 4 then some (rc ir) else none)))))), (fi, .inl (G 0, 20, .inl g8)), (se, .inl (G 0, 20, .inl g9))] : va_W) ++ ((((List.range 4).map (fun iq => (rc iq, .inl (G 0, 40, .inl (F iq))))) : va_W) ++ [])) → va_S A s.heap H locs → ∀ (ls : Array Slot), lv_has ls 8 [(5, .int (nI j4)), (0, .ref h0), (1, .int (nI k)), (2, .int lane), (3, .int x1), (4, .int (nI nn))] → W p l e (headSpec (Cond.code yX6_takePairs cX6_takePairs 8 none :: GT) ({ frames := 1, cells := 0, slots := 0, locals := 23 } : Room)).room s m ([.ref h0, .int (nI k), .int lane, .int x1, .int (nI nn)] : List Value).toArray below meth c H locs 0 0 (MQ below (va_Qv (fun (u : Int32 × Nat × (Nat → Int32) × (Nat → Int32)) => match u with | (u0, u1, u2, u3) => u1 ≤ 20) (fun (u : Int32 × Nat × (Nat → Int32) × (Nat → Int32)) (t : State) => match u with | (u0, u1, u2, u3) => va_P (dC, dI) vwCl (([(h0, .inr (6, [.ref la, .ref si, .ref ce, .int u0, .int (nI u1), .ref fi, .ref se])), (la, .inl (G 0, 4, .inl fl)), (si, .inl (G 0, 4, .inl fz)), (ce, .inl (G 4, 4, .inr (.inr (.inr (.inr (fun ir => if ir < 4 then some (rc ir) else none)))))), (fi, .inl (G 0, 20, .inl u2)), (se, .inl (G 0, 20, .inl u3))] : va_W) ++ ((((List.range 4).map (fun iq => (rc iq, .inl (G 0, 40, .inl (F iq))))) : va_W) ++ [])) t.heap ∧ va_D A (([(h0, .inr (6, [.ref la, .ref si, .ref ce, .int u0, .int (nI u1), .ref fi, .ref se])), (la, .inl (G 0, 4, .inl fl)), (si, .inl (G 0, 4, .inl fz)), (ce, .inl (G 4, 4, .inr (.inr (.inr (.inr (fun ir => if ir < 4 then some (rc ir) else none)))))), (fi, .inl (G 0, 20, .inl u2)), (se, .inl (G 0, 20, .inl u3))] : va_W) ++ ((((List.range 4).map (fun iq => (rc iq, .inl (G 0, 40, .inl (F iq))))) : va_W) ++ []))) A) ([.ref h0, .int (nI k), .int lane, .int x1, .int (nI nn)] : List Value).toArray s 0 0 A) (F0 m 37 ls []) := by
      intro nf
      induction nf with
      | zero => intro j4 h1 h2; exact absurd h1 (by omega)
      | succ nf ih37_10 =>
        intro j4 hn11 hj12 y5 k7 g8 g9 H locs hinv hP hD hS ls hl
        refine lv_iload hx hb dX6_takePairs_37 (lv_at hl 0 rfl) ?_
        refine lv_iload hx hb dX6_takePairs_39 (lv_at hl 5 rfl) ?_
        have cut160_13 : ∀ (H : Heap) (locs : List Loc), va_P (dC, dI) vwCl (([(h0, .inr (6, [.ref la, .ref si, .ref ce, .int y5, .int (nI k7), .ref fi, .ref se])), (la, .inl (G 0, 4, .inl fl)), (si, .inl (G 0, 4, .inl fz)), (ce, .inl (G 4, 4, .inr (.inr (.inr (.inr (fun ir => if ir < 4 then some (rc ir) else none)))))), (fi, .inl (G 0, 20, .inl g8)), (se, .inl (G 0, 20, .inl g9))] : va_W) ++ ((((List.range 4).map (fun iq => (rc iq, .inl (G 0, 40, .inl (F iq))))) : va_W) ++ [])) H → va_D A (([(h0, .inr (6, [.ref la, .ref si, .ref ce, .int y5, .int (nI k7), .ref fi, .ref se])), (la, .inl (G 0, 4, .inl fl)), (si, .inl (G 0, 4, .inl fz)), (ce, .inl (G 4, 4, .inr (.inr (.inr (.inr (fun ir => if ir < 4 then some (rc ir) else none)))))), (fi, .inl (G 0, 20, .inl g8)), (se, .inl (G 0, 20, .inl g9))] : va_W) ++ ((((List.range 4).map (fun iq => (rc iq, .inl (G 0, 40, .inl (F iq))))) : va_W) ++ [])) → va_S A s.heap H locs → ∀ (ls : Array Slot), lv_has ls 8 [(5, .int (nI j4)), (0, .ref h0), (1, .int (nI k)), (2, .int lane), (3, .int x1), (4, .int (nI nn))] → W p l e (headSpec (Cond.code yX6_takePairs cX6_takePairs 8 none :: GT) ({ frames := 1, cells := 0, slots := 0, locals := 23 } : Room)).room s m ([.ref h0, .int (nI k), .int lane, .int x1, .int (nI nn)] : List Value).toArray below meth c H locs 0 0 (MQ below (va_Qv (fun (u : Int32 × Nat × (Nat → Int32) × (Nat → Int32)) => match u with | (u0, u1, u2, u3) => u1 ≤ 20) (fun (u : Int32 × Nat × (Nat → Int32) × (Nat → Int32)) (t : State) => match u with | (u0, u1, u2, u3) => va_P (dC, dI) vwCl (([(h0, .inr (6, [.ref la, .ref si, .ref ce, .int u0, .int (nI u1), .ref fi, .ref se])), (la, .inl (G 0, 4, .inl fl)), (si, .inl (G 0, 4, .inl fz)), (ce, .inl (G 4, 4, .inr (.inr (.inr (.inr (fun ir => if ir < 4 then some (rc ir) else none)))))), (fi, .inl (G 0, 20, .inl u2)), (se, .inl (G 0, 20, .inl u3))] : va_W) ++ ((((List.range 4).map (fun iq => (rc iq, .inl (G 0, 40, .inl (F iq))))) : va_W) ++ [])) t.heap ∧ va_D A (([(h0, .inr (6, [.ref la, .ref si, .ref ce, .int u0, .int (nI u1), .ref fi, .ref se])), (la, .inl (G 0, 4, .inl fl)), (si, .inl (G 0, 4, .inl fz)), (ce, .inl (G 4, 4, .inr (.inr (.inr (.inr (fun ir => if ir < 4 then some (rc ir) else none)))))), (fi, .inl (G 0, 20, .inl u2)), (se, .inl (G 0, 20, .inl u3))] : va_W) ++ ((((List.range 4).map (fun iq => (rc iq, .inl (G 0, 40, .inl (F iq))))) : va_W) ++ []))) A) ([.ref h0, .int (nI k), .int lane, .int x1, .int (nI nn)] : List Value).toArray s 0 0 A) (F0 m 160 ls []) := by
          intro  H locs hP hD hS ls hl
          have hP9 := hP.sub (ws' := (([(h0, .inr (6, [.ref la, .ref si, .ref ce, .int y5, .int (nI k7), .ref fi, .ref se])), (la, .inl (G 0, 4, .inl fl)), (si, .inl (G 0, 4, .inl fz)), (ce, .inl (G 4, 4, .inr (.inr (.inr (.inr (fun ir => if ir < 4 then some (rc ir) else none)))))), (fi, .inl (G 0, 20, .inl g8)), (se, .inl (G 0, 20, .inl g9))] : va_W) ++ ((((List.range 4).map (fun iq => (rc iq, .inl (G 0, 40, .inl (F iq))))) : va_W) ++ []))) [0, 1, 2, 3, 4, 5, 6, 7, 8, 9] rfl
          have hD9 := hD.sub (ws' := (([(h0, .inr (6, [.ref la, .ref si, .ref ce, .int y5, .int (nI k7), .ref fi, .ref se])), (la, .inl (G 0, 4, .inl fl)), (si, .inl (G 0, 4, .inl fz)), (ce, .inl (G 4, 4, .inr (.inr (.inr (.inr (fun ir => if ir < 4 then some (rc ir) else none)))))), (fi, .inl (G 0, 20, .inl g8)), (se, .inl (G 0, 20, .inl g9))] : va_W) ++ ((((List.range 4).map (fun iq => (rc iq, .inl (G 0, 40, .inl (F iq))))) : va_W) ++ []))) [0, 1, 2, 3, 4, 5, 6, 7, 8, 9] (by decide) rfl
          refine W.widen (k := 0) (n := 0) (by omega) (by omega) ?_
          exact W.vret hx hb hr (fun t ht hW => ⟨⟨(y5, k7, g8, g9), rfl, (by have t_hb_k2 := hb_k2; have t_hj12 := hj12; have t_hinv := hinv; have t_n0 : (nI k).toInt = (k : Int) := nI_toInt (by omega); have t_n1 : (nI nn).toInt = (nn : Int) := nI_toInt (by omega); have t_n2 : (nI k2).toInt = (k2 : Int) := nI_toInt (by omega); have t_n3 : (nI j4).toInt = (j4 : Int) := nI_toInt (by omega); have t_n4 : (nI k7).toInt = (k7 : Int) := nI_toInt (by omega); omega), ⟨by rw [ht]; exact hP9, hD9⟩⟩, hS.F ht⟩) hS.2.2 dX6_takePairs_160
        refine lv_icmp_ge (tgt := 160) hx hb dX6_takePairs_41 (by decide) (fun c14 => ?_) (fun c14 => ?_)
        · skip
          have n15 : nn ≤ j4 := by have t := leI c14; rw [nI_toInt (n := j4) (by omega)] at t; rw [nI_toInt (n := nn) (by omega)] at t; omega
          exact cut160_13  _ _ hP hD hS ls (lv_sub hl [0, 1, 2, 3, 4, 5] rfl)
        · skip
          have n16 : j4 < nn := by have t := nleI c14; rw [nI_toInt (n := j4) (by omega)] at t; rw [nI_toInt (n := nn) (by omega)] at t; omega
          refine lv_iload hx hb dX6_takePairs_44 (lv_at hl 0 rfl) ?_
          refine lv_bipush (v := 20) hx hb dX6_takePairs_46 (by decide) ?_
          refine lv_icmp_ge (tgt := 160) hx hb dX6_takePairs_48 (by decide) (fun c17 => ?_) (fun c17 => ?_)
          · skip
            have t_hb_k2 := hb_k2
            have t_hj12 := hj12
            have t_hinv := hinv
            have t_n16 := n16
            have t_c17 := leI c17
            have : (20 : Int32).toInt = 20 := (by decide)
            have t_n0 : (nI k).toInt = (k : Int) := nI_toInt (by omega)
            have t_n1 : (nI nn).toInt = (nn : Int) := nI_toInt (by omega)
            have t_n2 : (nI k2).toInt = (k2 : Int) := nI_toInt (by omega)
            have t_n3 : (nI j4).toInt = (j4 : Int) := nI_toInt (by omega)
            have t_n4 : (nI k7).toInt = (k7 : Int) := nI_toInt (by omega)
            exfalso; omega
          · skip
            have n18 : j4 < 20 := by have t := nleI c17; rw [nI_toInt (n := j4) (by omega)] at t; have : (20 : Int32).toInt = 20 := (by decide); omega
            refine lv_aload_n hx hb dX6_takePairs_51 rfl (lv_at hl 1 rfl) ?_
            refine va_get (D := (dC, dI)) (ci := 6) (v := .int y5) (C := RX6) (T := TX6) (N := 7) hx hb hg inG6 hown hK.1 hP 0 rfl rfl 3 (by decide) (hg _ wt_279) (fun _ h9 => h9) rfl dX6_takePairs_52 ?_
            refine lv_if_ne (tgt := 160) hx hb dX6_takePairs_55 (by decide) (fun c19 => ?_) (fun c19 => ?_)
            · skip
              exact cut160_13  _ _ hP hD hS ls (lv_sub hl [0, 1, 2, 3, 4, 5] rfl)
            · skip
              refine lv_iload_n hx hb dX6_takePairs_58 rfl (lv_at hl 4 rfl) ?_
              refine lv_i2l (v := x1.toInt64) hx hb dX6_takePairs_59 rfl ?_
              refine lv_ldc2 (v := 2) hx hb hown (hg _ wt_855) dX6_takePairs_60 ?_
              refine lv_iload hx hb dX6_takePairs_63 (lv_at hl 0 rfl) ?_
              refine lv_i2l (v := (nI j4).toInt64) hx hb dX6_takePairs_65 rfl ?_
              refine lv_lmul hx hb dX6_takePairs_66 ?_
              refine lv_ladd hx hb dX6_takePairs_67 ?_
              refine lv_topl (fun v20 ev20 => ?_)
              refine lv_lstore (lv' := [(6, .long v20), (5, .int (nI j4)), (0, .ref h0), (1, .int (nI k)), (2, .int lane), (3, .int x1), (4, .int (nI nn))]) hx hb dX6_takePairs_68 hl (by decide) rfl (fun ls hl => ?_)
              refine lv_aload_n hx hb dX6_takePairs_70 rfl (lv_at hl 2 rfl) ?_
              refine lv_aload_n hx hb dX6_takePairs_71 rfl (lv_at hl 2 rfl) ?_
              refine lv_iload_n hx hb dX6_takePairs_72 rfl (lv_at hl 3 rfl) ?_
              refine lv_lload hx hb dX6_takePairs_73 (lv_at hl 0 rfl) ?_
              have hPc := hP.sub (ws' := [(h0, .inr (6, [.ref la, .ref si, .ref ce, .int y5, .int (nI k7), .ref fi, .ref se])), (la, .inl (G 0, 4, .inl fl)), (si, .inl (G 0, 4, .inl fz))]) [0, 1, 2] rfl
              refine va_calli (va_runV (As := [.int (nI k), .long v20]) (rest := [.ref h0]) ⟨hx, hb, hml, hown, hg⟩ (c_X6_faultAt l dC dI G _ h0 la si ce fi se k y5 (nI k7) v20 fl fz (by have t_hb_k2 := hb_k2; have t_hj12 := hj12; have t_hinv := hinv; have t_n16 := n16; have t_n18 := n18; have t_c19 := eqI c19; have : (0 : Int32).toInt = 0 := (by decide); have t_n0 : (nI k).toInt = (k : Int) := nI_toInt (by omega); have t_n1 : (nI nn).toInt = (nn : Int) := nI_toInt (by omega); have t_n2 : (nI k2).toInt = (k2 : Int) := nI_toInt (by omega); have t_n3 : (nI j4).toInt = (j4 : Int) := nI_toInt (by omega); have t_n4 : (nI k7).toInt = (k7 : Int) := nI_toInt (by omega); omega)) (kwV hg mfX6_faultAt wt_846 ⟨Nat.le_of_ble_eq_true rfl, Nat.le_of_ble_eq_true rfl⟩) (preVR hK hPc (ci := 6) rfl rfl) rfl rfl hl.1 rfl (lv_room (Nat.le_of_ble_eq_true rfl)) dX6_takePairs_75 ⟨Nat.le_of_ble_eq_true rfl, Nat.le_of_ble_eq_true rfl⟩) hS (fun q h1 h2 => absurd h2 (Nat.not_le.mpr h1)) (fun q h => hA q (Nat.le_trans hS.1 h)) (fun r21 ur21 t H1 locs ht hvm w22 hB hz1 hk1 hS => ?_)
              have hP := keepR hP hk1
              obtain ⟨w22, w22x⟩ := w22
              refine va_put (D := (dC, dI)) (ci := 6) (v := .int r21) (ty := .int) (C := RX6) (T := TX6) (N := 7) hx hb hg inG6 tyX6 tyX6_ok nmX6 hown hK.1 hP hD hS 0 rfl rfl 3 (by decide) (hg _ wt_279) (fun _ h9 => h9) rfl (by decide +kernel) rfl rfl (Nat.le_of_ble_eq_true rfl) dX6_takePairs_78 (fun H locs hP hD hS => ?_)
              have hP : va_P (dC, dI) vwCl (([(h0, .inr (6, [.ref la, .ref si, .ref ce, .int r21, .int (nI k7), .ref fi, .ref se])), (la, .inl (G 0, 4, .inl fl)), (si, .inl (G 0, 4, .inl fz)), (ce, .inl (G 4, 4, .inr (.inr (.inr (.inr (fun ir => if ir < 4 then some (rc ir) else none)))))), (fi, .inl (G 0, 20, .inl g8)), (se, .inl (G 0, 20, .inl g9))] : va_W) ++ ((((List.range 4).map (fun iq => (rc iq, .inl (G 0, 40, .inl (F iq))))) : va_W) ++ [])) H := hP
              have hD : va_D A (([(h0, .inr (6, [.ref la, .ref si, .ref ce, .int r21, .int (nI k7), .ref fi, .ref se])), (la, .inl (G 0, 4, .inl fl)), (si, .inl (G 0, 4, .inl fz)), (ce, .inl (G 4, 4, .inr (.inr (.inr (.inr (fun ir => if ir < 4 then some (rc ir) else none)))))), (fi, .inl (G 0, 20, .inl g8)), (se, .inl (G 0, 20, .inl g9))] : va_W) ++ ((((List.range 4).map (fun iq => (rc iq, .inl (G 0, 40, .inl (F iq))))) : va_W) ++ [])) := hD
              refine lv_aload_n hx hb dX6_takePairs_81 rfl (lv_at hl 2 rfl) ?_
              refine va_get (D := (dC, dI)) (ci := 6) (v := .int r21) (C := RX6) (T := TX6) (N := 7) hx hb hg inG6 hown hK.1 hP 0 rfl rfl 3 (by decide) (hg _ wt_279) (fun _ h9 => h9) rfl dX6_takePairs_82 ?_
              refine lv_if_ne (tgt := 101) hx hb dX6_takePairs_85 (by decide) (fun c23 => ?_) (fun c23 => ?_)
              · skip
                refine lv_aload_n hx hb dX6_takePairs_101 rfl (lv_at hl 2 rfl) ?_
                refine va_get (D := (dC, dI)) (ci := 6) (v := .int r21) (C := RX6) (T := TX6) (N := 7) hx hb hg inG6 hown hK.1 hP 0 rfl rfl 3 (by decide) (hg _ wt_279) (fun _ h9 => h9) rfl dX6_takePairs_102 ?_
                refine lv_if_ne (tgt := 154) hx hb dX6_takePairs_105 (by decide) (fun c24 => ?_) (fun c24 => ?_)
                · skip
                  refine lv_iinc (v := nI (j4 + 1)) (lv' := [(5, .int (nI (j4 + 1))), (6, .long v20), (0, .ref h0), (1, .int (nI k)), (2, .int lane), (3, .int x1), (4, .int (nI nn))]) hx hb dX6_takePairs_154 hl (k := 1) rfl (by rw [show Int32.ofInt 1 = nI 1 from by decide]; exact nI_add _ _) (by decide) rfl (fun ls hl => ?_)
                  refine lv_goto (tgt := 37) hx hb dX6_takePairs_157 (by decide) ?_
                  exact ih37_10 (j4 + 1) (by omega) (by omega) r21 k7 g8 g9 _ _ (by omega) hP hD hS ls (lv_sub hl [0, 2, 3, 4, 5, 6] rfl)
                · skip
                  have t_hb_k2 := hb_k2
                  have t_hj12 := hj12
                  have t_hinv := hinv
                  have t_n16 := n16
                  have t_n18 := n18
                  have t_c19 := eqI c19
                  have t_c23 := neI c23
                  have t_c24 := eqI c24
                  have : (0 : Int32).toInt = 0 := (by decide)
                  have t_n0 : (nI k).toInt = (k : Int) := nI_toInt (by omega)
                  have t_n1 : (nI nn).toInt = (nn : Int) := nI_toInt (by omega)
                  have t_n2 : (nI k2).toInt = (k2 : Int) := nI_toInt (by omega)
                  have t_n3 : (nI j4).toInt = (j4 : Int) := nI_toInt (by omega)
                  have t_n4 : (nI k7).toInt = (k7 : Int) := nI_toInt (by omega)
                  exfalso; omega
              · skip
                have b25 := fz0 w22 c23
                refine lv_aload_n hx hb dX6_takePairs_88 rfl (lv_at hl 2 rfl) ?_
                refine lv_aload_n hx hb dX6_takePairs_89 rfl (lv_at hl 2 rfl) ?_
                refine lv_iload_n hx hb dX6_takePairs_90 rfl (lv_at hl 3 rfl) ?_
                refine lv_lload hx hb dX6_takePairs_91 (lv_at hl 0 rfl) ?_
                refine lv_lconst (v := 1) hx hb dX6_takePairs_93 (by decide) ?_
                refine lv_ladd hx hb dX6_takePairs_94 ?_
                have hPc := hP.sub (ws' := [(h0, .inr (6, [.ref la, .ref si, .ref ce, .int r21, .int (nI k7), .ref fi, .ref se])), (la, .inl (G 0, 4, .inl fl)), (si, .inl (G 0, 4, .inl fz))]) [0, 1, 2] rfl
                refine va_calli (va_runV (As := [.int (nI k), .long (v20 + 1)]) (rest := [.ref h0]) ⟨hx, hb, hml, hown, hg⟩ (c_X6_faultAt l dC dI G _ h0 la si ce fi se k r21 (nI k7) (v20 + 1) fl fz (by have t_hb_k2 := hb_k2; have t_hj12 := hj12; have t_hinv := hinv; have t_n16 := n16; have t_n18 := n18; have t_c19 := eqI c19; have t_b25 := b25; have : (0 : Int32).toInt = 0 := (by decide); have t_n0 : (nI k).toInt = (k : Int) := nI_toInt (by omega); have t_n1 : (nI nn).toInt = (nn : Int) := nI_toInt (by omega); have t_n2 : (nI k2).toInt = (k2 : Int) := nI_toInt (by omega); have t_n3 : (nI j4).toInt = (j4 : Int) := nI_toInt (by omega); have t_n4 : (nI k7).toInt = (k7 : Int) := nI_toInt (by omega); omega)) (kwV hg mfX6_faultAt wt_846 ⟨Nat.le_of_ble_eq_true rfl, Nat.le_of_ble_eq_true rfl⟩) (preVR hK hPc (ci := 6) rfl rfl) rfl rfl hl.1 rfl (lv_room (Nat.le_of_ble_eq_true rfl)) dX6_takePairs_95 ⟨Nat.le_of_ble_eq_true rfl, Nat.le_of_ble_eq_true rfl⟩) hS (fun q h1 h2 => absurd h2 (Nat.not_le.mpr h1)) (fun q h => hA q (Nat.le_trans hS.1 h)) (fun r26 ur26 t H1 locs ht hvm w27 hB hz1 hk1 hS => ?_)
                have hP := keepR hP hk1
                obtain ⟨w27, w27x⟩ := w27
                refine va_put (D := (dC, dI)) (ci := 6) (v := .int r26) (ty := .int) (C := RX6) (T := TX6) (N := 7) hx hb hg inG6 tyX6 tyX6_ok nmX6 hown hK.1 hP hD hS 0 rfl rfl 3 (by decide) (hg _ wt_279) (fun _ h9 => h9) rfl (by decide +kernel) rfl rfl (Nat.le_of_ble_eq_true rfl) dX6_takePairs_98 (fun H locs hP hD hS => ?_)
                have hP : va_P (dC, dI) vwCl (([(h0, .inr (6, [.ref la, .ref si, .ref ce, .int r26, .int (nI k7), .ref fi, .ref se])), (la, .inl (G 0, 4, .inl fl)), (si, .inl (G 0, 4, .inl fz)), (ce, .inl (G 4, 4, .inr (.inr (.inr (.inr (fun ir => if ir < 4 then some (rc ir) else none)))))), (fi, .inl (G 0, 20, .inl g8)), (se, .inl (G 0, 20, .inl g9))] : va_W) ++ ((((List.range 4).map (fun iq => (rc iq, .inl (G 0, 40, .inl (F iq))))) : va_W) ++ [])) H := hP
                have hD : va_D A (([(h0, .inr (6, [.ref la, .ref si, .ref ce, .int r26, .int (nI k7), .ref fi, .ref se])), (la, .inl (G 0, 4, .inl fl)), (si, .inl (G 0, 4, .inl fz)), (ce, .inl (G 4, 4, .inr (.inr (.inr (.inr (fun ir => if ir < 4 then some (rc ir) else none)))))), (fi, .inl (G 0, 20, .inl g8)), (se, .inl (G 0, 20, .inl g9))] : va_W) ++ ((((List.range 4).map (fun iq => (rc iq, .inl (G 0, 40, .inl (F iq))))) : va_W) ++ [])) := hD
                refine lv_aload_n hx hb dX6_takePairs_101 rfl (lv_at hl 2 rfl) ?_
                refine va_get (D := (dC, dI)) (ci := 6) (v := .int r26) (C := RX6) (T := TX6) (N := 7) hx hb hg inG6 hown hK.1 hP 0 rfl rfl 3 (by decide) (hg _ wt_279) (fun _ h9 => h9) rfl dX6_takePairs_102 ?_
                refine lv_if_ne (tgt := 154) hx hb dX6_takePairs_105 (by decide) (fun c28 => ?_) (fun c28 => ?_)
                · skip
                  refine lv_iinc (v := nI (j4 + 1)) (lv' := [(5, .int (nI (j4 + 1))), (6, .long v20), (0, .ref h0), (1, .int (nI k)), (2, .int lane), (3, .int x1), (4, .int (nI nn))]) hx hb dX6_takePairs_154 hl (k := 1) rfl (by rw [show Int32.ofInt 1 = nI 1 from by decide]; exact nI_add _ _) (by decide) rfl (fun ls hl => ?_)
                  refine lv_goto (tgt := 37) hx hb dX6_takePairs_157 (by decide) ?_
                  exact ih37_10 (j4 + 1) (by omega) (by omega) r26 k7 g8 g9 _ _ (by omega) hP hD hS ls (lv_sub hl [0, 2, 3, 4, 5, 6] rfl)
                · skip
                  have b29 := fz0 w27 c28
                  refine lv_aload_n hx hb dX6_takePairs_108 rfl (lv_at hl 2 rfl) ?_
                  refine va_get (D := (dC, dI)) (ci := 6) (v := .ref fi) (C := RX6) (T := TX6) (N := 7) hx hb hg inG6 hown hK.1 hP 0 rfl rfl 5 (by decide) (hg _ wt_283) (fun _ h9 => h9) rfl dX6_takePairs_109 ?_
                  refine lv_iload hx hb dX6_takePairs_112 (lv_at hl 1 rfl) ?_
                  refine lv_aload_n hx hb dX6_takePairs_114 rfl (lv_at hl 2 rfl) ?_
                  refine va_get (D := (dC, dI)) (ci := 6) (v := .ref ce) (C := RX6) (T := TX6) (N := 7) hx hb hg inG6 hown hK.1 hP 0 rfl rfl 2 (by decide) (hg _ wt_278) (fun _ h9 => h9) rfl dX6_takePairs_115 ?_
                  refine lv_iload_n hx hb dX6_takePairs_118 rfl (lv_at hl 3 rfl) ?_
                  refine va_aldA hx hb hK.1 hP 3 4 rfl rfl (vp_in_nI (by have t_hb_k2 := hb_k2; have t_hj12 := hj12; have t_hinv := hinv; have t_n16 := n16; have t_n18 := n18; have t_c19 := eqI c19; have t_b25 := b25; have t_b29 := b29; have : (0 : Int32).toInt = 0 := (by decide); have t_n0 : (nI k).toInt = (k : Int) := nI_toInt (by omega); have t_n1 : (nI nn).toInt = (nn : Int) := nI_toInt (by omega); have t_n2 : (nI k2).toInt = (k2 : Int) := nI_toInt (by omega); have t_n3 : (nI j4).toInt = (j4 : Int) := nI_toInt (by omega); have t_n4 : (nI k7).toInt = (k7 : Int) := nI_toInt (by omega); omega) (by decide)) dX6_takePairs_119 ?_
                  refine lv_cgv (y := .ref (rc k)) (rowref (by have t_hb_k2 := hb_k2; have t_hj12 := hj12; have t_hinv := hinv; have t_n16 := n16; have t_n18 := n18; have t_c19 := eqI c19; have t_b25 := b25; have t_b29 := b29; have : (0 : Int32).toInt = 0 := (by decide); have t_n0 : (nI k).toInt = (k : Int) := nI_toInt (by omega); have t_n1 : (nI nn).toInt = (nn : Int) := nI_toInt (by omega); have t_n2 : (nI k2).toInt = (k2 : Int) := nI_toInt (by omega); have t_n3 : (nI j4).toInt = (j4 : Int) := nI_toInt (by omega); have t_n4 : (nI k7).toInt = (k7 : Int) := nI_toInt (by omega); omega) (by decide)) ?_
                  refine lv_lload hx hb dX6_takePairs_120 (lv_at hl 0 rfl) ?_
                  refine lv_l2i (v := _) hx hb dX6_takePairs_122 rfl ?_
                  refine lv_topi (fun v30 ev30 => ?_)
                  have hz31 := l2i_in (x := v20) (by have t_hb_k2 := hb_k2; have t_hj12 := hj12; have t_hinv := hinv; have t_n16 := n16; have t_n18 := n18; have t_c19 := eqI c19; have t_b25 := b25; have t_b29 := b29; have : (0 : Int32).toInt = 0 := (by decide); have t_n0 : (nI k).toInt = (k : Int) := nI_toInt (by omega); have t_n1 : (nI nn).toInt = (nn : Int) := nI_toInt (by omega); have t_n2 : (nI k2).toInt = (k2 : Int) := nI_toInt (by omega); have t_n3 : (nI j4).toInt = (j4 : Int) := nI_toInt (by omega); have t_n4 : (nI k7).toInt = (k7 : Int) := nI_toInt (by omega); omega) (by have t_hb_k2 := hb_k2; have t_hj12 := hj12; have t_hinv := hinv; have t_n16 := n16; have t_n18 := n18; have t_c19 := eqI c19; have t_b25 := b25; have t_b29 := b29; have : (0 : Int32).toInt = 0 := (by decide); have t_n0 : (nI k).toInt = (k : Int) := nI_toInt (by omega); have t_n1 : (nI nn).toInt = (nn : Int) := nI_toInt (by omega); have t_n2 : (nI k2).toInt = (k2 : Int) := nI_toInt (by omega); have t_n3 : (nI j4).toInt = (j4 : Int) := nI_toInt (by omega); have t_n4 : (nI k7).toInt = (k7 : Int) := nI_toInt (by omega); omega)
                  rw [← ev30] at hz31
                  refine va_iald hx hb hK.1 (blk_P (j := k) hP (by have t_hb_k2 := hb_k2; have t_hj12 := hj12; have t_hinv := hinv; have t_n16 := n16; have t_n18 := n18; have t_c19 := eqI c19; have t_b25 := b25; have t_b29 := b29; have t_hz31 := hz31; have : (0 : Int32).toInt = 0 := (by decide); have t_n0 : (nI k).toInt = (k : Int) := nI_toInt (by omega); have t_n1 : (nI nn).toInt = (nn : Int) := nI_toInt (by omega); have t_n2 : (nI k2).toInt = (k2 : Int) := nI_toInt (by omega); have t_n3 : (nI j4).toInt = (j4 : Int) := nI_toInt (by omega); have t_n4 : (nI k7).toInt = (k7 : Int) := nI_toInt (by omega); omega)) 0 0 rfl rfl (vp_in_iff.mpr (by have t_hb_k2 := hb_k2; have t_hj12 := hj12; have t_hinv := hinv; have t_n16 := n16; have t_n18 := n18; have t_c19 := eqI c19; have t_b25 := b25; have t_b29 := b29; have t_hz31 := hz31; have : (0 : Int32).toInt = 0 := (by decide); have t_n0 : (nI k).toInt = (k : Int) := nI_toInt (by omega); have t_n1 : (nI nn).toInt = (nn : Int) := nI_toInt (by omega); have t_n2 : (nI k2).toInt = (k2 : Int) := nI_toInt (by omega); have t_n3 : (nI j4).toInt = (j4 : Int) := nI_toInt (by omega); have t_n4 : (nI k7).toInt = (k7 : Int) := nI_toInt (by omega); constructor <;> omega)) dX6_takePairs_123 ?_
                  refine va_iast hx hb hK.1 hP hD hS 4 0 rfl rfl (vp_in_nI (by have t_hb_k2 := hb_k2; have t_hj12 := hj12; have t_hinv := hinv; have t_n16 := n16; have t_n18 := n18; have t_c19 := eqI c19; have t_b25 := b25; have t_b29 := b29; have t_hz31 := hz31; have : (0 : Int32).toInt = 0 := (by decide); have t_n0 : (nI k).toInt = (k : Int) := nI_toInt (by omega); have t_n1 : (nI nn).toInt = (nn : Int) := nI_toInt (by omega); have t_n2 : (nI k2).toInt = (k2 : Int) := nI_toInt (by omega); have t_n3 : (nI j4).toInt = (j4 : Int) := nI_toInt (by omega); have t_n4 : (nI k7).toInt = (k7 : Int) := nI_toInt (by omega); omega) (by decide)) dX6_takePairs_124 (fun H locs hP hD hS => ?_)
                  rw [nI_clamp (by omega)] at hP hD
                  have hP : va_P (dC, dI) vwCl (([(h0, .inr (6, [.ref la, .ref si, .ref ce, .int r26, .int (nI k7), .ref fi, .ref se])), (la, .inl (G 0, 4, .inl fl)), (si, .inl (G 0, 4, .inl fz)), (ce, .inl (G 4, 4, .inr (.inr (.inr (.inr (fun ir => if ir < 4 then some (rc ir) else none)))))), (fi, .inl (G 0, 20, .inl (upd g8 j4 (F k v30.toNatClampNeg)))), (se, .inl (G 0, 20, .inl g9))] : va_W) ++ ((((List.range 4).map (fun iq => (rc iq, .inl (G 0, 40, .inl (F iq))))) : va_W) ++ [])) H := hP
                  have hD : va_D A (([(h0, .inr (6, [.ref la, .ref si, .ref ce, .int r26, .int (nI k7), .ref fi, .ref se])), (la, .inl (G 0, 4, .inl fl)), (si, .inl (G 0, 4, .inl fz)), (ce, .inl (G 4, 4, .inr (.inr (.inr (.inr (fun ir => if ir < 4 then some (rc ir) else none)))))), (fi, .inl (G 0, 20, .inl (upd g8 j4 (F k v30.toNatClampNeg)))), (se, .inl (G 0, 20, .inl g9))] : va_W) ++ ((((List.range 4).map (fun iq => (rc iq, .inl (G 0, 40, .inl (F iq))))) : va_W) ++ [])) := hD
                  refine lv_aload_n hx hb dX6_takePairs_125 rfl (lv_at hl 2 rfl) ?_
                  refine va_get (D := (dC, dI)) (ci := 6) (v := .ref se) (C := RX6) (T := TX6) (N := 7) hx hb hg inG6 hown hK.1 hP 0 rfl rfl 6 (by decide) (hg _ wt_285) (fun _ h9 => h9) rfl dX6_takePairs_126 ?_
                  refine lv_iload hx hb dX6_takePairs_129 (lv_at hl 1 rfl) ?_
                  refine lv_aload_n hx hb dX6_takePairs_131 rfl (lv_at hl 2 rfl) ?_
                  refine va_get (D := (dC, dI)) (ci := 6) (v := .ref ce) (C := RX6) (T := TX6) (N := 7) hx hb hg inG6 hown hK.1 hP 0 rfl rfl 2 (by decide) (hg _ wt_278) (fun _ h9 => h9) rfl dX6_takePairs_132 ?_
                  refine lv_iload_n hx hb dX6_takePairs_135 rfl (lv_at hl 3 rfl) ?_
                  refine va_aldA hx hb hK.1 hP 3 4 rfl rfl (vp_in_nI (by have t_hb_k2 := hb_k2; have t_hj12 := hj12; have t_hinv := hinv; have t_n16 := n16; have t_n18 := n18; have t_c19 := eqI c19; have t_b25 := b25; have t_b29 := b29; have t_hz31 := hz31; have : (0 : Int32).toInt = 0 := (by decide); have t_n0 : (nI k).toInt = (k : Int) := nI_toInt (by omega); have t_n1 : (nI nn).toInt = (nn : Int) := nI_toInt (by omega); have t_n2 : (nI k2).toInt = (k2 : Int) := nI_toInt (by omega); have t_n3 : (nI j4).toInt = (j4 : Int) := nI_toInt (by omega); have t_n4 : (nI k7).toInt = (k7 : Int) := nI_toInt (by omega); omega) (by decide)) dX6_takePairs_136 ?_
                  refine lv_cgv (y := .ref (rc k)) (rowref (by have t_hb_k2 := hb_k2; have t_hj12 := hj12; have t_hinv := hinv; have t_n16 := n16; have t_n18 := n18; have t_c19 := eqI c19; have t_b25 := b25; have t_b29 := b29; have t_hz31 := hz31; have : (0 : Int32).toInt = 0 := (by decide); have t_n0 : (nI k).toInt = (k : Int) := nI_toInt (by omega); have t_n1 : (nI nn).toInt = (nn : Int) := nI_toInt (by omega); have t_n2 : (nI k2).toInt = (k2 : Int) := nI_toInt (by omega); have t_n3 : (nI j4).toInt = (j4 : Int) := nI_toInt (by omega); have t_n4 : (nI k7).toInt = (k7 : Int) := nI_toInt (by omega); omega) (by decide)) ?_
                  refine lv_lload hx hb dX6_takePairs_137 (lv_at hl 0 rfl) ?_
                  refine lv_l2i (v := _) hx hb dX6_takePairs_139 rfl ?_
                  refine lv_topi (fun v32 ev32 => ?_)
                  have hz33 := l2i_in (x := v20) (by have t_hb_k2 := hb_k2; have t_hj12 := hj12; have t_hinv := hinv; have t_n16 := n16; have t_n18 := n18; have t_c19 := eqI c19; have t_b25 := b25; have t_b29 := b29; have t_hz31 := hz31; have : (0 : Int32).toInt = 0 := (by decide); have t_n0 : (nI k).toInt = (k : Int) := nI_toInt (by omega); have t_n1 : (nI nn).toInt = (nn : Int) := nI_toInt (by omega); have t_n2 : (nI k2).toInt = (k2 : Int) := nI_toInt (by omega); have t_n3 : (nI j4).toInt = (j4 : Int) := nI_toInt (by omega); have t_n4 : (nI k7).toInt = (k7 : Int) := nI_toInt (by omega); omega) (by have t_hb_k2 := hb_k2; have t_hj12 := hj12; have t_hinv := hinv; have t_n16 := n16; have t_n18 := n18; have t_c19 := eqI c19; have t_b25 := b25; have t_b29 := b29; have t_hz31 := hz31; have : (0 : Int32).toInt = 0 := (by decide); have t_n0 : (nI k).toInt = (k : Int) := nI_toInt (by omega); have t_n1 : (nI nn).toInt = (nn : Int) := nI_toInt (by omega); have t_n2 : (nI k2).toInt = (k2 : Int) := nI_toInt (by omega); have t_n3 : (nI j4).toInt = (j4 : Int) := nI_toInt (by omega); have t_n4 : (nI k7).toInt = (k7 : Int) := nI_toInt (by omega); omega)
                  rw [← ev32] at hz33
                  refine lv_iconst (v := 1) hx hb dX6_takePairs_140 (by decide) ?_
                  refine lv_iadd hx hb dX6_takePairs_141 ?_
                  have hi34 : (v32 + 1).toInt = v32.toInt + 1 := i1_in (by have t_hb_k2 := hb_k2; have t_hj12 := hj12; have t_hinv := hinv; have t_n16 := n16; have t_n18 := n18; have t_c19 := eqI c19; have t_b25 := b25; have t_b29 := b29; have t_hz31 := hz31; have t_hz33 := hz33; have : (0 : Int32).toInt = 0 := (by decide); have t_n0 : (nI k).toInt = (k : Int) := nI_toInt (by omega); have t_n1 : (nI nn).toInt = (nn : Int) := nI_toInt (by omega); have t_n2 : (nI k2).toInt = (k2 : Int) := nI_toInt (by omega); have t_n3 : (nI j4).toInt = (j4 : Int) := nI_toInt (by omega); have t_n4 : (nI k7).toInt = (k7 : Int) := nI_toInt (by omega); omega) (by have t_hb_k2 := hb_k2; have t_hj12 := hj12; have t_hinv := hinv; have t_n16 := n16; have t_n18 := n18; have t_c19 := eqI c19; have t_b25 := b25; have t_b29 := b29; have t_hz31 := hz31; have t_hz33 := hz33; have : (0 : Int32).toInt = 0 := (by decide); have t_n0 : (nI k).toInt = (k : Int) := nI_toInt (by omega); have t_n1 : (nI nn).toInt = (nn : Int) := nI_toInt (by omega); have t_n2 : (nI k2).toInt = (k2 : Int) := nI_toInt (by omega); have t_n3 : (nI j4).toInt = (j4 : Int) := nI_toInt (by omega); have t_n4 : (nI k7).toInt = (k7 : Int) := nI_toInt (by omega); omega)
                  have hl35 := l1_in (x := v20) (by have t_hb_k2 := hb_k2; have t_hj12 := hj12; have t_hinv := hinv; have t_n16 := n16; have t_n18 := n18; have t_c19 := eqI c19; have t_b25 := b25; have t_b29 := b29; have t_hz31 := hz31; have t_hz33 := hz33; have : (0 : Int32).toInt = 0 := (by decide); have t_n0 : (nI k).toInt = (k : Int) := nI_toInt (by omega); have t_n1 : (nI nn).toInt = (nn : Int) := nI_toInt (by omega); have t_n2 : (nI k2).toInt = (k2 : Int) := nI_toInt (by omega); have t_n3 : (nI j4).toInt = (j4 : Int) := nI_toInt (by omega); have t_n4 : (nI k7).toInt = (k7 : Int) := nI_toInt (by omega); omega) (by have t_hb_k2 := hb_k2; have t_hj12 := hj12; have t_hinv := hinv; have t_n16 := n16; have t_n18 := n18; have t_c19 := eqI c19; have t_b25 := b25; have t_b29 := b29; have t_hz31 := hz31; have t_hz33 := hz33; have : (0 : Int32).toInt = 0 := (by decide); have t_n0 : (nI k).toInt = (k : Int) := nI_toInt (by omega); have t_n1 : (nI nn).toInt = (nn : Int) := nI_toInt (by omega); have t_n2 : (nI k2).toInt = (k2 : Int) := nI_toInt (by omega); have t_n3 : (nI j4).toInt = (j4 : Int) := nI_toInt (by omega); have t_n4 : (nI k7).toInt = (k7 : Int) := nI_toInt (by omega); omega) (show (v20 + 1).toInt < (fz k).toInt by have t_hb_k2 := hb_k2; have t_hj12 := hj12; have t_hinv := hinv; have t_n16 := n16; have t_n18 := n18; have t_c19 := eqI c19; have t_b25 := b25; have t_b29 := b29; have t_hz31 := hz31; have t_hz33 := hz33; have : (0 : Int32).toInt = 0 := (by decide); have t_n0 : (nI k).toInt = (k : Int) := nI_toInt (by omega); have t_n1 : (nI nn).toInt = (nn : Int) := nI_toInt (by omega); have t_n2 : (nI k2).toInt = (k2 : Int) := nI_toInt (by omega); have t_n3 : (nI j4).toInt = (j4 : Int) := nI_toInt (by omega); have t_n4 : (nI k7).toInt = (k7 : Int) := nI_toInt (by omega); omega)
                  refine va_iald hx hb hK.1 (blk_P (j := k) hP (by have t_hb_k2 := hb_k2; have t_hj12 := hj12; have t_hinv := hinv; have t_n16 := n16; have t_n18 := n18; have t_c19 := eqI c19; have t_b25 := b25; have t_b29 := b29; have t_hz31 := hz31; have t_hz33 := hz33; have t_hi34 := hi34; have t_hl35 := hl35; have : (0 : Int32).toInt = 0 := (by decide); have t_n0 : (nI k).toInt = (k : Int) := nI_toInt (by omega); have t_n1 : (nI nn).toInt = (nn : Int) := nI_toInt (by omega); have t_n2 : (nI k2).toInt = (k2 : Int) := nI_toInt (by omega); have t_n3 : (nI j4).toInt = (j4 : Int) := nI_toInt (by omega); have t_n4 : (nI k7).toInt = (k7 : Int) := nI_toInt (by omega); omega)) 0 0 rfl rfl (vp_in_iff.mpr (by have t_hb_k2 := hb_k2; have t_hj12 := hj12; have t_hinv := hinv; have t_n16 := n16; have t_n18 := n18; have t_c19 := eqI c19; have t_b25 := b25; have t_b29 := b29; have t_hz31 := hz31; have t_hz33 := hz33; have t_hi34 := hi34; have t_hl35 := hl35; have : (0 : Int32).toInt = 0 := (by decide); have t_n0 : (nI k).toInt = (k : Int) := nI_toInt (by omega); have t_n1 : (nI nn).toInt = (nn : Int) := nI_toInt (by omega); have t_n2 : (nI k2).toInt = (k2 : Int) := nI_toInt (by omega); have t_n3 : (nI j4).toInt = (j4 : Int) := nI_toInt (by omega); have t_n4 : (nI k7).toInt = (k7 : Int) := nI_toInt (by omega); constructor <;> omega)) dX6_takePairs_142 ?_
                  refine va_iast hx hb hK.1 hP hD hS 5 0 rfl rfl (vp_in_nI (by have t_hb_k2 := hb_k2; have t_hj12 := hj12; have t_hinv := hinv; have t_n16 := n16; have t_n18 := n18; have t_c19 := eqI c19; have t_b25 := b25; have t_b29 := b29; have t_hz31 := hz31; have t_hz33 := hz33; have t_hi34 := hi34; have t_hl35 := hl35; have : (0 : Int32).toInt = 0 := (by decide); have t_n0 : (nI k).toInt = (k : Int) := nI_toInt (by omega); have t_n1 : (nI nn).toInt = (nn : Int) := nI_toInt (by omega); have t_n2 : (nI k2).toInt = (k2 : Int) := nI_toInt (by omega); have t_n3 : (nI j4).toInt = (j4 : Int) := nI_toInt (by omega); have t_n4 : (nI k7).toInt = (k7 : Int) := nI_toInt (by omega); omega) (by decide)) dX6_takePairs_143 (fun H locs hP hD hS => ?_)
                  rw [nI_clamp (by omega)] at hP hD
                  have hP : va_P (dC, dI) vwCl (([(h0, .inr (6, [.ref la, .ref si, .ref ce, .int r26, .int (nI k7), .ref fi, .ref se])), (la, .inl (G 0, 4, .inl fl)), (si, .inl (G 0, 4, .inl fz)), (ce, .inl (G 4, 4, .inr (.inr (.inr (.inr (fun ir => if ir < 4 then some (rc ir) else none)))))), (fi, .inl (G 0, 20, .inl (upd g8 j4 (F k v30.toNatClampNeg)))), (se, .inl (G 0, 20, .inl (upd g9 j4 (F k (v32 + 1).toNatClampNeg))))] : va_W) ++ ((((List.range 4).map (fun iq => (rc iq, .inl (G 0, 40, .inl (F iq))))) : va_W) ++ [])) H := hP
                  have hD : va_D A (([(h0, .inr (6, [.ref la, .ref si, .ref ce, .int r26, .int (nI k7), .ref fi, .ref se])), (la, .inl (G 0, 4, .inl fl)), (si, .inl (G 0, 4, .inl fz)), (ce, .inl (G 4, 4, .inr (.inr (.inr (.inr (fun ir => if ir < 4 then some (rc ir) else none)))))), (fi, .inl (G 0, 20, .inl (upd g8 j4 (F k v30.toNatClampNeg)))), (se, .inl (G 0, 20, .inl (upd g9 j4 (F k (v32 + 1).toNatClampNeg))))] : va_W) ++ ((((List.range 4).map (fun iq => (rc iq, .inl (G 0, 40, .inl (F iq))))) : va_W) ++ [])) := hD
                  refine lv_aload_n hx hb dX6_takePairs_144 rfl (lv_at hl 2 rfl) ?_
                  refine lv_dup hx hb dX6_takePairs_145 rfl ?_
                  refine va_get (D := (dC, dI)) (ci := 6) (v := .int (nI k7)) (C := RX6) (T := TX6) (N := 7) hx hb hg inG6 hown hK.1 hP 0 rfl rfl 4 (by decide) (hg _ wt_281) (fun _ h9 => h9) rfl dX6_takePairs_146 ?_
                  refine lv_iconst (v := 1) hx hb dX6_takePairs_149 (by decide) ?_
                  refine lv_iadd hx hb dX6_takePairs_150 ?_
                  refine lv_cg (y := nI (k7 + 1)) (by rw [show (1 : Int32) = nI 1 from rfl]; exact nI_add _ _) ?_
                  refine va_put (D := (dC, dI)) (ci := 6) (v := .int (nI (k7 + 1))) (ty := .int) (C := RX6) (T := TX6) (N := 7) hx hb hg inG6 tyX6 tyX6_ok nmX6 hown hK.1 hP hD hS 0 rfl rfl 4 (by decide) (hg _ wt_281) (fun _ h9 => h9) rfl (by decide +kernel) rfl rfl (Nat.le_of_ble_eq_true rfl) dX6_takePairs_151 (fun H locs hP hD hS => ?_)
                  have hP : va_P (dC, dI) vwCl (([(h0, .inr (6, [.ref la, .ref si, .ref ce, .int r26, .int (nI (k7 + 1)), .ref fi, .ref se])), (la, .inl (G 0, 4, .inl fl)), (si, .inl (G 0, 4, .inl fz)), (ce, .inl (G 4, 4, .inr (.inr (.inr (.inr (fun ir => if ir < 4 then some (rc ir) else none)))))), (fi, .inl (G 0, 20, .inl (upd g8 j4 (F k v30.toNatClampNeg)))), (se, .inl (G 0, 20, .inl (upd g9 j4 (F k (v32 + 1).toNatClampNeg))))] : va_W) ++ ((((List.range 4).map (fun iq => (rc iq, .inl (G 0, 40, .inl (F iq))))) : va_W) ++ [])) H := hP
                  have hD : va_D A (([(h0, .inr (6, [.ref la, .ref si, .ref ce, .int r26, .int (nI (k7 + 1)), .ref fi, .ref se])), (la, .inl (G 0, 4, .inl fl)), (si, .inl (G 0, 4, .inl fz)), (ce, .inl (G 4, 4, .inr (.inr (.inr (.inr (fun ir => if ir < 4 then some (rc ir) else none)))))), (fi, .inl (G 0, 20, .inl (upd g8 j4 (F k v30.toNatClampNeg)))), (se, .inl (G 0, 20, .inl (upd g9 j4 (F k (v32 + 1).toNatClampNeg))))] : va_W) ++ ((((List.range 4).map (fun iq => (rc iq, .inl (G 0, 40, .inl (F iq))))) : va_W) ++ [])) := hD
                  refine lv_iinc (v := nI (j4 + 1)) (lv' := [(5, .int (nI (j4 + 1))), (6, .long v20), (0, .ref h0), (1, .int (nI k)), (2, .int lane), (3, .int x1), (4, .int (nI nn))]) hx hb dX6_takePairs_154 hl (k := 1) rfl (by rw [show Int32.ofInt 1 = nI 1 from by decide]; exact nI_add _ _) (by decide) rfl (fun ls hl => ?_)
                  refine lv_goto (tgt := 37) hx hb dX6_takePairs_157 (by decide) ?_
                  exact ih37_10 (j4 + 1) (by omega) (by omega) r26 (k7 + 1) (upd g8 j4 (F k v30.toNatClampNeg)) (upd g9 j4 (F k (v32 + 1).toNatClampNeg)) _ _ (by omega) hP hD hS ls (lv_sub hl [0, 2, 3, 4, 5, 6] rfl)
    exact loop37_10 (20 + 1) 0 (by omega) (by omega) (nI k2) 0 f1 f2 _ _ (by omega) hP hD hS ls (lv_sub hl [0, 1, 2, 3, 4, 5] rfl)
  refine lv_icmp_eq (tgt := 26) hx hb dX6_takePairs_13 (by decide) (fun c36 => ?_) (fun c36 => ?_)
  · skip
    refine lv_iconst (v := 0) hx hb dX6_takePairs_26 (by decide) ?_
    refine lv_goto (tgt := 31) hx hb dX6_takePairs_27 (by decide) ?_
    exact cut31_3 0 _ _ (by omega) hP hD hS ls (lv_sub hl [0, 1, 2, 3, 4] rfl)
  · skip
    refine lv_aload_n hx hb dX6_takePairs_16 rfl (lv_at hl 0 rfl) ?_
    refine va_get (D := (dC, dI)) (ci := 6) (v := .ref la) (C := RX6) (T := TX6) (N := 7) hx hb hg inG6 hown hK.1 hP 0 rfl rfl 0 (by decide) (hg _ wt_276) (fun _ h9 => h9) rfl dX6_takePairs_17 ?_
    refine lv_iload_n hx hb dX6_takePairs_20 rfl (lv_at hl 1 rfl) ?_
    refine va_iald hx hb hK.1 hP 1 0 rfl rfl (vp_in_nI (by have t_c36 := neI c36; have : ((-1) : Int32).toInt = -1 := (by decide); have t_n0 : (nI k).toInt = (k : Int) := nI_toInt (by omega); have t_n1 : (nI nn).toInt = (nn : Int) := nI_toInt (by omega); omega) (by decide)) dX6_takePairs_21 ?_
    refine lv_cg (y := fl k) (by rw [nI_clamp (by omega)]) ?_
    refine lv_iload_n hx hb dX6_takePairs_22 rfl (lv_at hl 2 rfl) ?_
    refine lv_icmp_ne (tgt := 30) hx hb dX6_takePairs_23 (by decide) (fun c37 => ?_) (fun c37 => ?_)
    · skip
      refine lv_iconst (v := 3) hx hb dX6_takePairs_30 (by decide) ?_
      exact cut31_3 3 _ _ (by omega) hP hD hS ls (lv_sub hl [0, 1, 2, 3, 4] rfl)
    · skip
      refine lv_iconst (v := 0) hx hb dX6_takePairs_26 (by decide) ?_
      refine lv_goto (tgt := 31) hx hb dX6_takePairs_27 (by decide) ?_
      exact cut31_3 0 _ _ (by omega) hP hD hS ls (lv_sub hl [0, 1, 2, 3, 4] rfl)

theorem zn01 {r : Int32} (h : r = 0 ∨ r = 1) : narrow .boolean (.int r) = .int r := by rcases h with rfl | rfl <;> rfl
def strL : List (Nat × String) := [(92, "start"), (101, "stretch"), (106, "bearer"), (156, "plain"), (158, "hummer"), (160, "trembler"), (162, "tall"), (164, "twin"), (166, "paid"), (111, "carry")]
def strLen : List Nat := [5, 7, 6, 5, 6, 8, 4, 4, 4, 5]
def strByt : List (List Int32) := [[115, 116, 97, 114, 116], [115, 116, 114, 101, 116, 99, 104], [98, 101, 97, 114, 101, 114], [112, 108, 97, 105, 110], [104, 117, 109, 109, 101, 114], [116, 114, 101, 109, 98, 108, 101, 114], [116, 97, 108, 108], [116, 119, 105, 110], [112, 97, 105, 100], [99, 97, 114, 114, 121]]
theorem strLen_le (i : Nat) : strLen.getD i 0 ≤ 8 := by
  rcases Nat.lt_or_ge i 10 with h | h
  · rcases (show i = 0 ∨ i = 1 ∨ i = 2 ∨ i = 3 ∨ i = 4 ∨ i = 5 ∨ i = 6 ∨ i = 7 ∨ i = 8 ∨ i = 9 by omega) with q|q|q|q|q|q|q|q|q|q <;> subst q <;> decide
  · rw [List.getD_eq_getElem?_getD, List.getElem?_eq_none (by show 10 ≤ i; exact h)]
    exact Nat.zero_le _
/-- what every method that meets a String takes: the constants, where they lie, the two statics -/
def SS (adK adV : Nat → Nat) (A : Nat → Prop) (U : State) (H : Heap) : Prop := vk_S 10 strLen strByt adK adV A U H ∧ (∀ (i : Nat) (q : Nat × String), strL[i]? = some q → vk_R "AsleepPass$Reader" q.1 q.2 (adK i) U) ∧ va_Z "java/lang/String" "COMPACT_STRINGS" "Z" (.int 1) A U H ∧ va_Zq "jdk/internal/util/Preconditions" "SIOOBE_FORMATTER" "Ljava/util/function/BiFunction;" A U H
theorem SS.go {adK adV : Nat → Nat} {A B : Nat → Prop} {s U : State} {H : Heap} {locs : List Loc} (h : SS adK adV A s s.heap) (hS : va_S A s.heap H locs) (hB : ∀ q, B q → A q) (hU : U.heap = H) (hW : s.WarmedH U.vm) : SS adK adV B U U.heap := by
  rw [hU]
  exact ⟨(((h.1.kept hS.2.1).narrow hB).moved hW.alike), fun i q hq => (h.2.1 i q hq).warm hW, ((h.2.2.1.kept hS.2.1).narrow hB).moved hW.alike, ((h.2.2.2.kept hS.2.1).narrow hB).moved hW.alike⟩
theorem SS.calling {adK adV : Nat → Nat} {A : Nat → Prop} {U V : State} {H : Heap} (hv : V.vm = U.vm) (h : SS adK adV A U H) : SS adK adV A V H := by
  have ha : U.vm.Alike V.vm := hv ▸ Vm.Alike.refl U.vm
  exact ⟨h.1.moved ha, fun i q hq => (h.2.1 i q hq).same hv, h.2.2.1.moved ha, h.2.2.2.moved ha⟩
def PcRS (av : List Value) (dC : Nat → ClassId) (dI : Nat → Nat → Nat) (G : Nat → ClassId) (ws : va_W) (adK adV : Nat → Nat) (sz : Nat) : Array Value → State → Prop := va_Pc av (fun U => U.heap.size = sz ∧ va_P (dC, dI) vwCl ws U.heap ∧ KK dC dI G U ∧ SS adK adV (fun q : Nat => sz ≤ q) U U.heap)
def PcWS (av : List Value) (dC : Nat → ClassId) (dI : Nat → Nat → Nat) (G : Nat → ClassId) (ws : va_W) (adK adV : Nat → Nat) (sz : Nat) : Array Value → State → Prop := va_Pc av (fun U => U.heap.size = sz ∧ va_P (dC, dI) vwCl ws U.heap ∧ KK dC dI G U ∧ va_D (fun _ => True) ws ∧ SS adK adV (va_A ws sz) U U.heap)
theorem PcRS.blind {av : List Value} {dC : Nat → ClassId} {dI : Nat → Nat → Nat} {G : Nat → ClassId} {ws : va_W} {adK adV : Nat → Nat} {sz : Nat} : FrameBlind (PcRS av dC dI G ws adK adV sz) := fun a U g mk q => by
  obtain ⟨q0, q1, q2, q3, q4⟩ := q
  exact ⟨q0, q1, q2, KK.calling (U := U) (V := U.calling g mk a) rfl q3, SS.calling (U := U) (V := U.calling g mk a) rfl q4⟩
theorem PcWS.blind {av : List Value} {dC : Nat → ClassId} {dI : Nat → Nat → Nat} {G : Nat → ClassId} {ws : va_W} {adK adV : Nat → Nat} {sz : Nat} : FrameBlind (PcWS av dC dI G ws adK adV sz) := fun a U g mk q => by
  obtain ⟨q0, q1, q2, q3, q4, q5⟩ := q
  exact ⟨q0, q1, q2, KK.calling (U := U) (V := U.calling g mk a) rfl q3, q4, SS.calling (U := U) (V := U.calling g mk a) rfl q5⟩
section PRES
variable {s : State} {H : Heap} {As : List Value} {b : Nat} {dC : Nat → ClassId} {dI : Nat → Nat → Nat} {G : Nat → ClassId} {A : Nat → Prop} {ws : va_W} {adK adV : Nat → Nat} {locs : List Loc} {ci : Nat} {r : vw_C} {fs : List Value}
theorem preSRS (hK : KK dC dI G s) (hP : va_P (dC, dI) vwCl ws H) (hSS : SS adK adV A s s.heap) (hS : va_S A s.heap H locs) (hB : ∀ q : Nat, H.size ≤ q → A q) : PreS s H (PcRS As dC dI G ws adK adV H.size) As :=
  ⟨PcRS.blind, fun U hU hW => ⟨rfl, by rw [hU], by rw [hU]; exact hP, hK.warm hW, hSS.go hS hB hU hW⟩⟩
theorem preVRS (hK : KK dC dI G s) (hP : va_P (dC, dI) vwCl ws H) (hSS : SS adK adV A s s.heap) (hS : va_S A s.heap H locs) (hB : ∀ q : Nat, H.size ≤ q → A q) (hc : vwCl[ci]? = some r) (he : ws[0]? = some (b, .inr (ci, fs))) : PreV s H r.1 b (PcRS (.ref b :: As) dC dI G ws adK adV H.size) As :=
  ⟨PcRS.blind, va_recv hK.1 hP hc he, fun U hU hW => ⟨rfl, by rw [hU], by rw [hU]; exact hP, hK.warm hW, hSS.go hS hB hU hW⟩⟩
theorem preVWS (hK : KK dC dI G s) (hP : va_P (dC, dI) vwCl ws H) (hD : va_D A ws) (hSS : SS adK adV A s s.heap) (hS : va_S A s.heap H locs) (hB : ∀ q : Nat, va_A ws H.size q → A q) (hc : vwCl[ci]? = some r) (he : ws[0]? = some (b, .inr (ci, fs))) : PreV s H r.1 b (PcWS (.ref b :: As) dC dI G ws adK adV H.size) As :=
  ⟨PcWS.blind, va_recv hK.1 hP hc he, fun U hU hW => ⟨rfl, by rw [hU], by rw [hU]; exact hP, hK.warm hW, hD.weaken (fun _ _ _ _ => trivial), hSS.go hS hB hU hW⟩⟩
theorem preVX {i : Nat} (hK : KK dC dI G s) (hP : va_P (dC, dI) vwCl ws H) (hi : i < 10) (hSS : SS adK adV A s s.heap) (hS : va_S A s.heap H locs) (hB : ∀ q : Nat, H.size ≤ q → A q) : PreV s H "java/lang/String" (adK i) (PcRS (.ref (adK i) :: As) dC dI G ws adK adV H.size) As :=
  ⟨PcRS.blind, va_Orecv (hSS.1.1 i hi).1 hS, fun U hU hW => ⟨rfl, by rw [hU], by rw [hU]; exact hP, hK.warm hW, hSS.go hS hB hU hW⟩⟩
end PRES
section VGS
variable {p : Program} {l : Launch} {e : Env} {R : Room} {s : State} {m : MethodId} {args : Array Value} {below : List Frame} {meth : Method} {c : Code} {H : Heap} {locs : List Loc} {cells slots : Nat} {Q : State → Prop} {cc : ByteArray} {pc : Nat} {ls : Array Slot} {rest : List Value} {A : Nat → Prop}
theorem va_getS (hexec : p.tables.exec = Jvm.exec) (hb : c.code = cc) {o n d own ref : String} {v : Value} {t index : Nat} (hE : va_OF o n d v t A s s.heap) (hS : va_S A s.heap H locs) (hown : s.vm.findClass own = some m.cls) (hlink : (Cond.fieldLink own index ref n d).before args s = true) (hsame : ∀ x, s.fieldFound? o n d = some x → s.fieldFound? ref n d = some x) (hdg : decode cc pc = .ok (.getfield index, 3))
    (kk : W p l e R s m args below meth c H locs cells slots Q (F0 m (pc + 3) ls (v :: rest))) : W p l e R s m args below meth c H locs cells slots Q (F0 m pc ls (.ref t :: rest)) := by
  obtain ⟨cf, k, fi, f, cell, h1, h2, h3, h4, h5, h6⟩ := hE.kept hS.2.1
  exact W.getf hexec hb hown hlink (hsame _ h1) h2 h3 h4 (v := v) h5 rfl rfl hdg kk
end VGS
def byF (f : Nat → Int32) (T : Nat) (i : Int32) : Int32 := if 0 ≤ i.toInt ∧ i.toInt < ((T : Nat) : Int) then f i.toNatClampNeg else 0
def valN (f : Nat → Int32) (T a : Nat) : Nat → Int32
  | 0 => 0
  | n + 1 => valN f T a n * 10 + byF f T (nI (a + n)) - 48
set_option maxHeartbeats 1000000 in
set_option maxRecDepth 100000 in
theorem c_X10_read (l : Launch) (dC : Nat → ClassId) (dI : Nat → Nat → Nat) (G : Nat → ClassId) (sz : Nat) (h0 rd wy tr im kp od ch cr le mk tl sh a1 a2 a3 a4 a5 a6 N B D la si ce fi se : Nat) (tf rf k lane x1 n x8 x9 : Int32) (f3 fl fz f1 f2 : Nat → Int32) (rc : Nat → Nat) (F : Nat → Nat → Int32) (hN_N : N ≤ 10) (hB_B : B ≤ 6) (hD_D : 1 ≤ D ∧ D ≤ 9) (hz : ∀ q : Nat, q < 4 → 0 ≤ (fz q).toInt ∧ (fz q).toInt ≤ 40) : Met l yX10_read (Cond.code yX10_read cX10_read 6 (some .int) :: GT) ({ frames := 2, cells := 0, slots := 0, locals := 50 } : Room) (PcW [.ref h0, .int k, .int lane, .int x1, .int n] dC dI G (([(h0, .inr (10, [.ref rd, .ref wy, .ref tr, .ref im, .ref kp, .ref od, .ref ch, .ref cr, .ref le, .ref mk, .ref tl, .ref sh, .int tf, .int rf])), (wy, .inr (9, [.int (nI N), .int (nI B), .int (nI D), .ref a1, .ref a2, .ref a3, .ref a4, .ref a5, .ref a6])), (a3, .inl (G 0, 10, .inl f3)), (sh, .inr (6, [.ref la, .ref si, .ref ce, .int x8, .int x9, .ref fi, .ref se])), (la, .inl (G 0, 4, .inl fl)), (si, .inl (G 0, 4, .inl fz)), (ce, .inl (G 4, 4, .inr (.inr (.inr (.inr (fun ir => if ir < 4 then some (rc ir) else none)))))), (fi, .inl (G 0, 20, .inl f1)), (se, .inl (G 0, 20, .inl f2))] : va_W) ++ ((((List.range 4).map (fun iq => (rc iq, .inl (G 0, 40, .inl (F iq))))) : va_W) ++ [])) sz) (va_Qi (fun (r : Int32) (u : Int32 × Int32 × (Nat → Int32) × (Nat → Int32) × (Nat → Int32) × Int32) => match u with | (u0, u1, u2, u3, u4, u5) => (True) ∧ True) (fun (u : Int32 × Int32 × (Nat → Int32) × (Nat → Int32) × (Nat → Int32) × Int32) (t : State) => match u with | (u0, u1, u2, u3, u4, u5) => va_P (dC, dI) vwCl (([(h0, .inr (10, [.ref rd, .ref wy, .ref tr, .ref im, .ref kp, .ref od, .ref ch, .ref cr, .ref le, .ref mk, .ref tl, .ref sh, .int tf, .int u5])), (wy, .inr (9, [.int (nI N), .int (nI B), .int (nI D), .ref a1, .ref a2, .ref a3, .ref a4, .ref a5, .ref a6])), (a3, .inl (G 0, 10, .inl u4)), (sh, .inr (6, [.ref la, .ref si, .ref ce, .int u0, .int u1, .ref fi, .ref se])), (la, .inl (G 0, 4, .inl fl)), (si, .inl (G 0, 4, .inl fz)), (ce, .inl (G 4, 4, .inr (.inr (.inr (.inr (fun ir => if ir < 4 then some (rc ir) else none)))))), (fi, .inl (G 0, 20, .inl u2)), (se, .inl (G 0, 20, .inl u3))] : va_W) ++ ((((List.range 4).map (fun iq => (rc iq, .inl (G 0, 40, .inl (F iq))))) : va_W) ++ [])) t.heap ∧ va_D (va_A (([(h0, .inr (10, [.ref rd, .ref wy, .ref tr, .ref im, .ref kp, .ref od, .ref ch, .ref cr, .ref le, .ref mk, .ref tl, .ref sh, .int tf, .int rf])), (wy, .inr (9, [.int (nI N), .int (nI B), .int (nI D), .ref a1, .ref a2, .ref a3, .ref a4, .ref a5, .ref a6])), (a3, .inl (G 0, 10, .inl f3)), (sh, .inr (6, [.ref la, .ref si, .ref ce, .int x8, .int x9, .ref fi, .ref se])), (la, .inl (G 0, 4, .inl fl)), (si, .inl (G 0, 4, .inl fz)), (ce, .inl (G 4, 4, .inr (.inr (.inr (.inr (fun ir => if ir < 4 then some (rc ir) else none)))))), (fi, .inl (G 0, 20, .inl f1)), (se, .inl (G 0, 20, .inl f2))] : va_W) ++ ((((List.range 4).map (fun iq => (rc iq, .inl (G 0, 40, .inl (F iq))))) : va_W) ++ [])) sz) (([(h0, .inr (10, [.ref rd, .ref wy, .ref tr, .ref im, .ref kp, .ref od, .ref ch, .ref cr, .ref le, .ref mk, .ref tl, .ref sh, .int tf, .int u5])), (wy, .inr (9, [.int (nI N), .int (nI B), .int (nI D), .ref a1, .ref a2, .ref a3, .ref a4, .ref a5, .ref a6])), (a3, .inl (G 0, 10, .inl u4)), (sh, .inr (6, [.ref la, .ref si, .ref ce, .int u0, .int u1, .ref fi, .ref se])), (la, .inl (G 0, 4, .inl fl)), (si, .inl (G 0, 4, .inl fz)), (ce, .inl (G 4, 4, .inr (.inr (.inr (.inr (fun ir => if ir < 4 then some (rc ir) else none)))))), (fi, .inl (G 0, 20, .inl u2)), (se, .inl (G 0, 20, .inl u3))] : va_W) ++ ((((List.range 4).map (fun iq => (rc iq, .inl (G 0, 40, .inl (F iq))))) : va_W) ++ []))) (va_A (([(h0, .inr (10, [.ref rd, .ref wy, .ref tr, .ref im, .ref kp, .ref od, .ref ch, .ref cr, .ref le, .ref mk, .ref tl, .ref sh, .int tf, .int rf])), (wy, .inr (9, [.int (nI N), .int (nI B), .int (nI D), .ref a1, .ref a2, .ref a3, .ref a4, .ref a5, .ref a6])), (a3, .inl (G 0, 10, .inl f3)), (sh, .inr (6, [.ref la, .ref si, .ref ce, .int x8, .int x9, .ref fi, .ref se])), (la, .inl (G 0, 4, .inl fl)), (si, .inl (G 0, 4, .inl fz)), (ce, .inl (G 4, 4, .inr (.inr (.inr (.inr (fun ir => if ir < 4 then some (rc ir) else none)))))), (fi, .inl (G 0, 20, .inl f1)), (se, .inl (G 0, 20, .inl f2))] : va_W) ++ ((((List.range 4).map (fun iq => (rc iq, .inl (G 0, 40, .inl (F iq))))) : va_W) ++ [])) sz)) 0 0 (va_A (([(h0, .inr (10, [.ref rd, .ref wy, .ref tr, .ref im, .ref kp, .ref od, .ref ch, .ref cr, .ref le, .ref mk, .ref tl, .ref sh, .int tf, .int rf])), (wy, .inr (9, [.int (nI N), .int (nI B), .int (nI D), .ref a1, .ref a2, .ref a3, .ref a4, .ref a5, .ref a6])), (a3, .inl (G 0, 10, .inl f3)), (sh, .inr (6, [.ref la, .ref si, .ref ce, .int x8, .int x9, .ref fi, .ref se])), (la, .inl (G 0, 4, .inl fl)), (si, .inl (G 0, 4, .inl fz)), (ce, .inl (G 4, 4, .inr (.inr (.inr (.inr (fun ir => if ir < 4 then some (rc ir) else none)))))), (fi, .inl (G 0, 20, .inl f1)), (se, .inl (G 0, 20, .inl f2))] : va_W) ++ ((((List.range 4).map (fun iq => (rc iq, .inl (G 0, 40, .inl (F iq))))) : va_W) ++ [])) sz) := by
  refine Met.ofW (cc := cX10_read) (maxL := 6) (ret := (some .int)) (by decide) rfl ?_
  intro p e s m args below meth c s₁ Bd hml hv
  obtain ⟨rfl, hsz, hP, hK, hD0⟩ := hv
  have hx := Bd.exec
  have hb := Bd.bytes
  have hr := Bd.returns
  have hg : ∀ w ∈ GT, w.before ([.ref h0, .int k, .int lane, .int x1, .int n] : List Value).toArray s = true := fun w h => atoms_spec (ws := Cond.code yX10_read cX10_read 6 (some .int) :: GT) Bd.pre w (List.mem_cons_of_mem _ h)
  have hown : s.vm.findClass RX10 = some m.cls := findClass_of_methodNamed Bd.named
  have hlocks := Bd.notSynchronized
  subst hsz
  have hD := hD0.self (sz := s.heap.size)
  generalize hAe : va_A (([(h0, .inr (10, [.ref rd, .ref wy, .ref tr, .ref im, .ref kp, .ref od, .ref ch, .ref cr, .ref le, .ref mk, .ref tl, .ref sh, .int tf, .int rf])), (wy, .inr (9, [.int (nI N), .int (nI B), .int (nI D), .ref a1, .ref a2, .ref a3, .ref a4, .ref a5, .ref a6])), (a3, .inl (G 0, 10, .inl f3)), (sh, .inr (6, [.ref la, .ref si, .ref ce, .int x8, .int x9, .ref fi, .ref se])), (la, .inl (G 0, 4, .inl fl)), (si, .inl (G 0, 4, .inl fz)), (ce, .inl (G 4, 4, .inr (.inr (.inr (.inr (fun ir => if ir < 4 then some (rc ir) else none)))))), (fi, .inl (G 0, 20, .inl f1)), (se, .inl (G 0, 20, .inl f2))] : va_W) ++ ((((List.range 4).map (fun iq => (rc iq, .inl (G 0, 40, .inl (F iq))))) : va_W) ++ [])) s.heap.size = A at hD ⊢
  have hA : ∀ q : Nat, s.heap.size ≤ q → A q := fun q h => by rw [← hAe]; exact Or.inr h
  have hS : va_S A s.heap s.heap [] := va_S.rf
  have hl := lv_entry ([.ref h0, .int k, .int lane, .int x1, .int n]) (n := 6) (Nat.le_of_ble_eq_true rfl)
  rw [lg_entry_eq]
  generalize (lg_sl ([.ref h0, .int k, .int lane, .int x1, .int n]) ++ List.replicate (6 - (lg_sl ([.ref h0, .int k, .int lane, .int x1, .int n])).length) Slot.unset).toArray = ls at hl ⊢
  have hl : lv_has ls 6 [(0, .ref h0), (1, .int k), (2, .int lane), (3, .int x1), (4, .int n)] := hl
  refine lv_iload_n hx hb dX10_read_0 rfl (lv_at hl 1 rfl) ?_
  have hPc := hP.sub (ws' := []) [] rfl
  refine va_calli (va_runSN (As := [.int k]) (rest := []) ⟨hx, hb, hml, hown, hg⟩ (c_X6_isSheet l dC dI G _ k ) (kwSN hg hK mfX6_isSheet wn_823 ⟨Nat.le_of_ble_eq_true rfl, Nat.le_of_ble_eq_true rfl⟩) (preSR hK hPc) rfl rfl hl.1 rfl (lv_room (Nat.le_of_ble_eq_true rfl)) dX10_read_1 ⟨Nat.le_of_ble_eq_true rfl, Nat.le_of_ble_eq_true rfl⟩) hS (fun q h1 h2 => absurd h2 (Nat.not_le.mpr h1)) (fun q h => hA q (Nat.le_trans hS.1 h)) (fun r1 ur1 t H1 locs ht hvm w2 hB hz1 hk1 hS => ?_)
  have hP := keepR hP hk1
  obtain ⟨w2, w2x⟩ := w2
  try simp only [l_ii, show (0 : Int32).toInt = 0 from by decide, show (4 : Int32).toInt = 4 from by decide] at w2
  subst w2
  refine lv_if_eq (tgt := 26) hx hb dX10_read_4 (by decide) (fun c3 => ?_) (fun c3 => ?_)
  · skip
    have b4 := if10_n c3
    refine lv_iconst (v := (-1)) hx hb dX10_read_26 (by decide) ?_
    have hpost : True := by
      trivial
    have hP9 := hP.sub (ws' := (([(h0, .inr (10, [.ref rd, .ref wy, .ref tr, .ref im, .ref kp, .ref od, .ref ch, .ref cr, .ref le, .ref mk, .ref tl, .ref sh, .int tf, .int rf])), (wy, .inr (9, [.int (nI N), .int (nI B), .int (nI D), .ref a1, .ref a2, .ref a3, .ref a4, .ref a5, .ref a6])), (a3, .inl (G 0, 10, .inl f3)), (sh, .inr (6, [.ref la, .ref si, .ref ce, .int x8, .int x9, .ref fi, .ref se])), (la, .inl (G 0, 4, .inl fl)), (si, .inl (G 0, 4, .inl fz)), (ce, .inl (G 4, 4, .inr (.inr (.inr (.inr (fun ir => if ir < 4 then some (rc ir) else none)))))), (fi, .inl (G 0, 20, .inl f1)), (se, .inl (G 0, 20, .inl f2))] : va_W) ++ ((((List.range 4).map (fun iq => (rc iq, .inl (G 0, 40, .inl (F iq))))) : va_W) ++ []))) [0, 1, 2, 3, 4, 5, 6, 7, 8, 9, 10, 11, 12] rfl
    have hD9 := hD.sub (ws' := (([(h0, .inr (10, [.ref rd, .ref wy, .ref tr, .ref im, .ref kp, .ref od, .ref ch, .ref cr, .ref le, .ref mk, .ref tl, .ref sh, .int tf, .int rf])), (wy, .inr (9, [.int (nI N), .int (nI B), .int (nI D), .ref a1, .ref a2, .ref a3, .ref a4, .ref a5, .ref a6])), (a3, .inl (G 0, 10, .inl f3)), (sh, .inr (6, [.ref la, .ref si, .ref ce, .int x8, .int x9, .ref fi, .ref se])), (la, .inl (G 0, 4, .inl fl)), (si, .inl (G 0, 4, .inl fz)), (ce, .inl (G 4, 4, .inr (.inr (.inr (.inr (fun ir => if ir < 4 then some (rc ir) else none)))))), (fi, .inl (G 0, 20, .inl f1)), (se, .inl (G 0, 20, .inl f2))] : va_W) ++ ((((List.range 4).map (fun iq => (rc iq, .inl (G 0, 40, .inl (F iq))))) : va_W) ++ []))) [0, 1, 2, 3, 4, 5, 6, 7, 8, 9, 10, 11, 12] (by decide) rfl
    refine W.widen (k := 0) (n := 0) (by omega) (by omega) ?_
    exact W.iret (v := (-1)) hx hb hr (fun t ht hW => ⟨⟨(-1), (x8, x9, f1, f2, f3, rf), rfl, ⟨hpost, trivial⟩, ⟨by rw [ht]; exact hP9, hD9⟩⟩, hS.F ht⟩) hS.2.2 dX10_read_27
  · skip
    have b5 := if10_p c3
    refine lv_iload_n hx hb dX10_read_7 rfl (lv_at hl 2 rfl) ?_
    have hPc := hP.sub (ws' := []) [] rfl
    refine va_calli (va_runSN (As := [.int lane]) (rest := []) ⟨hx, hb, hml, hown, hg⟩ (c_X6_isLane l dC dI G _ lane ) (kwSN hg hK mfX6_isLane wn_826 ⟨Nat.le_of_ble_eq_true rfl, Nat.le_of_ble_eq_true rfl⟩) (preSR hK hPc) rfl rfl hl.1 rfl (lv_room (Nat.le_of_ble_eq_true rfl)) dX10_read_8 ⟨Nat.le_of_ble_eq_true rfl, Nat.le_of_ble_eq_true rfl⟩) hS (fun q h1 h2 => absurd h2 (Nat.not_le.mpr h1)) (fun q h => hA q (Nat.le_trans hS.1 h)) (fun r6 ur6 t H1 locs ht hvm w7 hB hz1 hk1 hS => ?_)
    have hP := keepR hP hk1
    obtain ⟨w7, w7x⟩ := w7
    try simp only [l_ii, show (0 : Int32).toInt = 0 from by decide, show (2 : Int32).toInt = 2 from by decide] at w7
    subst w7
    refine lv_if_eq (tgt := 26) hx hb dX10_read_11 (by decide) (fun c8 => ?_) (fun c8 => ?_)
    · skip
      have b9 := if10_n c8
      refine lv_iconst (v := (-1)) hx hb dX10_read_26 (by decide) ?_
      have hpost : True := by
        trivial
      have hP9 := hP.sub (ws' := (([(h0, .inr (10, [.ref rd, .ref wy, .ref tr, .ref im, .ref kp, .ref od, .ref ch, .ref cr, .ref le, .ref mk, .ref tl, .ref sh, .int tf, .int rf])), (wy, .inr (9, [.int (nI N), .int (nI B), .int (nI D), .ref a1, .ref a2, .ref a3, .ref a4, .ref a5, .ref a6])), (a3, .inl (G 0, 10, .inl f3)), (sh, .inr (6, [.ref la, .ref si, .ref ce, .int x8, .int x9, .ref fi, .ref se])), (la, .inl (G 0, 4, .inl fl)), (si, .inl (G 0, 4, .inl fz)), (ce, .inl (G 4, 4, .inr (.inr (.inr (.inr (fun ir => if ir < 4 then some (rc ir) else none)))))), (fi, .inl (G 0, 20, .inl f1)), (se, .inl (G 0, 20, .inl f2))] : va_W) ++ ((((List.range 4).map (fun iq => (rc iq, .inl (G 0, 40, .inl (F iq))))) : va_W) ++ []))) [0, 1, 2, 3, 4, 5, 6, 7, 8, 9, 10, 11, 12] rfl
      have hD9 := hD.sub (ws' := (([(h0, .inr (10, [.ref rd, .ref wy, .ref tr, .ref im, .ref kp, .ref od, .ref ch, .ref cr, .ref le, .ref mk, .ref tl, .ref sh, .int tf, .int rf])), (wy, .inr (9, [.int (nI N), .int (nI B), .int (nI D), .ref a1, .ref a2, .ref a3, .ref a4, .ref a5, .ref a6])), (a3, .inl (G 0, 10, .inl f3)), (sh, .inr (6, [.ref la, .ref si, .ref ce, .int x8, .int x9, .ref fi, .ref se])), (la, .inl (G 0, 4, .inl fl)), (si, .inl (G 0, 4, .inl fz)), (ce, .inl (G 4, 4, .inr (.inr (.inr (.inr (fun ir => if ir < 4 then some (rc ir) else none)))))), (fi, .inl (G 0, 20, .inl f1)), (se, .inl (G 0, 20, .inl f2))] : va_W) ++ ((((List.range 4).map (fun iq => (rc iq, .inl (G 0, 40, .inl (F iq))))) : va_W) ++ []))) [0, 1, 2, 3, 4, 5, 6, 7, 8, 9, 10, 11, 12] (by decide) rfl
      refine W.widen (k := 0) (n := 0) (by omega) (by omega) ?_
      exact W.iret (v := (-1)) hx hb hr (fun t ht hW => ⟨⟨(-1), (x8, x9, f1, f2, f3, rf), rfl, ⟨hpost, trivial⟩, ⟨by rw [ht]; exact hP9, hD9⟩⟩, hS.F ht⟩) hS.2.2 dX10_read_27
    · skip
      have b10 := if10_p c8
      refine lv_iload hx hb dX10_read_14 (lv_at hl 4 rfl) ?_
      refine lv_if_lt (tgt := 26) hx hb dX10_read_16 (by decide) (fun c11 => ?_) (fun c11 => ?_)
      · skip
        refine lv_iconst (v := (-1)) hx hb dX10_read_26 (by decide) ?_
        have hpost : True := by
          trivial
        have hP9 := hP.sub (ws' := (([(h0, .inr (10, [.ref rd, .ref wy, .ref tr, .ref im, .ref kp, .ref od, .ref ch, .ref cr, .ref le, .ref mk, .ref tl, .ref sh, .int tf, .int rf])), (wy, .inr (9, [.int (nI N), .int (nI B), .int (nI D), .ref a1, .ref a2, .ref a3, .ref a4, .ref a5, .ref a6])), (a3, .inl (G 0, 10, .inl f3)), (sh, .inr (6, [.ref la, .ref si, .ref ce, .int x8, .int x9, .ref fi, .ref se])), (la, .inl (G 0, 4, .inl fl)), (si, .inl (G 0, 4, .inl fz)), (ce, .inl (G 4, 4, .inr (.inr (.inr (.inr (fun ir => if ir < 4 then some (rc ir) else none)))))), (fi, .inl (G 0, 20, .inl f1)), (se, .inl (G 0, 20, .inl f2))] : va_W) ++ ((((List.range 4).map (fun iq => (rc iq, .inl (G 0, 40, .inl (F iq))))) : va_W) ++ []))) [0, 1, 2, 3, 4, 5, 6, 7, 8, 9, 10, 11, 12] rfl
        have hD9 := hD.sub (ws' := (([(h0, .inr (10, [.ref rd, .ref wy, .ref tr, .ref im, .ref kp, .ref od, .ref ch, .ref cr, .ref le, .ref mk, .ref tl, .ref sh, .int tf, .int rf])), (wy, .inr (9, [.int (nI N), .int (nI B), .int (nI D), .ref a1, .ref a2, .ref a3, .ref a4, .ref a5, .ref a6])), (a3, .inl (G 0, 10, .inl f3)), (sh, .inr (6, [.ref la, .ref si, .ref ce, .int x8, .int x9, .ref fi, .ref se])), (la, .inl (G 0, 4, .inl fl)), (si, .inl (G 0, 4, .inl fz)), (ce, .inl (G 4, 4, .inr (.inr (.inr (.inr (fun ir => if ir < 4 then some (rc ir) else none)))))), (fi, .inl (G 0, 20, .inl f1)), (se, .inl (G 0, 20, .inl f2))] : va_W) ++ ((((List.range 4).map (fun iq => (rc iq, .inl (G 0, 40, .inl (F iq))))) : va_W) ++ []))) [0, 1, 2, 3, 4, 5, 6, 7, 8, 9, 10, 11, 12] (by decide) rfl
        refine W.widen (k := 0) (n := 0) (by omega) (by omega) ?_
        exact W.iret (v := (-1)) hx hb hr (fun t ht hW => ⟨⟨(-1), (x8, x9, f1, f2, f3, rf), rfl, ⟨hpost, trivial⟩, ⟨by rw [ht]; exact hP9, hD9⟩⟩, hS.F ht⟩) hS.2.2 dX10_read_27
      · skip
        refine lv_iload hx hb dX10_read_19 (lv_at hl 4 rfl) ?_
        refine lv_bipush (v := 20) hx hb dX10_read_21 (by decide) ?_
        refine lv_icmp_le (tgt := 28) hx hb dX10_read_23 (by decide) (fun c12 => ?_) (fun c12 => ?_)
        · skip
          obtain ⟨kk, hkk, rfl⟩ : ∃ j : Nat, j < 4 ∧ k = nI j := by
            have t_b5 := b5
            have t_b10 := b10
            have t_c11 := nltI c11
            have t_c12 := leI c12
            have : (0 : Int32).toInt = 0 := (by decide)
            have : (20 : Int32).toInt = 20 := (by decide)
            have t_n0 : (nI N).toInt = (N : Int) := nI_toInt (by omega)
            have t_n1 : (nI B).toInt = (B : Int) := nI_toInt (by omega)
            have t_n2 : (nI D).toInt = (D : Int) := nI_toInt (by omega)
            exact i32_nat (by omega) (by omega)
          obtain ⟨nn, hnn, rfl⟩ : ∃ j : Nat, j < 21 ∧ n = nI j := by
            have t_b5 := b5
            have t_b10 := b10
            have t_c11 := nltI c11
            have t_c12 := leI c12
            have t_hkk := hkk
            have : (0 : Int32).toInt = 0 := (by decide)
            have : (20 : Int32).toInt = 20 := (by decide)
            have t_n0 : (nI N).toInt = (N : Int) := nI_toInt (by omega)
            have t_n1 : (nI B).toInt = (B : Int) := nI_toInt (by omega)
            have t_n2 : (nI D).toInt = (D : Int) := nI_toInt (by omega)
            have t_n3 : (nI kk).toInt = (kk : Int) := nI_toInt (by omega)
            exact i32_nat (by omega) (by omega)
          refine lv_aload_n hx hb dX10_read_28 rfl (lv_at hl 0 rfl) ?_
          refine va_get (D := (dC, dI)) (ci := 10) (v := .ref sh) (C := RX10) (T := TX10) (N := 14) hx hb hg inG10 hown hK.1 hP 0 rfl rfl 11 (by decide) (hg _ wt_313) (fun _ h9 => h9) rfl dX10_read_29 ?_
          refine lv_iload_n hx hb dX10_read_32 rfl (lv_at hl 1 rfl) ?_
          refine lv_iload_n hx hb dX10_read_33 rfl (lv_at hl 2 rfl) ?_
          refine lv_iload_n hx hb dX10_read_34 rfl (lv_at hl 3 rfl) ?_
          refine lv_iload hx hb dX10_read_35 (lv_at hl 4 rfl) ?_
          have hPc := hP.sub (ws' := (([(sh, .inr (6, [.ref la, .ref si, .ref ce, .int x8, .int x9, .ref fi, .ref se])), (la, .inl (G 0, 4, .inl fl)), (si, .inl (G 0, 4, .inl fz)), (ce, .inl (G 4, 4, .inr (.inr (.inr (.inr (fun ir => if ir < 4 then some (rc ir) else none)))))), (fi, .inl (G 0, 20, .inl f1)), (se, .inl (G 0, 20, .inl f2))] : va_W) ++ ((((List.range 4).map (fun iq => (rc iq, .inl (G 0, 40, .inl (F iq))))) : va_W) ++ []))) [3, 4, 5, 6, 7, 8, 9, 10, 11, 12] rfl
          have hDc := hD.sub (ws' := (([(sh, .inr (6, [.ref la, .ref si, .ref ce, .int x8, .int x9, .ref fi, .ref se])), (la, .inl (G 0, 4, .inl fl)), (si, .inl (G 0, 4, .inl fz)), (ce, .inl (G 4, 4, .inr (.inr (.inr (.inr (fun ir => if ir < 4 then some (rc ir) else none)))))), (fi, .inl (G 0, 20, .inl f1)), (se, .inl (G 0, 20, .inl f2))] : va_W) ++ ((((List.range 4).map (fun iq => (rc iq, .inl (G 0, 40, .inl (F iq))))) : va_W) ++ []))) [3, 4, 5, 6, 7, 8, 9, 10, 11, 12] (by decide) rfl
          have hFc := va_free (wc := (([(sh, .inr (6, [.ref la, .ref si, .ref ce, .int x8, .int x9, .ref fi, .ref se])), (la, .inl (G 0, 4, .inl fl)), (si, .inl (G 0, 4, .inl fz)), (ce, .inl (G 4, 4, .inr (.inr (.inr (.inr (fun ir => if ir < 4 then some (rc ir) else none)))))), (fi, .inl (G 0, 20, .inl f1)), (se, .inl (G 0, 20, .inl f2))] : va_W) ++ ((((List.range 4).map (fun iq => (rc iq, .inl (G 0, 40, .inl (F iq))))) : va_W) ++ []))) hD hS hA [3, 4, 5, 6, 7, 8, 9, 10, 11, 12] rfl
          refine va_callv (va_runVN (As := [.int (nI kk), .int lane, .int x1, .int (nI nn)]) (rest := []) ⟨hx, hb, hml, hown, hg⟩ (c_X6_takePairs l dC dI G _ sh la si ce fi se kk nn x8 x9 lane x1 fl fz f1 f2 rc F (by omega) (by omega) hz) (kwVN hg hK mfX6_takePairs wn_851 ⟨Nat.le_of_ble_eq_true rfl, Nat.le_of_ble_eq_true rfl⟩) (preVW hK hPc hDc (ci := 6) rfl rfl) rfl rfl hl.1 rfl (lv_room (Nat.le_of_ble_eq_true rfl)) dX10_read_37 ⟨Nat.le_of_ble_eq_true rfl, Nat.le_of_ble_eq_true rfl⟩) hS (fun q _ h => hFc q h) hFc (fun ur13 t H1 locs ht hvm w14 hB hz1 hk1 hS => ?_)
          obtain ⟨u15, u16, u17, u18⟩ := ur13
          obtain ⟨hP1, hD1⟩ := hB
          rw [ht] at hP1
          obtain ⟨hP, hD⟩ := va_join (wr := [(h0, .inr (10, [.ref rd, .ref wy, .ref tr, .ref im, .ref kp, .ref od, .ref ch, .ref cr, .ref le, .ref mk, .ref tl, .ref sh, .int tf, .int rf])), (wy, .inr (9, [.int (nI N), .int (nI B), .int (nI D), .ref a1, .ref a2, .ref a3, .ref a4, .ref a5, .ref a6])), (a3, .inl (G 0, 10, .inl f3))]) (w1 := (([(sh, .inr (6, [.ref la, .ref si, .ref ce, .int u15, .int (nI u16), .ref fi, .ref se])), (la, .inl (G 0, 4, .inl fl)), (si, .inl (G 0, 4, .inl fz)), (ce, .inl (G 4, 4, .inr (.inr (.inr (.inr (fun ir => if ir < 4 then some (rc ir) else none)))))), (fi, .inl (G 0, 20, .inl u17)), (se, .inl (G 0, 20, .inl u18))] : va_W) ++ ((((List.range 4).map (fun iq => (rc iq, .inl (G 0, 40, .inl (F iq))))) : va_W) ++ []))) hP hD [3, 4, 5, 6, 7, 8, 9, 10, 11, 12] [0, 1, 2] rfl rfl (by decide) (by decide) hk1 hFc hP1 hD1
          have w14 : u16 ≤ 20 := w14
          generalize H1 = H at hP hS ⊢
          have hP : va_P (dC, dI) vwCl (([(h0, .inr (10, [.ref rd, .ref wy, .ref tr, .ref im, .ref kp, .ref od, .ref ch, .ref cr, .ref le, .ref mk, .ref tl, .ref sh, .int tf, .int rf])), (wy, .inr (9, [.int (nI N), .int (nI B), .int (nI D), .ref a1, .ref a2, .ref a3, .ref a4, .ref a5, .ref a6])), (a3, .inl (G 0, 10, .inl f3)), (sh, .inr (6, [.ref la, .ref si, .ref ce, .int u15, .int (nI u16), .ref fi, .ref se])), (la, .inl (G 0, 4, .inl fl)), (si, .inl (G 0, 4, .inl fz)), (ce, .inl (G 4, 4, .inr (.inr (.inr (.inr (fun ir => if ir < 4 then some (rc ir) else none)))))), (fi, .inl (G 0, 20, .inl u17)), (se, .inl (G 0, 20, .inl u18))] : va_W) ++ ((((List.range 4).map (fun iq => (rc iq, .inl (G 0, 40, .inl (F iq))))) : va_W) ++ [])) H := hP
          have hD : va_D A (([(h0, .inr (10, [.ref rd, .ref wy, .ref tr, .ref im, .ref kp, .ref od, .ref ch, .ref cr, .ref le, .ref mk, .ref tl, .ref sh, .int tf, .int rf])), (wy, .inr (9, [.int (nI N), .int (nI B), .int (nI D), .ref a1, .ref a2, .ref a3, .ref a4, .ref a5, .ref a6])), (a3, .inl (G 0, 10, .inl f3)), (sh, .inr (6, [.ref la, .ref si, .ref ce, .int u15, .int (nI u16), .ref fi, .ref se])), (la, .inl (G 0, 4, .inl fl)), (si, .inl (G 0, 4, .inl fz)), (ce, .inl (G 4, 4, .inr (.inr (.inr (.inr (fun ir => if ir < 4 then some (rc ir) else none)))))), (fi, .inl (G 0, 20, .inl u17)), (se, .inl (G 0, 20, .inl u18))] : va_W) ++ ((((List.range 4).map (fun iq => (rc iq, .inl (G 0, 40, .inl (F iq))))) : va_W) ++ [])) := hD
          refine lv_iconst (v := 0) hx hb dX10_read_40 (by decide) ?_
          refine lv_istore (lv' := [(5, .int 0), (0, .ref h0), (1, .int (nI kk)), (2, .int lane), (3, .int x1), (4, .int (nI nn))]) hx hb dX10_read_41 hl (by decide) rfl (fun ls hl => ?_)
          have loop43_20 : ∀ (nf j19 : Nat), u16 + 1 ≤ j19 + nf → j19 ≤ u16 → ∀ (H : Heap) (locs : List Loc), (∀ q9 : Nat, q9 < j19 → 0 ≤ (u17 q9).toInt ∧ (u17 q9).toInt < ((N : Nat) : Int)) → va_P (dC, dI) vwCl (([(h0, .inr (10, [.ref rd, .ref wy, .ref tr, .ref im, .ref kp, .ref od, .ref ch, .ref cr, .ref le, .ref mk, .ref tl, .ref sh, .int tf, .int rf])), (wy, .inr (9, [.int (nI N), .int (nI B), .int (nI D), .ref a1, .ref a2, .ref a3, .ref a4, .ref a5, .ref a6])), (a3, .inl (G 0, 10, .inl f3)), (sh, .inr (6, [.ref la, .ref si, .ref ce, .int u15, .int (nI u16), .ref fi, .ref se])), (la, .inl (G 0, 4, .inl fl)), (si, .inl (G 0, 4, .inl fz)), (ce, .inl (G 4, 4, .inr (.inr (.inr (.inr (fun ir => if ir < 4 then some (rc ir) else none)))))), (fi, .inl (G 0, 20, .inl u17)), (se, .inl (G 0, 20, .inl u18))] : va_W) ++ ((((List.range 4).map (fun iq => (rc iq, .inl (G 0, 40, .inl (F iq))))) : va_W) ++ [])) H → va_D A (([(h0, .inr (10, [.ref rd, .ref wy, .ref tr, .ref im, .ref kp, .ref od, .ref ch, .ref cr, .ref le, .ref mk, .ref tl, .ref sh, .int tf, .int rf])), (wy, .inr (9, [.int (nI N), .int (nI B), .int (nI D), .ref a1, .ref a2, .ref a3, .ref a4, .ref a5, .ref a6])), (a3, .inl (G 0, 10, .inl f3)), (sh, .inr (6, [.ref la, .ref si, .ref ce, .int u15, .int (nI u16), .ref fi, .ref se])), (la, .inl (G 0, 4, .inl fl)), (si, .inl (G 0, 4, .inl fz)), (ce, .inl (G 4, 4, .inr (.inr (.inr (.inr (fun ir => if ir < 4 then some (rc ir) else none)))))), (fi, .inl (G 0, 20, .inl u17)), (se, .inl (G 0, 20, .inl u18))] : va_W) ++ ((((List.range 4).map (fun iq => (rc iq, .inl (G 0, 40, .inl (F iq))))) : va_W) ++ [])) → va_S A s.heap H locs → ∀ (ls : Array Slot), lv_has ls 6 [(5, .int (nI j19)), (0, .ref h0), (1, .int (nI kk)), (2, .int lane), (3, .int x1), (4, .int (nI nn))] → W p l e (headSpec (Cond.code yX10_read cX10_read 6 (some .int) :: GT) ({ frames := 2, cells := 0, slots := 0, locals := 50 } : Room)).room s m ([.ref h0, .int (nI kk), .int lane, .int x1, .int (nI nn)] : List Value).toArray below meth c H locs 0 0 (MQ below (va_Qi (fun (r : Int32) (u : Int32 × Int32 × (Nat → Int32) × (Nat → Int32) × (Nat → Int32) × Int32) => match u with | (u0, u1, u2, u3, u4, u5) => (True) ∧ True) (fun (u : Int32 × Int32 × (Nat → Int32) × (Nat → Int32) × (Nat → Int32) × Int32) (t : State) => match u with | (u0, u1, u2, u3, u4, u5) => va_P (dC, dI) vwCl (([(h0, .inr (10, [.ref rd, .ref wy, .ref tr, .ref im, .ref kp, .ref od, .ref ch, .ref cr, .ref le, .ref mk, .ref tl, .ref sh, .int tf, .int u5])), (wy, .inr (9, [.int (nI N), .int (nI B), .int (nI D), .ref a1, .ref a2, .ref a3, .ref a4, .ref a5, .ref a6])), (a3, .inl (G 0, 10, .inl u4)), (sh, .inr (6, [.ref la, .ref si, .ref ce, .int u0, .int u1, .ref fi, .ref se])), (la, .inl (G 0, 4, .inl fl)), (si, .inl (G 0, 4, .inl fz)), (ce, .inl (G 4, 4, .inr (.inr (.inr (.inr (fun ir => if ir < 4 then some (rc ir) else none)))))), (fi, .inl (G 0, 20, .inl u2)), (se, .inl (G 0, 20, .inl u3))] : va_W) ++ ((((List.range 4).map (fun iq => (rc iq, .inl (G 0, 40, .inl (F iq))))) : va_W) ++ [])) t.heap ∧ va_D A (([(h0, .inr (10, [.ref rd, .ref wy, .ref tr, .ref im, .ref kp, .ref od, .ref ch, .ref cr, .ref le, .ref mk, .ref tl, .ref sh, .int tf, .int u5])), (wy, .inr (9, [.int (nI N), .int (nI B), .int (nI D), .ref a1, .ref a2, .ref a3, .ref a4, .ref a5, .ref a6])), (a3, .inl (G 0, 10, .inl u4)), (sh, .inr (6, [.ref la, .ref si, .ref ce, .int u0, .int u1, .ref fi, .ref se])), (la, .inl (G 0, 4, .inl fl)), (si, .inl (G 0, 4, .inl fz)), (ce, .inl (G 4, 4, .inr (.inr (.inr (.inr (fun ir => if ir < 4 then some (rc ir) else none)))))), (fi, .inl (G 0, 20, .inl u2)), (se, .inl (G 0, 20, .inl u3))] : va_W) ++ ((((List.range 4).map (fun iq => (rc iq, .inl (G 0, 40, .inl (F iq))))) : va_W) ++ []))) A) ([.ref h0, .int (nI kk), .int lane, .int x1, .int (nI nn)] : List Value).toArray s 0 0 A) (F0 m 43 ls []) := by
            intro nf
            induction nf with
            | zero => intro j19 h1 h2; exact absurd h1 (by omega)
            | succ nf ih43_20 =>
              intro j19 hn21 hj22  H locs hinv hP hD hS ls hl
              refine lv_iload hx hb dX10_read_43 (lv_at hl 0 rfl) ?_
              refine lv_aload_n hx hb dX10_read_45 rfl (lv_at hl 1 rfl) ?_
              refine va_get (D := (dC, dI)) (ci := 10) (v := .ref sh) (C := RX10) (T := TX10) (N := 14) hx hb hg inG10 hown hK.1 hP 0 rfl rfl 11 (by decide) (hg _ wt_313) (fun _ h9 => h9) rfl dX10_read_46 ?_
              refine va_getN (D := (dC, dI)) (ci := 6) (v := .int (nI u16)) (C := RX6) (T := TX6) (N := 7) hx hb hg inG6 hown hK.1 hP 3 rfl rfl 4 (by decide) (hK.nest wn_282) (fun _ h9 => h9) rfl dX10_read_49 ?_
              refine lv_icmp_ge (tgt := 107) hx hb dX10_read_52 (by decide) (fun c23 => ?_) (fun c23 => ?_)
              · skip
                have n24 : u16 ≤ j19 := by have t := leI c23; rw [nI_toInt (n := j19) (by omega)] at t; rw [nI_toInt (n := u16) (by omega)] at t; omega
                refine lv_iconst (v := 0) hx hb dX10_read_107 (by decide) ?_
                refine lv_istore (lv' := [(5, .int 0), (0, .ref h0), (1, .int (nI kk)), (2, .int lane), (3, .int x1), (4, .int (nI nn))]) hx hb dX10_read_108 hl (by decide) rfl (fun ls hl => ?_)
                have loop110_27 : ∀ (nf j25 : Nat), u16 + 1 ≤ j25 + nf → j25 ≤ u16 → ∀ (g26 : Nat → Int32) (H : Heap) (locs : List Loc), va_P (dC, dI) vwCl (([(h0, .inr (10, [.ref rd, .ref wy, .ref tr, .ref im, .ref kp, .ref od, .ref ch, .ref cr, .ref le, .ref mk, .ref tl, .ref sh, .int tf, .int rf])), (wy, .inr (9, [.int (nI N), .int (nI B), .int (nI D), .ref a1, .ref a2, .ref a3, .ref a4, .ref a5, .ref a6])), (a3, .inl (G 0, 10, .inl g26)), (sh, .inr (6, [.ref la, .ref si, .ref ce, .int u15, .int (nI u16), .ref fi, .ref se])), (la, .inl (G 0, 4, .inl fl)), (si, .inl (G 0, 4, .inl fz)), (ce, .inl (G 4, 4, .inr (.inr (.inr (.inr (fun ir => if ir < 4 then some (rc ir) else none)))))), (fi, .inl (G 0, 20, .inl u17)), (se, .inl (G 0, 20, .inl u18))] : va_W) ++ ((((List.range 4).map (fun iq => (rc iq, .inl (G 0, 40, .inl (F iq))))) : va_W) ++ [])) H → va_D A (([(h0, .inr (10, [.ref rd, .ref wy, .ref tr, .ref im, .ref kp, .ref od, .ref ch, .ref cr, .ref le, .ref mk, .ref tl, .ref sh, .int tf, .int rf])), (wy, .inr (9, [.int (nI N), .int (nI B), .int (nI D), .ref a1, .ref a2, .ref a3, .ref a4, .ref a5, .ref a6])), (a3, .inl (G 0, 10, .inl g26)), (sh, .inr (6, [.ref la, .ref si, .ref ce, .int u15, .int (nI u16), .ref fi, .ref se])), (la, .inl (G 0, 4, .inl fl)), (si, .inl (G 0, 4, .inl fz)), (ce, .inl (G 4, 4, .inr (.inr (.inr (.inr (fun ir => if ir < 4 then some (rc ir) else none)))))), (fi, .inl (G 0, 20, .inl u17)), (se, .inl (G 0, 20, .inl u18))] : va_W) ++ ((((List.range 4).map (fun iq => (rc iq, .inl (G 0, 40, .inl (F iq))))) : va_W) ++ [])) → va_S A s.heap H locs → ∀ (ls : Array Slot), lv_has ls 6 [(5, .int (nI j25)), (0, .ref h0), (1, .int (nI kk)), (2, .int lane), (3, .int x1), (4, .int (nI nn))] → W p l e (headSpec (Cond.code yX10_read cX10_read 6 (some .int) :: GT) ({ frames := 2, cells := 0, slots := 0, locals := 50 } : Room)).room s m ([.ref h0, .int (nI kk), .int lane, .int x1, .int (nI nn)] : List Value).toArray below meth c H locs 0 0 (MQ below (va_Qi (fun (r : Int32) (u : Int32 × Int32 × (Nat → Int32) × (Nat → Int32) × (Nat → Int32) × Int32) => match u with | (u0, u1, u2, u3, u4, u5) => (True) ∧ True) (fun (u : Int32 × Int32 × (Nat → Int32) × (Nat → Int32) × (Nat → Int32) × Int32) (t : State) => match u with | (u0, u1, u2, u3, u4, u5) => va_P (dC, dI) vwCl (([(h0, .inr (10, [.ref rd, .ref wy, .ref tr, .ref im, .ref kp, .ref od, .ref ch, .ref cr, .ref le, .ref mk, .ref tl, .ref sh, .int tf, .int u5])), (wy, .inr (9, [.int (nI N), .int (nI B), .int (nI D), .ref a1, .ref a2, .ref a3, .ref a4, .ref a5, .ref a6])), (a3, .inl (G 0, 10, .inl u4)), (sh, .inr (6, [.ref la, .ref si, .ref ce, .int u0, .int u1, .ref fi, .ref se])), (la, .inl (G 0, 4, .inl fl)), (si, .inl (G 0, 4, .inl fz)), (ce, .inl (G 4, 4, .inr (.inr (.inr (.inr (fun ir => if ir < 4 then some (rc ir) else none)))))), (fi, .inl (G 0, 20, .inl u2)), (se, .inl (G 0, 20, .inl u3))] : va_W) ++ ((((List.range 4).map (fun iq => (rc iq, .inl (G 0, 40, .inl (F iq))))) : va_W) ++ [])) t.heap ∧ va_D A (([(h0, .inr (10, [.ref rd, .ref wy, .ref tr, .ref im, .ref kp, .ref od, .ref ch, .ref cr, .ref le, .ref mk, .ref tl, .ref sh, .int tf, .int u5])), (wy, .inr (9, [.int (nI N), .int (nI B), .int (nI D), .ref a1, .ref a2, .ref a3, .ref a4, .ref a5, .ref a6])), (a3, .inl (G 0, 10, .inl u4)), (sh, .inr (6, [.ref la, .ref si, .ref ce, .int u0, .int u1, .ref fi, .ref se])), (la, .inl (G 0, 4, .inl fl)), (si, .inl (G 0, 4, .inl fz)), (ce, .inl (G 4, 4, .inr (.inr (.inr (.inr (fun ir => if ir < 4 then some (rc ir) else none)))))), (fi, .inl (G 0, 20, .inl u2)), (se, .inl (G 0, 20, .inl u3))] : va_W) ++ ((((List.range 4).map (fun iq => (rc iq, .inl (G 0, 40, .inl (F iq))))) : va_W) ++ []))) A) ([.ref h0, .int (nI kk), .int lane, .int x1, .int (nI nn)] : List Value).toArray s 0 0 A) (F0 m 110 ls []) := by
                  intro nf
                  induction nf with
                  | zero => intro j25 h1 h2; exact absurd h1 (by omega)
                  | succ nf ih110_27 =>
                    intro j25 hn28 hj29 g26 H locs hP hD hS ls hl
                    refine lv_iload hx hb dX10_read_110 (lv_at hl 0 rfl) ?_
                    refine lv_aload_n hx hb dX10_read_112 rfl (lv_at hl 1 rfl) ?_
                    refine va_get (D := (dC, dI)) (ci := 10) (v := .ref sh) (C := RX10) (T := TX10) (N := 14) hx hb hg inG10 hown hK.1 hP 0 rfl rfl 11 (by decide) (hg _ wt_313) (fun _ h9 => h9) rfl dX10_read_113 ?_
                    refine va_getN (D := (dC, dI)) (ci := 6) (v := .int (nI u16)) (C := RX6) (T := TX6) (N := 7) hx hb hg inG6 hown hK.1 hP 3 rfl rfl 4 (by decide) (hK.nest wn_282) (fun _ h9 => h9) rfl dX10_read_116 ?_
                    refine lv_icmp_ge (tgt := 156) hx hb dX10_read_119 (by decide) (fun c30 => ?_) (fun c30 => ?_)
                    · skip
                      have n31 : u16 ≤ j25 := by have t := leI c30; rw [nI_toInt (n := j25) (by omega)] at t; rw [nI_toInt (n := u16) (by omega)] at t; omega
                      refine lv_aload_n hx hb dX10_read_156 rfl (lv_at hl 1 rfl) ?_
                      refine lv_aload_n hx hb dX10_read_157 rfl (lv_at hl 1 rfl) ?_
                      refine va_get (D := (dC, dI)) (ci := 10) (v := .ref sh) (C := RX10) (T := TX10) (N := 14) hx hb hg inG10 hown hK.1 hP 0 rfl rfl 11 (by decide) (hg _ wt_313) (fun _ h9 => h9) rfl dX10_read_158 ?_
                      refine va_getN (D := (dC, dI)) (ci := 6) (v := .int u15) (C := RX6) (T := TX6) (N := 7) hx hb hg inG6 hown hK.1 hP 3 rfl rfl 3 (by decide) (hK.nest wn_280) (fun _ h9 => h9) rfl dX10_read_161 ?_
                      refine va_put (D := (dC, dI)) (ci := 10) (v := .int u15) (ty := .int) (C := RX10) (T := TX10) (N := 14) hx hb hg inG10 tyX10 tyX10_ok nmX10 hown hK.1 hP hD hS 0 rfl rfl 13 (by decide) (hg _ wt_315) (fun _ h9 => h9) rfl (by decide +kernel) rfl rfl (Nat.le_of_ble_eq_true rfl) dX10_read_164 (fun H locs hP hD hS => ?_)
                      have hP : va_P (dC, dI) vwCl (([(h0, .inr (10, [.ref rd, .ref wy, .ref tr, .ref im, .ref kp, .ref od, .ref ch, .ref cr, .ref le, .ref mk, .ref tl, .ref sh, .int tf, .int u15])), (wy, .inr (9, [.int (nI N), .int (nI B), .int (nI D), .ref a1, .ref a2, .ref a3, .ref a4, .ref a5, .ref a6])), (a3, .inl (G 0, 10, .inl g26)), (sh, .inr (6, [.ref la, .ref si, .ref ce, .int u15, .int (nI u16), .ref fi, .ref se])), (la, .inl (G 0, 4, .inl fl)), (si, .inl (G 0, 4, .inl fz)), (ce, .inl (G 4, 4, .inr (.inr (.inr (.inr (fun ir => if ir < 4 then some (rc ir) else none)))))), (fi, .inl (G 0, 20, .inl u17)), (se, .inl (G 0, 20, .inl u18))] : va_W) ++ ((((List.range 4).map (fun iq => (rc iq, .inl (G 0, 40, .inl (F iq))))) : va_W) ++ [])) H := hP
                      have hD : va_D A (([(h0, .inr (10, [.ref rd, .ref wy, .ref tr, .ref im, .ref kp, .ref od, .ref ch, .ref cr, .ref le, .ref mk, .ref tl, .ref sh, .int tf, .int u15])), (wy, .inr (9, [.int (nI N), .int (nI B), .int (nI D), .ref a1, .ref a2, .ref a3, .ref a4, .ref a5, .ref a6])), (a3, .inl (G 0, 10, .inl g26)), (sh, .inr (6, [.ref la, .ref si, .ref ce, .int u15, .int (nI u16), .ref fi, .ref se])), (la, .inl (G 0, 4, .inl fl)), (si, .inl (G 0, 4, .inl fz)), (ce, .inl (G 4, 4, .inr (.inr (.inr (.inr (fun ir => if ir < 4 then some (rc ir) else none)))))), (fi, .inl (G 0, 20, .inl u17)), (se, .inl (G 0, 20, .inl u18))] : va_W) ++ ((((List.range 4).map (fun iq => (rc iq, .inl (G 0, 40, .inl (F iq))))) : va_W) ++ [])) := hD
                      refine lv_aload_n hx hb dX10_read_167 rfl (lv_at hl 1 rfl) ?_
                      refine va_get (D := (dC, dI)) (ci := 10) (v := .ref sh) (C := RX10) (T := TX10) (N := 14) hx hb hg inG10 hown hK.1 hP 0 rfl rfl 11 (by decide) (hg _ wt_313) (fun _ h9 => h9) rfl dX10_read_168 ?_
                      refine va_getN (D := (dC, dI)) (ci := 6) (v := .int (nI u16)) (C := RX6) (T := TX6) (N := 7) hx hb hg inG6 hown hK.1 hP 3 rfl rfl 4 (by decide) (hK.nest wn_282) (fun _ h9 => h9) rfl dX10_read_171 ?_
                      have hpost : True := by
                        trivial
                      have hP9 := hP.sub (ws' := (([(h0, .inr (10, [.ref rd, .ref wy, .ref tr, .ref im, .ref kp, .ref od, .ref ch, .ref cr, .ref le, .ref mk, .ref tl, .ref sh, .int tf, .int u15])), (wy, .inr (9, [.int (nI N), .int (nI B), .int (nI D), .ref a1, .ref a2, .ref a3, .ref a4, .ref a5, .ref a6])), (a3, .inl (G 0, 10, .inl g26)), (sh, .inr (6, [.ref la, .ref si, .ref ce, .int u15, .int (nI u16), .ref fi, .ref se])), (la, .inl (G 0, 4, .inl fl)), (si, .inl (G 0, 4, .inl fz)), (ce, .inl (G 4, 4, .inr (.inr (.inr (.inr (fun ir => if ir < 4 then some (rc ir) else none)))))), (fi, .inl (G 0, 20, .inl u17)), (se, .inl (G 0, 20, .inl u18))] : va_W) ++ ((((List.range 4).map (fun iq => (rc iq, .inl (G 0, 40, .inl (F iq))))) : va_W) ++ []))) [0, 1, 2, 3, 4, 5, 6, 7, 8, 9, 10, 11, 12] rfl
                      have hD9 := hD.sub (ws' := (([(h0, .inr (10, [.ref rd, .ref wy, .ref tr, .ref im, .ref kp, .ref od, .ref ch, .ref cr, .ref le, .ref mk, .ref tl, .ref sh, .int tf, .int u15])), (wy, .inr (9, [.int (nI N), .int (nI B), .int (nI D), .ref a1, .ref a2, .ref a3, .ref a4, .ref a5, .ref a6])), (a3, .inl (G 0, 10, .inl g26)), (sh, .inr (6, [.ref la, .ref si, .ref ce, .int u15, .int (nI u16), .ref fi, .ref se])), (la, .inl (G 0, 4, .inl fl)), (si, .inl (G 0, 4, .inl fz)), (ce, .inl (G 4, 4, .inr (.inr (.inr (.inr (fun ir => if ir < 4 then some (rc ir) else none)))))), (fi, .inl (G 0, 20, .inl u17)), (se, .inl (G 0, 20, .inl u18))] : va_W) ++ ((((List.range 4).map (fun iq => (rc iq, .inl (G 0, 40, .inl (F iq))))) : va_W) ++ []))) [0, 1, 2, 3, 4, 5, 6, 7, 8, 9, 10, 11, 12] (by decide) rfl
                      refine W.widen (k := 0) (n := 0) (by omega) (by omega) ?_
                      exact W.iret (v := nI u16) hx hb hr (fun t ht hW => ⟨⟨nI u16, (u15, (nI u16), u17, u18, g26, u15), rfl, ⟨hpost, trivial⟩, ⟨by rw [ht]; exact hP9, hD9⟩⟩, hS.F ht⟩) hS.2.2 dX10_read_174
                    · skip
                      have n32 : j25 < u16 := by have t := nleI c30; rw [nI_toInt (n := j25) (by omega)] at t; rw [nI_toInt (n := u16) (by omega)] at t; omega
                      refine lv_aload_n hx hb dX10_read_122 rfl (lv_at hl 1 rfl) ?_
                      refine va_get (D := (dC, dI)) (ci := 10) (v := .ref wy) (C := RX10) (T := TX10) (N := 14) hx hb hg inG10 hown hK.1 hP 0 rfl rfl 1 (by decide) (hg _ wt_303) (fun _ h9 => h9) rfl dX10_read_123 ?_
                      refine va_getN (D := (dC, dI)) (ci := 9) (v := .ref a3) (C := RX9) (T := TX9) (N := 9) hx hb hg inG9 hown hK.1 hP 1 rfl rfl 5 (by decide) (hK.nest wn_78) (fun _ h9 => h9) rfl dX10_read_126 ?_
                      refine lv_aload_n hx hb dX10_read_129 rfl (lv_at hl 1 rfl) ?_
                      refine va_get (D := (dC, dI)) (ci := 10) (v := .ref sh) (C := RX10) (T := TX10) (N := 14) hx hb hg inG10 hown hK.1 hP 0 rfl rfl 11 (by decide) (hg _ wt_313) (fun _ h9 => h9) rfl dX10_read_130 ?_
                      refine va_getN (D := (dC, dI)) (ci := 6) (v := .ref fi) (C := RX6) (T := TX6) (N := 7) hx hb hg inG6 hown hK.1 hP 3 rfl rfl 5 (by decide) (hK.nest wn_284) (fun _ h9 => h9) rfl dX10_read_133 ?_
                      refine lv_iload hx hb dX10_read_136 (lv_at hl 0 rfl) ?_
                      refine va_iald hx hb hK.1 hP 7 0 rfl rfl (vp_in_nI (by have t_b5 := b5; have t_b10 := b10; have t_c11 := nltI c11; have t_c12 := leI c12; have t_hkk := hkk; have t_hnn := hnn; have t_hj22 := hj22; have t_n24 := n24; have t_hj29 := hj29; have t_n32 := n32; have : (0 : Int32).toInt = 0 := (by decide); have : (20 : Int32).toInt = 20 := (by decide); have t_n0 : (nI N).toInt = (N : Int) := nI_toInt (by omega); have t_n1 : (nI B).toInt = (B : Int) := nI_toInt (by omega); have t_n2 : (nI D).toInt = (D : Int) := nI_toInt (by omega); have t_n3 : (nI kk).toInt = (kk : Int) := nI_toInt (by omega); have t_n4 : (nI nn).toInt = (nn : Int) := nI_toInt (by omega); have t_n5 : (nI j19).toInt = (j19 : Int) := nI_toInt (by omega); have t_n6 : (nI j25).toInt = (j25 : Int) := nI_toInt (by omega); omega) (by decide)) dX10_read_138 ?_
                      refine lv_cg (y := u17 j25) (by rw [nI_clamp (by omega)]) ?_
                      refine lv_aload_n hx hb dX10_read_139 rfl (lv_at hl 1 rfl) ?_
                      refine va_get (D := (dC, dI)) (ci := 10) (v := .ref sh) (C := RX10) (T := TX10) (N := 14) hx hb hg inG10 hown hK.1 hP 0 rfl rfl 11 (by decide) (hg _ wt_313) (fun _ h9 => h9) rfl dX10_read_140 ?_
                      refine va_getN (D := (dC, dI)) (ci := 6) (v := .ref se) (C := RX6) (T := TX6) (N := 7) hx hb hg inG6 hown hK.1 hP 3 rfl rfl 6 (by decide) (hK.nest wn_286) (fun _ h9 => h9) rfl dX10_read_143 ?_
                      refine lv_iload hx hb dX10_read_146 (lv_at hl 0 rfl) ?_
                      refine va_iald hx hb hK.1 hP 8 0 rfl rfl (vp_in_nI (by have t_b5 := b5; have t_b10 := b10; have t_c11 := nltI c11; have t_c12 := leI c12; have t_hkk := hkk; have t_hnn := hnn; have t_hj22 := hj22; have t_n24 := n24; have t_hj29 := hj29; have t_n32 := n32; have : (0 : Int32).toInt = 0 := (by decide); have : (20 : Int32).toInt = 20 := (by decide); have t_n0 : (nI N).toInt = (N : Int) := nI_toInt (by omega); have t_n1 : (nI B).toInt = (B : Int) := nI_toInt (by omega); have t_n2 : (nI D).toInt = (D : Int) := nI_toInt (by omega); have t_n3 : (nI kk).toInt = (kk : Int) := nI_toInt (by omega); have t_n4 : (nI nn).toInt = (nn : Int) := nI_toInt (by omega); have t_n5 : (nI j19).toInt = (j19 : Int) := nI_toInt (by omega); have t_n6 : (nI j25).toInt = (j25 : Int) := nI_toInt (by omega); omega) (by decide)) dX10_read_148 ?_
                      refine lv_cg (y := u18 j25) (by rw [nI_clamp (by omega)]) ?_
                      have hq33 := hinv j25 (by omega)
                      refine va_iast hx hb hK.1 hP hD hS 2 0 rfl rfl (vp_in_iff.mpr (by have t_b5 := b5; have t_b10 := b10; have t_c11 := nltI c11; have t_c12 := leI c12; have t_hkk := hkk; have t_hnn := hnn; have t_hj22 := hj22; have t_n24 := n24; have t_hj29 := hj29; have t_n32 := n32; have t_hq33 := hq33; have : (0 : Int32).toInt = 0 := (by decide); have : (20 : Int32).toInt = 20 := (by decide); have t_n0 : (nI N).toInt = (N : Int) := nI_toInt (by omega); have t_n1 : (nI B).toInt = (B : Int) := nI_toInt (by omega); have t_n2 : (nI D).toInt = (D : Int) := nI_toInt (by omega); have t_n3 : (nI kk).toInt = (kk : Int) := nI_toInt (by omega); have t_n4 : (nI nn).toInt = (nn : Int) := nI_toInt (by omega); have t_n5 : (nI j19).toInt = (j19 : Int) := nI_toInt (by omega); have t_n6 : (nI j25).toInt = (j25 : Int) := nI_toInt (by omega); constructor <;> omega)) dX10_read_149 (fun H locs hP hD hS => ?_)
                      have hP : va_P (dC, dI) vwCl (([(h0, .inr (10, [.ref rd, .ref wy, .ref tr, .ref im, .ref kp, .ref od, .ref ch, .ref cr, .ref le, .ref mk, .ref tl, .ref sh, .int tf, .int rf])), (wy, .inr (9, [.int (nI N), .int (nI B), .int (nI D), .ref a1, .ref a2, .ref a3, .ref a4, .ref a5, .ref a6])), (a3, .inl (G 0, 10, .inl (upd g26 (u17 j25).toNatClampNeg (u18 j25)))), (sh, .inr (6, [.ref la, .ref si, .ref ce, .int u15, .int (nI u16), .ref fi, .ref se])), (la, .inl (G 0, 4, .inl fl)), (si, .inl (G 0, 4, .inl fz)), (ce, .inl (G 4, 4, .inr (.inr (.inr (.inr (fun ir => if ir < 4 then some (rc ir) else none)))))), (fi, .inl (G 0, 20, .inl u17)), (se, .inl (G 0, 20, .inl u18))] : va_W) ++ ((((List.range 4).map (fun iq => (rc iq, .inl (G 0, 40, .inl (F iq))))) : va_W) ++ [])) H := hP
                      have hD : va_D A (([(h0, .inr (10, [.ref rd, .ref wy, .ref tr, .ref im, .ref kp, .ref od, .ref ch, .ref cr, .ref le, .ref mk, .ref tl, .ref sh, .int tf, .int rf])), (wy, .inr (9, [.int (nI N), .int (nI B), .int (nI D), .ref a1, .ref a2, .ref a3, .ref a4, .ref a5, .ref a6])), (a3, .inl (G 0, 10, .inl (upd g26 (u17 j25).toNatClampNeg (u18 j25)))), (sh, .inr (6, [.ref la, .ref si, .ref ce, .int u15, .int (nI u16), .ref fi, .ref se])), (la, .inl (G 0, 4, .inl fl)), (si, .inl (G 0, 4, .inl fz)), (ce, .inl (G 4, 4, .inr (.inr (.inr (.inr (fun ir => if ir < 4 then some (rc ir) else none)))))), (fi, .inl (G 0, 20, .inl u17)), (se, .inl (G 0, 20, .inl u18))] : va_W) ++ ((((List.range 4).map (fun iq => (rc iq, .inl (G 0, 40, .inl (F iq))))) : va_W) ++ [])) := hD
                      refine lv_iinc (v := nI (j25 + 1)) (lv' := [(5, .int (nI (j25 + 1))), (0, .ref h0), (1, .int (nI kk)), (2, .int lane), (3, .int x1), (4, .int (nI nn))]) hx hb dX10_read_150 hl (k := 0) rfl (by rw [show Int32.ofInt 1 = nI 1 from by decide]; exact nI_add _ _) (by decide) rfl (fun ls hl => ?_)
                      refine lv_goto (tgt := 110) hx hb dX10_read_153 (by decide) ?_
                      exact ih110_27 (j25 + 1) (by omega) (by omega) (upd g26 (u17 j25).toNatClampNeg (u18 j25)) _ _ hP hD hS ls (lv_sub hl [0, 1, 2, 3, 4, 5] rfl)
                exact loop110_27 (u16 + 1) 0 (by omega) (by omega) f3 _ _ hP hD hS ls (lv_sub hl [0, 1, 2, 3, 4, 5] rfl)
              · skip
                have n34 : j19 < u16 := by have t := nleI c23; rw [nI_toInt (n := j19) (by omega)] at t; rw [nI_toInt (n := u16) (by omega)] at t; omega
                refine lv_aload_n hx hb dX10_read_55 rfl (lv_at hl 1 rfl) ?_
                refine va_get (D := (dC, dI)) (ci := 10) (v := .ref wy) (C := RX10) (T := TX10) (N := 14) hx hb hg inG10 hown hK.1 hP 0 rfl rfl 1 (by decide) (hg _ wt_303) (fun _ h9 => h9) rfl dX10_read_56 ?_
                refine lv_aload_n hx hb dX10_read_59 rfl (lv_at hl 1 rfl) ?_
                refine va_get (D := (dC, dI)) (ci := 10) (v := .ref sh) (C := RX10) (T := TX10) (N := 14) hx hb hg inG10 hown hK.1 hP 0 rfl rfl 11 (by decide) (hg _ wt_313) (fun _ h9 => h9) rfl dX10_read_60 ?_
                refine va_getN (D := (dC, dI)) (ci := 6) (v := .ref fi) (C := RX6) (T := TX6) (N := 7) hx hb hg inG6 hown hK.1 hP 3 rfl rfl 5 (by decide) (hK.nest wn_284) (fun _ h9 => h9) rfl dX10_read_63 ?_
                refine lv_iload hx hb dX10_read_66 (lv_at hl 0 rfl) ?_
                refine va_iald hx hb hK.1 hP 7 0 rfl rfl (vp_in_nI (by have t_b5 := b5; have t_b10 := b10; have t_c11 := nltI c11; have t_c12 := leI c12; have t_hkk := hkk; have t_hnn := hnn; have t_hj22 := hj22; have t_n34 := n34; have : (0 : Int32).toInt = 0 := (by decide); have : (20 : Int32).toInt = 20 := (by decide); have t_n0 : (nI N).toInt = (N : Int) := nI_toInt (by omega); have t_n1 : (nI B).toInt = (B : Int) := nI_toInt (by omega); have t_n2 : (nI D).toInt = (D : Int) := nI_toInt (by omega); have t_n3 : (nI kk).toInt = (kk : Int) := nI_toInt (by omega); have t_n4 : (nI nn).toInt = (nn : Int) := nI_toInt (by omega); have t_n5 : (nI j19).toInt = (j19 : Int) := nI_toInt (by omega); omega) (by decide)) dX10_read_68 ?_
                refine lv_cg (y := u17 j19) (by rw [nI_clamp (by omega)]) ?_
                have hPc := hP.sub (ws' := [(wy, .inr (9, [.int (nI N), .int (nI B), .int (nI D), .ref a1, .ref a2, .ref a3, .ref a4, .ref a5, .ref a6]))]) [1] rfl
                refine va_calli (va_runVN (As := [.int (u17 j19)]) (rest := []) ⟨hx, hb, hml, hown, hg⟩ (c_X9_hasStretch l dC dI G _ wy a1 a2 a3 a4 a5 a6 N B D (u17 j19) (by have t_b5 := b5; have t_b10 := b10; have t_c11 := nltI c11; have t_c12 := leI c12; have t_hkk := hkk; have t_hnn := hnn; have t_hj22 := hj22; have t_n34 := n34; have : (0 : Int32).toInt = 0 := (by decide); have : (20 : Int32).toInt = 20 := (by decide); have t_n0 : (nI N).toInt = (N : Int) := nI_toInt (by omega); have t_n1 : (nI B).toInt = (B : Int) := nI_toInt (by omega); have t_n2 : (nI D).toInt = (D : Int) := nI_toInt (by omega); have t_n3 : (nI kk).toInt = (kk : Int) := nI_toInt (by omega); have t_n4 : (nI nn).toInt = (nn : Int) := nI_toInt (by omega); have t_n5 : (nI j19).toInt = (j19 : Int) := nI_toInt (by omega); omega) (by have t_b5 := b5; have t_b10 := b10; have t_c11 := nltI c11; have t_c12 := leI c12; have t_hkk := hkk; have t_hnn := hnn; have t_hj22 := hj22; have t_n34 := n34; have : (0 : Int32).toInt = 0 := (by decide); have : (20 : Int32).toInt = 20 := (by decide); have t_n0 : (nI N).toInt = (N : Int) := nI_toInt (by omega); have t_n1 : (nI B).toInt = (B : Int) := nI_toInt (by omega); have t_n2 : (nI D).toInt = (D : Int) := nI_toInt (by omega); have t_n3 : (nI kk).toInt = (kk : Int) := nI_toInt (by omega); have t_n4 : (nI nn).toInt = (nn : Int) := nI_toInt (by omega); have t_n5 : (nI j19).toInt = (j19 : Int) := nI_toInt (by omega); omega) (by have t_b5 := b5; have t_b10 := b10; have t_c11 := nltI c11; have t_c12 := leI c12; have t_hkk := hkk; have t_hnn := hnn; have t_hj22 := hj22; have t_n34 := n34; have : (0 : Int32).toInt = 0 := (by decide); have : (20 : Int32).toInt = 20 := (by decide); have t_n0 : (nI N).toInt = (N : Int) := nI_toInt (by omega); have t_n1 : (nI B).toInt = (B : Int) := nI_toInt (by omega); have t_n2 : (nI D).toInt = (D : Int) := nI_toInt (by omega); have t_n3 : (nI kk).toInt = (kk : Int) := nI_toInt (by omega); have t_n4 : (nI nn).toInt = (nn : Int) := nI_toInt (by omega); have t_n5 : (nI j19).toInt = (j19 : Int) := nI_toInt (by omega); omega)) (kwVN hg hK mfX9_hasStretch wn_527 ⟨Nat.le_of_ble_eq_true rfl, Nat.le_of_ble_eq_true rfl⟩) (preVR hK hPc (ci := 9) rfl rfl) rfl rfl hl.1 rfl (lv_room (Nat.le_of_ble_eq_true rfl)) dX10_read_69 ⟨Nat.le_of_ble_eq_true rfl, Nat.le_of_ble_eq_true rfl⟩) hS (fun q h1 h2 => absurd h2 (Nat.not_le.mpr h1)) (fun q h => hA q (Nat.le_trans hS.1 h)) (fun r35 ur35 t H1 locs ht hvm w36 hB hz1 hk1 hS => ?_)
                have hP := keepR hP hk1
                obtain ⟨w36, w36x⟩ := w36
                try simp only [l_ii, show (0 : Int32).toInt = 0 from by decide] at w36
                try rw [nI_toInt (n := N) (by omega)] at w36
                subst w36
                refine lv_if_eq (tgt := 95) hx hb dX10_read_72 (by decide) (fun c37 => ?_) (fun c37 => ?_)
                · skip
                  have b38 := if10_n c37
                  refine lv_bipush (v := (-20)) hx hb dX10_read_95 (by decide) ?_
                  refine lv_iload hx hb dX10_read_97 (lv_at hl 0 rfl) ?_
                  refine lv_isub hx hb dX10_read_99 ?_
                  have hpost : True := by
                    trivial
                  have hP9 := hP.sub (ws' := (([(h0, .inr (10, [.ref rd, .ref wy, .ref tr, .ref im, .ref kp, .ref od, .ref ch, .ref cr, .ref le, .ref mk, .ref tl, .ref sh, .int tf, .int rf])), (wy, .inr (9, [.int (nI N), .int (nI B), .int (nI D), .ref a1, .ref a2, .ref a3, .ref a4, .ref a5, .ref a6])), (a3, .inl (G 0, 10, .inl f3)), (sh, .inr (6, [.ref la, .ref si, .ref ce, .int u15, .int (nI u16), .ref fi, .ref se])), (la, .inl (G 0, 4, .inl fl)), (si, .inl (G 0, 4, .inl fz)), (ce, .inl (G 4, 4, .inr (.inr (.inr (.inr (fun ir => if ir < 4 then some (rc ir) else none)))))), (fi, .inl (G 0, 20, .inl u17)), (se, .inl (G 0, 20, .inl u18))] : va_W) ++ ((((List.range 4).map (fun iq => (rc iq, .inl (G 0, 40, .inl (F iq))))) : va_W) ++ []))) [0, 1, 2, 3, 4, 5, 6, 7, 8, 9, 10, 11, 12] rfl
                  have hD9 := hD.sub (ws' := (([(h0, .inr (10, [.ref rd, .ref wy, .ref tr, .ref im, .ref kp, .ref od, .ref ch, .ref cr, .ref le, .ref mk, .ref tl, .ref sh, .int tf, .int rf])), (wy, .inr (9, [.int (nI N), .int (nI B), .int (nI D), .ref a1, .ref a2, .ref a3, .ref a4, .ref a5, .ref a6])), (a3, .inl (G 0, 10, .inl f3)), (sh, .inr (6, [.ref la, .ref si, .ref ce, .int u15, .int (nI u16), .ref fi, .ref se])), (la, .inl (G 0, 4, .inl fl)), (si, .inl (G 0, 4, .inl fz)), (ce, .inl (G 4, 4, .inr (.inr (.inr (.inr (fun ir => if ir < 4 then some (rc ir) else none)))))), (fi, .inl (G 0, 20, .inl u17)), (se, .inl (G 0, 20, .inl u18))] : va_W) ++ ((((List.range 4).map (fun iq => (rc iq, .inl (G 0, 40, .inl (F iq))))) : va_W) ++ []))) [0, 1, 2, 3, 4, 5, 6, 7, 8, 9, 10, 11, 12] (by decide) rfl
                  refine W.widen (k := 0) (n := 0) (by omega) (by omega) ?_
                  exact W.iret (v := (-20) - (nI j19)) hx hb hr (fun t ht hW => ⟨⟨(-20) - (nI j19), (u15, (nI u16), u17, u18, f3, rf), rfl, ⟨hpost, trivial⟩, ⟨by rw [ht]; exact hP9, hD9⟩⟩, hS.F ht⟩) hS.2.2 dX10_read_100
                · skip
                  have b39 := if10_p c37
                  refine lv_aload_n hx hb dX10_read_75 rfl (lv_at hl 1 rfl) ?_
                  refine va_get (D := (dC, dI)) (ci := 10) (v := .ref wy) (C := RX10) (T := TX10) (N := 14) hx hb hg inG10 hown hK.1 hP 0 rfl rfl 1 (by decide) (hg _ wt_303) (fun _ h9 => h9) rfl dX10_read_76 ?_
                  refine lv_aload_n hx hb dX10_read_79 rfl (lv_at hl 1 rfl) ?_
                  refine va_get (D := (dC, dI)) (ci := 10) (v := .ref sh) (C := RX10) (T := TX10) (N := 14) hx hb hg inG10 hown hK.1 hP 0 rfl rfl 11 (by decide) (hg _ wt_313) (fun _ h9 => h9) rfl dX10_read_80 ?_
                  refine va_getN (D := (dC, dI)) (ci := 6) (v := .ref se) (C := RX6) (T := TX6) (N := 7) hx hb hg inG6 hown hK.1 hP 3 rfl rfl 6 (by decide) (hK.nest wn_286) (fun _ h9 => h9) rfl dX10_read_83 ?_
                  refine lv_iload hx hb dX10_read_86 (lv_at hl 0 rfl) ?_
                  refine va_iald hx hb hK.1 hP 8 0 rfl rfl (vp_in_nI (by have t_b5 := b5; have t_b10 := b10; have t_c11 := nltI c11; have t_c12 := leI c12; have t_hkk := hkk; have t_hnn := hnn; have t_hj22 := hj22; have t_n34 := n34; have t_b39 := b39; have : (0 : Int32).toInt = 0 := (by decide); have : (20 : Int32).toInt = 20 := (by decide); have t_n0 : (nI N).toInt = (N : Int) := nI_toInt (by omega); have t_n1 : (nI B).toInt = (B : Int) := nI_toInt (by omega); have t_n2 : (nI D).toInt = (D : Int) := nI_toInt (by omega); have t_n3 : (nI kk).toInt = (kk : Int) := nI_toInt (by omega); have t_n4 : (nI nn).toInt = (nn : Int) := nI_toInt (by omega); have t_n5 : (nI j19).toInt = (j19 : Int) := nI_toInt (by omega); omega) (by decide)) dX10_read_88 ?_
                  refine lv_cg (y := u18 j19) (by rw [nI_clamp (by omega)]) ?_
                  have hPc := hP.sub (ws' := [(wy, .inr (9, [.int (nI N), .int (nI B), .int (nI D), .ref a1, .ref a2, .ref a3, .ref a4, .ref a5, .ref a6]))]) [1] rfl
                  refine va_calli (va_runVN (As := [.int (u18 j19)]) (rest := []) ⟨hx, hb, hml, hown, hg⟩ (c_X9_hasBearer l dC dI G _ wy a1 a2 a3 a4 a5 a6 N B D (u18 j19) (by have t_b5 := b5; have t_b10 := b10; have t_c11 := nltI c11; have t_c12 := leI c12; have t_hkk := hkk; have t_hnn := hnn; have t_hj22 := hj22; have t_n34 := n34; have t_b39 := b39; have : (0 : Int32).toInt = 0 := (by decide); have : (20 : Int32).toInt = 20 := (by decide); have t_n0 : (nI N).toInt = (N : Int) := nI_toInt (by omega); have t_n1 : (nI B).toInt = (B : Int) := nI_toInt (by omega); have t_n2 : (nI D).toInt = (D : Int) := nI_toInt (by omega); have t_n3 : (nI kk).toInt = (kk : Int) := nI_toInt (by omega); have t_n4 : (nI nn).toInt = (nn : Int) := nI_toInt (by omega); have t_n5 : (nI j19).toInt = (j19 : Int) := nI_toInt (by omega); omega) (by have t_b5 := b5; have t_b10 := b10; have t_c11 := nltI c11; have t_c12 := leI c12; have t_hkk := hkk; have t_hnn := hnn; have t_hj22 := hj22; have t_n34 := n34; have t_b39 := b39; have : (0 : Int32).toInt = 0 := (by decide); have : (20 : Int32).toInt = 20 := (by decide); have t_n0 : (nI N).toInt = (N : Int) := nI_toInt (by omega); have t_n1 : (nI B).toInt = (B : Int) := nI_toInt (by omega); have t_n2 : (nI D).toInt = (D : Int) := nI_toInt (by omega); have t_n3 : (nI kk).toInt = (kk : Int) := nI_toInt (by omega); have t_n4 : (nI nn).toInt = (nn : Int) := nI_toInt (by omega); have t_n5 : (nI j19).toInt = (j19 : Int) := nI_toInt (by omega); omega) (by have t_b5 := b5; have t_b10 := b10; have t_c11 := nltI c11; have t_c12 := leI c12; have t_hkk := hkk; have t_hnn := hnn; have t_hj22 := hj22; have t_n34 := n34; have t_b39 := b39; have : (0 : Int32).toInt = 0 := (by decide); have : (20 : Int32).toInt = 20 := (by decide); have t_n0 : (nI N).toInt = (N : Int) := nI_toInt (by omega); have t_n1 : (nI B).toInt = (B : Int) := nI_toInt (by omega); have t_n2 : (nI D).toInt = (D : Int) := nI_toInt (by omega); have t_n3 : (nI kk).toInt = (kk : Int) := nI_toInt (by omega); have t_n4 : (nI nn).toInt = (nn : Int) := nI_toInt (by omega); have t_n5 : (nI j19).toInt = (j19 : Int) := nI_toInt (by omega); omega)) (kwVN hg hK mfX9_hasBearer wn_535 ⟨Nat.le_of_ble_eq_true rfl, Nat.le_of_ble_eq_true rfl⟩) (preVR hK hPc (ci := 9) rfl rfl) rfl rfl hl.1 rfl (lv_room (Nat.le_of_ble_eq_true rfl)) dX10_read_89 ⟨Nat.le_of_ble_eq_true rfl, Nat.le_of_ble_eq_true rfl⟩) hS (fun q h1 h2 => absurd h2 (Nat.not_le.mpr h1)) (fun q h => hA q (Nat.le_trans hS.1 h)) (fun r40 ur40 t H1 locs ht hvm w41 hB hz1 hk1 hS => ?_)
                  have hP := keepR hP hk1
                  obtain ⟨w41, w41x⟩ := w41
                  try simp only [l_ii, show (0 : Int32).toInt = 0 from by decide] at w41
                  try rw [nI_toInt (n := B) (by omega)] at w41
                  subst w41
                  refine lv_if_ne (tgt := 101) hx hb dX10_read_92 (by decide) (fun c42 => ?_) (fun c42 => ?_)
                  · skip
                    have b43 := if10_p c42
                    refine lv_iinc (v := nI (j19 + 1)) (lv' := [(5, .int (nI (j19 + 1))), (0, .ref h0), (1, .int (nI kk)), (2, .int lane), (3, .int x1), (4, .int (nI nn))]) hx hb dX10_read_101 hl (k := 0) rfl (by rw [show Int32.ofInt 1 = nI 1 from by decide]; exact nI_add _ _) (by decide) rfl (fun ls hl => ?_)
                    refine lv_goto (tgt := 43) hx hb dX10_read_104 (by decide) ?_
                    exact ih43_20 (j19 + 1) (by omega) (by omega)  _ _ (fun q9 hq9 => by rcases Nat.lt_or_eq_of_le (Nat.le_of_lt_succ hq9) with h9 | h9; exact hinv q9 h9; rw [h9]; have t_b5 := b5; have t_b10 := b10; have t_c11 := nltI c11; have t_c12 := leI c12; have t_hkk := hkk; have t_hnn := hnn; have t_hj22 := hj22; have t_n34 := n34; have t_b39 := b39; have t_b43 := b43; have : (0 : Int32).toInt = 0 := (by decide); have : (20 : Int32).toInt = 20 := (by decide); have t_n0 : (nI N).toInt = (N : Int) := nI_toInt (by omega); have t_n1 : (nI B).toInt = (B : Int) := nI_toInt (by omega); have t_n2 : (nI D).toInt = (D : Int) := nI_toInt (by omega); have t_n3 : (nI kk).toInt = (kk : Int) := nI_toInt (by omega); have t_n4 : (nI nn).toInt = (nn : Int) := nI_toInt (by omega); have t_n5 : (nI j19).toInt = (j19 : Int) := nI_toInt (by omega); exact ⟨by omega, by omega⟩) hP hD hS ls (lv_sub hl [0, 1, 2, 3, 4, 5] rfl)
                  · skip
                    have b44 := if10_n c42
                    refine lv_bipush (v := (-20)) hx hb dX10_read_95 (by decide) ?_
                    refine lv_iload hx hb dX10_read_97 (lv_at hl 0 rfl) ?_
                    refine lv_isub hx hb dX10_read_99 ?_
                    have hpost : True := by
                      trivial
                    have hP9 := hP.sub (ws' := (([(h0, .inr (10, [.ref rd, .ref wy, .ref tr, .ref im, .ref kp, .ref od, .ref ch, .ref cr, .ref le, .ref mk, .ref tl, .ref sh, .int tf, .int rf])), (wy, .inr (9, [.int (nI N), .int (nI B), .int (nI D), .ref a1, .ref a2, .ref a3, .ref a4, .ref a5, .ref a6])), (a3, .inl (G 0, 10, .inl f3)), (sh, .inr (6, [.ref la, .ref si, .ref ce, .int u15, .int (nI u16), .ref fi, .ref se])), (la, .inl (G 0, 4, .inl fl)), (si, .inl (G 0, 4, .inl fz)), (ce, .inl (G 4, 4, .inr (.inr (.inr (.inr (fun ir => if ir < 4 then some (rc ir) else none)))))), (fi, .inl (G 0, 20, .inl u17)), (se, .inl (G 0, 20, .inl u18))] : va_W) ++ ((((List.range 4).map (fun iq => (rc iq, .inl (G 0, 40, .inl (F iq))))) : va_W) ++ []))) [0, 1, 2, 3, 4, 5, 6, 7, 8, 9, 10, 11, 12] rfl
                    have hD9 := hD.sub (ws' := (([(h0, .inr (10, [.ref rd, .ref wy, .ref tr, .ref im, .ref kp, .ref od, .ref ch, .ref cr, .ref le, .ref mk, .ref tl, .ref sh, .int tf, .int rf])), (wy, .inr (9, [.int (nI N), .int (nI B), .int (nI D), .ref a1, .ref a2, .ref a3, .ref a4, .ref a5, .ref a6])), (a3, .inl (G 0, 10, .inl f3)), (sh, .inr (6, [.ref la, .ref si, .ref ce, .int u15, .int (nI u16), .ref fi, .ref se])), (la, .inl (G 0, 4, .inl fl)), (si, .inl (G 0, 4, .inl fz)), (ce, .inl (G 4, 4, .inr (.inr (.inr (.inr (fun ir => if ir < 4 then some (rc ir) else none)))))), (fi, .inl (G 0, 20, .inl u17)), (se, .inl (G 0, 20, .inl u18))] : va_W) ++ ((((List.range 4).map (fun iq => (rc iq, .inl (G 0, 40, .inl (F iq))))) : va_W) ++ []))) [0, 1, 2, 3, 4, 5, 6, 7, 8, 9, 10, 11, 12] (by decide) rfl
                    refine W.widen (k := 0) (n := 0) (by omega) (by omega) ?_
                    exact W.iret (v := (-20) - (nI j19)) hx hb hr (fun t ht hW => ⟨⟨(-20) - (nI j19), (u15, (nI u16), u17, u18, f3, rf), rfl, ⟨hpost, trivial⟩, ⟨by rw [ht]; exact hP9, hD9⟩⟩, hS.F ht⟩) hS.2.2 dX10_read_100
          exact loop43_20 (u16 + 1) 0 (by omega) (by omega)  _ _ (fun q9 h9 => absurd h9 (by omega)) hP hD hS ls (lv_sub hl [0, 1, 2, 3, 4, 5] rfl)
        · skip
          refine lv_iconst (v := (-1)) hx hb dX10_read_26 (by decide) ?_
          have hpost : True := by
            trivial
          have hP9 := hP.sub (ws' := (([(h0, .inr (10, [.ref rd, .ref wy, .ref tr, .ref im, .ref kp, .ref od, .ref ch, .ref cr, .ref le, .ref mk, .ref tl, .ref sh, .int tf, .int rf])), (wy, .inr (9, [.int (nI N), .int (nI B), .int (nI D), .ref a1, .ref a2, .ref a3, .ref a4, .ref a5, .ref a6])), (a3, .inl (G 0, 10, .inl f3)), (sh, .inr (6, [.ref la, .ref si, .ref ce, .int x8, .int x9, .ref fi, .ref se])), (la, .inl (G 0, 4, .inl fl)), (si, .inl (G 0, 4, .inl fz)), (ce, .inl (G 4, 4, .inr (.inr (.inr (.inr (fun ir => if ir < 4 then some (rc ir) else none)))))), (fi, .inl (G 0, 20, .inl f1)), (se, .inl (G 0, 20, .inl f2))] : va_W) ++ ((((List.range 4).map (fun iq => (rc iq, .inl (G 0, 40, .inl (F iq))))) : va_W) ++ []))) [0, 1, 2, 3, 4, 5, 6, 7, 8, 9, 10, 11, 12] rfl
          have hD9 := hD.sub (ws' := (([(h0, .inr (10, [.ref rd, .ref wy, .ref tr, .ref im, .ref kp, .ref od, .ref ch, .ref cr, .ref le, .ref mk, .ref tl, .ref sh, .int tf, .int rf])), (wy, .inr (9, [.int (nI N), .int (nI B), .int (nI D), .ref a1, .ref a2, .ref a3, .ref a4, .ref a5, .ref a6])), (a3, .inl (G 0, 10, .inl f3)), (sh, .inr (6, [.ref la, .ref si, .ref ce, .int x8, .int x9, .ref fi, .ref se])), (la, .inl (G 0, 4, .inl fl)), (si, .inl (G 0, 4, .inl fz)), (ce, .inl (G 4, 4, .inr (.inr (.inr (.inr (fun ir => if ir < 4 then some (rc ir) else none)))))), (fi, .inl (G 0, 20, .inl f1)), (se, .inl (G 0, 20, .inl f2))] : va_W) ++ ((((List.range 4).map (fun iq => (rc iq, .inl (G 0, 40, .inl (F iq))))) : va_W) ++ []))) [0, 1, 2, 3, 4, 5, 6, 7, 8, 9, 10, 11, 12] (by decide) rfl
          refine W.widen (k := 0) (n := 0) (by omega) (by omega) ?_
          exact W.iret (v := (-1)) hx hb hr (fun t ht hW => ⟨⟨(-1), (x8, x9, f1, f2, f3, rf), rfl, ⟨hpost, trivial⟩, ⟨by rw [ht]; exact hP9, hD9⟩⟩, hS.F ht⟩) hS.2.2 dX10_read_27

set_option maxHeartbeats 1000000 in
set_option maxRecDepth 100000 in
theorem c_X10_count (l : Launch) (dC : Nat → ClassId) (dI : Nat → Nat → Nat) (G : Nat → ClassId) (sz : Nat) (h0 rd wy tr im kp od ch cr le mk tl sh l1 l2 l3 l4 m1 m2 S Sm tp td ta T a1 a2 a3 a4 a5 a6 N B D la si ce fi se : Nat) (tf rf what dr0 dr1 dr2 dr3 dr4 dr5 dr6 dr7 dr8 dr9 x8 x9 : Int32) (fk f3 fl fz : Nat → Int32) (hS0 : S ≤ 8) (hT : T ≤ 320) (hN_N : N ≤ 10) (hB_B : B ≤ 6) (hD_D : 1 ≤ D ∧ D ≤ 9) (hSm : Sm ≤ 6) : Met l yX10_count (Cond.code yX10_count cX10_count 2 (some .int) :: GT) ({ frames := 1, cells := 0, slots := 0, locals := 22 } : Room) (PcR [.ref h0, .int what] dC dI G [(h0, .inr (10, [.ref rd, .ref wy, .ref tr, .ref im, .ref kp, .ref od, .ref ch, .ref cr, .ref le, .ref mk, .ref tl, .ref sh, .int tf, .int rf])), (le, .inr (2, [.int (nI S), .ref l1, .ref l2, .ref l3, .ref l4])), (mk, .inr (3, [.int (nI Sm), .ref m1, .ref m2])), (kp, .inl (G 2, 2, .inl fk)), (rd, .inr (5, [.ref tp, .ref td, .int dr0, .int dr1, .int dr2, .int dr3, .int dr4, .int dr5, .int dr6, .int dr7, .int dr8, .int dr9])), (tp, .inr (7, [.int (nI T), .ref ta])), (wy, .inr (9, [.int (nI N), .int (nI B), .int (nI D), .ref a1, .ref a2, .ref a3, .ref a4, .ref a5, .ref a6])), (a3, .inl (G 0, 10, .inl f3)), (sh, .inr (6, [.ref la, .ref si, .ref ce, .int x8, .int x9, .ref fi, .ref se])), (la, .inl (G 0, 4, .inl fl)), (si, .inl (G 0, 4, .inl fz))] sz) (va_Qi (fun (r : Int32) (u : Unit) => match u with | _ => (True) ∧ True) (fun _ _ => True) (fun q : Nat => sz ≤ q)) 0 0 (fun q : Nat => sz ≤ q) := by
  refine Met.ofW (cc := cX10_count) (maxL := 2) (ret := (some .int)) (by decide) rfl ?_
  intro p e s m args below meth c s₁ Bd hml hv
  obtain ⟨rfl, hsz, hP, hK⟩ := hv
  have hx := Bd.exec
  have hb := Bd.bytes
  have hr := Bd.returns
  have hg : ∀ w ∈ GT, w.before ([.ref h0, .int what] : List Value).toArray s = true := fun w h => atoms_spec (ws := Cond.code yX10_count cX10_count 2 (some .int) :: GT) Bd.pre w (List.mem_cons_of_mem _ h)
  have hown : s.vm.findClass RX10 = some m.cls := findClass_of_methodNamed Bd.named
  have hlocks := Bd.notSynchronized
  subst hsz
  have hA : ∀ q : Nat, s.heap.size ≤ q → (fun q : Nat => s.heap.size ≤ q) q := fun _ h => h
  have hS : va_S (fun q : Nat => s.heap.size ≤ q) s.heap s.heap [] := va_S.rf
  have hl := lv_entry ([.ref h0, .int what]) (n := 2) (Nat.le_of_ble_eq_true rfl)
  rw [lg_entry_eq]
  generalize (lg_sl ([.ref h0, .int what]) ++ List.replicate (2 - (lg_sl ([.ref h0, .int what])).length) Slot.unset).toArray = ls at hl ⊢
  have hl : lv_has ls 2 [(0, .ref h0), (1, .int what)] := hl
  refine lv_iload_n hx hb dX10_count_0 rfl (lv_at hl 1 rfl) ?_
  by_cases c1 : what = 0
  · skip
    refine lv_cg c1 ?_
    refine lv_tableIn (tgt := 40) hx hb dX10_count_1 (by decide) (by decide) rfl (by decide) ?_
    refine lv_aload_n hx hb dX10_count_40 rfl (lv_at hl 0 rfl) ?_
    refine va_get (D := (dC, dI)) (ci := 10) (v := .ref le) (C := RX10) (T := TX10) (N := 14) hx hb hg inG10 hown hK.1 hP 0 rfl rfl 8 (by decide) (hg _ wt_310) (fun _ h9 => h9) rfl dX10_count_41 ?_
    refine va_getN (D := (dC, dI)) (ci := 2) (v := .int (nI S)) (C := RX2) (T := TX2) (N := 5) hx hb hg inG2 hown hK.1 hP 1 rfl rfl 0 (by decide) (hK.nest wn_218) (fun _ h9 => h9) rfl dX10_count_44 ?_
    have hpost : True := by
      trivial
    refine W.widen (k := 0) (n := 0) (by omega) (by omega) ?_
    exact W.iret (v := nI S) hx hb hr (fun t ht hW => ⟨⟨nI S, (), rfl, ⟨hpost, trivial⟩, trivial⟩, hS.F ht⟩) hS.2.2 dX10_count_47
  · skip
    by_cases c2 : what = 1
    · skip
      refine lv_cg c2 ?_
      refine lv_tableIn (tgt := 48) hx hb dX10_count_1 (by decide) (by decide) rfl (by decide) ?_
      refine lv_aload_n hx hb dX10_count_48 rfl (lv_at hl 0 rfl) ?_
      refine va_get (D := (dC, dI)) (ci := 10) (v := .ref mk) (C := RX10) (T := TX10) (N := 14) hx hb hg inG10 hown hK.1 hP 0 rfl rfl 9 (by decide) (hg _ wt_311) (fun _ h9 => h9) rfl dX10_count_49 ?_
      refine va_getN (D := (dC, dI)) (ci := 3) (v := .int (nI Sm)) (C := RX3) (T := TX3) (N := 3) hx hb hg inG3 hown hK.1 hP 2 rfl rfl 0 (by decide) (hK.nest wn_241) (fun _ h9 => h9) rfl dX10_count_52 ?_
      have hpost : True := by
        trivial
      refine W.widen (k := 0) (n := 0) (by omega) (by omega) ?_
      exact W.iret (v := nI Sm) hx hb hr (fun t ht hW => ⟨⟨nI Sm, (), rfl, ⟨hpost, trivial⟩, trivial⟩, hS.F ht⟩) hS.2.2 dX10_count_55
    · skip
      by_cases c3 : what = 2
      · skip
        refine lv_cg c3 ?_
        refine lv_tableIn (tgt := 56) hx hb dX10_count_1 (by decide) (by decide) rfl (by decide) ?_
        refine lv_aload_n hx hb dX10_count_56 rfl (lv_at hl 0 rfl) ?_
        refine va_get (D := (dC, dI)) (ci := 10) (v := .ref kp) (C := RX10) (T := TX10) (N := 14) hx hb hg inG10 hown hK.1 hP 0 rfl rfl 4 (by decide) (hg _ wt_306) (fun _ h9 => h9) rfl dX10_count_57 ?_
        refine lv_iconst (v := 0) hx hb dX10_count_60 (by decide) ?_
        refine va_zald hx hb hK.1 hP 3 2 rfl rfl (vp_in_iff.mpr ⟨by decide, by decide⟩) dX10_count_61 ?_
        refine lv_cg (y := fk 0) (by rfl) ?_
        refine lv_if_eq (tgt := 69) hx hb dX10_count_62 (by decide) (fun c4 => ?_) (fun c4 => ?_)
        · skip
          refine lv_iconst (v := 0) hx hb dX10_count_69 (by decide) ?_
          refine lv_aload_n hx hb dX10_count_70 rfl (lv_at hl 0 rfl) ?_
          refine va_get (D := (dC, dI)) (ci := 10) (v := .ref kp) (C := RX10) (T := TX10) (N := 14) hx hb hg inG10 hown hK.1 hP 0 rfl rfl 4 (by decide) (hg _ wt_306) (fun _ h9 => h9) rfl dX10_count_71 ?_
          refine lv_iconst (v := 1) hx hb dX10_count_74 (by decide) ?_
          refine va_zald hx hb hK.1 hP 3 2 rfl rfl (vp_in_iff.mpr ⟨by decide, by decide⟩) dX10_count_75 ?_
          refine lv_cg (y := fk 1) (by rfl) ?_
          refine lv_if_eq (tgt := 83) hx hb dX10_count_76 (by decide) (fun c5 => ?_) (fun c5 => ?_)
          · skip
            refine lv_iconst (v := 0) hx hb dX10_count_83 (by decide) ?_
            refine lv_iadd hx hb dX10_count_84 ?_
            refine lv_cg (y := 0) (by decide) ?_
            have hpost : True := by
              trivial
            refine W.widen (k := 0) (n := 0) (by omega) (by omega) ?_
            exact W.iret (v := 0) hx hb hr (fun t ht hW => ⟨⟨0, (), rfl, ⟨hpost, trivial⟩, trivial⟩, hS.F ht⟩) hS.2.2 dX10_count_85
          · skip
            refine lv_iconst (v := 1) hx hb dX10_count_79 (by decide) ?_
            refine lv_goto (tgt := 84) hx hb dX10_count_80 (by decide) ?_
            refine lv_iadd hx hb dX10_count_84 ?_
            refine lv_cg (y := 1) (by decide) ?_
            have hpost : True := by
              trivial
            refine W.widen (k := 0) (n := 0) (by omega) (by omega) ?_
            exact W.iret (v := 1) hx hb hr (fun t ht hW => ⟨⟨1, (), rfl, ⟨hpost, trivial⟩, trivial⟩, hS.F ht⟩) hS.2.2 dX10_count_85
        · skip
          refine lv_iconst (v := 1) hx hb dX10_count_65 (by decide) ?_
          refine lv_goto (tgt := 70) hx hb dX10_count_66 (by decide) ?_
          refine lv_aload_n hx hb dX10_count_70 rfl (lv_at hl 0 rfl) ?_
          refine va_get (D := (dC, dI)) (ci := 10) (v := .ref kp) (C := RX10) (T := TX10) (N := 14) hx hb hg inG10 hown hK.1 hP 0 rfl rfl 4 (by decide) (hg _ wt_306) (fun _ h9 => h9) rfl dX10_count_71 ?_
          refine lv_iconst (v := 1) hx hb dX10_count_74 (by decide) ?_
          refine va_zald hx hb hK.1 hP 3 2 rfl rfl (vp_in_iff.mpr ⟨by decide, by decide⟩) dX10_count_75 ?_
          refine lv_cg (y := fk 1) (by rfl) ?_
          refine lv_if_eq (tgt := 83) hx hb dX10_count_76 (by decide) (fun c6 => ?_) (fun c6 => ?_)
          · skip
            refine lv_iconst (v := 0) hx hb dX10_count_83 (by decide) ?_
            refine lv_iadd hx hb dX10_count_84 ?_
            refine lv_cg (y := 1) (by decide) ?_
            have hpost : True := by
              trivial
            refine W.widen (k := 0) (n := 0) (by omega) (by omega) ?_
            exact W.iret (v := 1) hx hb hr (fun t ht hW => ⟨⟨1, (), rfl, ⟨hpost, trivial⟩, trivial⟩, hS.F ht⟩) hS.2.2 dX10_count_85
          · skip
            refine lv_iconst (v := 1) hx hb dX10_count_79 (by decide) ?_
            refine lv_goto (tgt := 84) hx hb dX10_count_80 (by decide) ?_
            refine lv_iadd hx hb dX10_count_84 ?_
            refine lv_cg (y := 2) (by decide) ?_
            have hpost : True := by
              trivial
            refine W.widen (k := 0) (n := 0) (by omega) (by omega) ?_
            exact W.iret (v := 2) hx hb hr (fun t ht hW => ⟨⟨2, (), rfl, ⟨hpost, trivial⟩, trivial⟩, hS.F ht⟩) hS.2.2 dX10_count_85
      · skip
        by_cases c7 : what = 3
        · skip
          refine lv_cg c7 ?_
          refine lv_tableIn (tgt := 86) hx hb dX10_count_1 (by decide) (by decide) rfl (by decide) ?_
          refine lv_aload_n hx hb dX10_count_86 rfl (lv_at hl 0 rfl) ?_
          refine va_get (D := (dC, dI)) (ci := 10) (v := .ref rd) (C := RX10) (T := TX10) (N := 14) hx hb hg inG10 hown hK.1 hP 0 rfl rfl 0 (by decide) (hg _ wt_302) (fun _ h9 => h9) rfl dX10_count_87 ?_
          refine va_getN (D := (dC, dI)) (ci := 5) (v := .ref tp) (C := RX5) (T := TX5) (N := 12) hx hb hg inG5 hown hK.1 hP 4 rfl rfl 0 (by decide) (hK.nest wn_106) (fun _ h9 => h9) rfl dX10_count_90 ?_
          refine va_getN (D := (dC, dI)) (ci := 7) (v := .int (nI T)) (C := RX7) (T := TX7) (N := 2) hx hb hg inG7 hown hK.1 hP 5 rfl rfl 0 (by decide) (hK.nest wn_42) (fun _ h9 => h9) rfl dX10_count_93 ?_
          have hpost : True := by
            trivial
          refine W.widen (k := 0) (n := 0) (by omega) (by omega) ?_
          exact W.iret (v := nI T) hx hb hr (fun t ht hW => ⟨⟨nI T, (), rfl, ⟨hpost, trivial⟩, trivial⟩, hS.F ht⟩) hS.2.2 dX10_count_96
        · skip
          by_cases c8 : what = 4
          · skip
            refine lv_cg c8 ?_
            refine lv_tableIn (tgt := 97) hx hb dX10_count_1 (by decide) (by decide) rfl (by decide) ?_
            refine lv_aload_n hx hb dX10_count_97 rfl (lv_at hl 0 rfl) ?_
            refine va_get (D := (dC, dI)) (ci := 10) (v := .ref sh) (C := RX10) (T := TX10) (N := 14) hx hb hg inG10 hown hK.1 hP 0 rfl rfl 11 (by decide) (hg _ wt_313) (fun _ h9 => h9) rfl dX10_count_98 ?_
            refine lv_iconst (v := 0) hx hb dX10_count_101 (by decide) ?_
            have hPc := hP.sub (ws' := [(sh, .inr (6, [.ref la, .ref si, .ref ce, .int x8, .int x9, .ref fi, .ref se])), (la, .inl (G 0, 4, .inl fl)), (si, .inl (G 0, 4, .inl fz))]) [8, 9, 10] rfl
            refine va_calli (va_runVN (As := [.int 0]) (rest := []) ⟨hx, hb, hml, hown, hg⟩ (c_X6_sizeOf l dC dI G _ sh la si ce fi se 0 x8 x9 fl fz (by have t_c1 := neI c1; have t_c2 := neI c2; have t_c3 := neI c3; have t_c7 := neI c7; have t_c8 := eqI c8; have : (0 : Int32).toInt = 0 := (by decide); have : (1 : Int32).toInt = 1 := (by decide); have : (2 : Int32).toInt = 2 := (by decide); have : (3 : Int32).toInt = 3 := (by decide); have : (4 : Int32).toInt = 4 := (by decide); have t_n0 : (nI S).toInt = (S : Int) := nI_toInt (by omega); have t_n1 : (nI Sm).toInt = (Sm : Int) := nI_toInt (by omega); have t_n2 : (nI T).toInt = (T : Int) := nI_toInt (by omega); have t_n3 : (nI N).toInt = (N : Int) := nI_toInt (by omega); have t_n4 : (nI B).toInt = (B : Int) := nI_toInt (by omega); have t_n5 : (nI D).toInt = (D : Int) := nI_toInt (by omega); have : (0 : Int32).toInt = 0 := (by decide); omega)) (kwVN hg hK mfX6_sizeOf wn_864 ⟨Nat.le_of_ble_eq_true rfl, Nat.le_of_ble_eq_true rfl⟩) (preVR hK hPc (ci := 6) rfl rfl) rfl rfl hl.1 rfl (lv_room (Nat.le_of_ble_eq_true rfl)) dX10_count_102 ⟨Nat.le_of_ble_eq_true rfl, Nat.le_of_ble_eq_true rfl⟩) hS (fun q h1 h2 => absurd h2 (Nat.not_le.mpr h1)) (fun q h => hA q (Nat.le_trans hS.1 h)) (fun r9 ur9 t H1 locs ht hvm w10 hB hz1 hk1 hS => ?_)
            have hP := keepR hP hk1
            obtain ⟨w10, w10x⟩ := w10
            have hpost : True := by
              trivial
            refine W.widen (k := 0) (n := 0) (by omega) (by omega) ?_
            exact W.iret (v := r9) hx hb hr (fun t ht hW => ⟨⟨r9, (), rfl, ⟨hpost, trivial⟩, trivial⟩, hS.F ht⟩) hS.2.2 dX10_count_105
          · skip
            by_cases c11 : what = 5
            · skip
              refine lv_cg c11 ?_
              refine lv_tableIn (tgt := 106) hx hb dX10_count_1 (by decide) (by decide) rfl (by decide) ?_
              refine lv_aload_n hx hb dX10_count_106 rfl (lv_at hl 0 rfl) ?_
              refine va_get (D := (dC, dI)) (ci := 10) (v := .ref wy) (C := RX10) (T := TX10) (N := 14) hx hb hg inG10 hown hK.1 hP 0 rfl rfl 1 (by decide) (hg _ wt_303) (fun _ h9 => h9) rfl dX10_count_107 ?_
              have hPc := hP.sub (ws' := [(wy, .inr (9, [.int (nI N), .int (nI B), .int (nI D), .ref a1, .ref a2, .ref a3, .ref a4, .ref a5, .ref a6])), (a3, .inl (G 0, 10, .inl f3))]) [6, 7] rfl
              refine va_calli (va_runVN (As := []) (rest := []) ⟨hx, hb, hml, hown, hg⟩ (c_X9_handOvers l dC dI G _ wy a1 a2 a3 a4 a5 a6 N B D f3 (by have t_c1 := neI c1; have t_c2 := neI c2; have t_c3 := neI c3; have t_c7 := neI c7; have t_c8 := neI c8; have t_c11 := eqI c11; have : (0 : Int32).toInt = 0 := (by decide); have : (1 : Int32).toInt = 1 := (by decide); have : (2 : Int32).toInt = 2 := (by decide); have : (3 : Int32).toInt = 3 := (by decide); have : (4 : Int32).toInt = 4 := (by decide); have : (5 : Int32).toInt = 5 := (by decide); have t_n0 : (nI S).toInt = (S : Int) := nI_toInt (by omega); have t_n1 : (nI Sm).toInt = (Sm : Int) := nI_toInt (by omega); have t_n2 : (nI T).toInt = (T : Int) := nI_toInt (by omega); have t_n3 : (nI N).toInt = (N : Int) := nI_toInt (by omega); have t_n4 : (nI B).toInt = (B : Int) := nI_toInt (by omega); have t_n5 : (nI D).toInt = (D : Int) := nI_toInt (by omega); omega) (by have t_c1 := neI c1; have t_c2 := neI c2; have t_c3 := neI c3; have t_c7 := neI c7; have t_c8 := neI c8; have t_c11 := eqI c11; have : (0 : Int32).toInt = 0 := (by decide); have : (1 : Int32).toInt = 1 := (by decide); have : (2 : Int32).toInt = 2 := (by decide); have : (3 : Int32).toInt = 3 := (by decide); have : (4 : Int32).toInt = 4 := (by decide); have : (5 : Int32).toInt = 5 := (by decide); have t_n0 : (nI S).toInt = (S : Int) := nI_toInt (by omega); have t_n1 : (nI Sm).toInt = (Sm : Int) := nI_toInt (by omega); have t_n2 : (nI T).toInt = (T : Int) := nI_toInt (by omega); have t_n3 : (nI N).toInt = (N : Int) := nI_toInt (by omega); have t_n4 : (nI B).toInt = (B : Int) := nI_toInt (by omega); have t_n5 : (nI D).toInt = (D : Int) := nI_toInt (by omega); omega) (by have t_c1 := neI c1; have t_c2 := neI c2; have t_c3 := neI c3; have t_c7 := neI c7; have t_c8 := neI c8; have t_c11 := eqI c11; have : (0 : Int32).toInt = 0 := (by decide); have : (1 : Int32).toInt = 1 := (by decide); have : (2 : Int32).toInt = 2 := (by decide); have : (3 : Int32).toInt = 3 := (by decide); have : (4 : Int32).toInt = 4 := (by decide); have : (5 : Int32).toInt = 5 := (by decide); have t_n0 : (nI S).toInt = (S : Int) := nI_toInt (by omega); have t_n1 : (nI Sm).toInt = (Sm : Int) := nI_toInt (by omega); have t_n2 : (nI T).toInt = (T : Int) := nI_toInt (by omega); have t_n3 : (nI N).toInt = (N : Int) := nI_toInt (by omega); have t_n4 : (nI B).toInt = (B : Int) := nI_toInt (by omega); have t_n5 : (nI D).toInt = (D : Int) := nI_toInt (by omega); omega)) (kwVN hg hK mfX9_handOvers wn_868 ⟨Nat.le_of_ble_eq_true rfl, Nat.le_of_ble_eq_true rfl⟩) (preVR hK hPc (ci := 9) rfl rfl) rfl rfl hl.1 rfl (lv_room (Nat.le_of_ble_eq_true rfl)) dX10_count_110 ⟨Nat.le_of_ble_eq_true rfl, Nat.le_of_ble_eq_true rfl⟩) hS (fun q h1 h2 => absurd h2 (Nat.not_le.mpr h1)) (fun q h => hA q (Nat.le_trans hS.1 h)) (fun r12 ur12 t H1 locs ht hvm w13 hB hz1 hk1 hS => ?_)
              have hP := keepR hP hk1
              obtain ⟨w13, w13x⟩ := w13
              have hpost : True := by
                trivial
              refine W.widen (k := 0) (n := 0) (by omega) (by omega) ?_
              exact W.iret (v := r12) hx hb hr (fun t ht hW => ⟨⟨r12, (), rfl, ⟨hpost, trivial⟩, trivial⟩, hS.F ht⟩) hS.2.2 dX10_count_113
            · skip
              refine lv_tableOut (tgt := 114) hx hb dX10_count_1 (by have t_c1 := neI c1; have t_c2 := neI c2; have t_c3 := neI c3; have t_c7 := neI c7; have t_c8 := neI c8; have t_c11 := neI c11; have : (0 : Int32).toInt = 0 := (by decide); have : (1 : Int32).toInt = 1 := (by decide); have : (2 : Int32).toInt = 2 := (by decide); have : (3 : Int32).toInt = 3 := (by decide); have : (4 : Int32).toInt = 4 := (by decide); have : (5 : Int32).toInt = 5 := (by decide); have t_n0 : (nI S).toInt = (S : Int) := nI_toInt (by omega); have t_n1 : (nI Sm).toInt = (Sm : Int) := nI_toInt (by omega); have t_n2 : (nI T).toInt = (T : Int) := nI_toInt (by omega); have t_n3 : (nI N).toInt = (N : Int) := nI_toInt (by omega); have t_n4 : (nI B).toInt = (B : Int) := nI_toInt (by omega); have t_n5 : (nI D).toInt = (D : Int) := nI_toInt (by omega); omega) (by decide) ?_
              refine lv_iconst (v := (-1)) hx hb dX10_count_114 (by decide) ?_
              have hpost : True := by
                trivial
              refine W.widen (k := 0) (n := 0) (by omega) (by omega) ?_
              exact W.iret (v := (-1)) hx hb hr (fun t ht hW => ⟨⟨(-1), (), rfl, ⟨hpost, trivial⟩, trivial⟩, hS.F ht⟩) hS.2.2 dX10_count_115

set_option maxHeartbeats 1000000 in
set_option maxRecDepth 100000 in
theorem c_J0_coder_7d493 (l : Launch) (dC : Nat → ClassId) (dI : Nat → Nat → Nat) (G : Nat → ClassId) (sz : Nat) (i : Nat) (adK adV : Nat → Nat) (hi : i < 10) : Met l yJ0_coder_7d493 (Cond.code yJ0_coder_7d493 cJ0_coder_7d493 1 (some .byte) :: GT) ({ frames := 0, cells := 0, slots := 0, locals := 0 } : Room) (PcRS [.ref (adK i)] dC dI G [] adK adV sz) (va_Qi (fun (r : Int32) (u : Unit) => match u with | _ => (r = 0) ∧ True) (fun _ _ => True) (fun q : Nat => sz ≤ q)) 0 0 (fun q : Nat => sz ≤ q) := by
  refine va_MetF (cc := cJ0_coder_7d493) (maxL := 1) (ret := (some .byte)) (by decide +kernel) rfl ?_
  intro p e s m args below meth c s₁ Bd hml hv
  obtain ⟨rfl, hsz, hP, hK, hSS⟩ := hv
  have hx := Bd.exec
  have hb := Bd.bytes
  have hr := Bd.returns
  have hg : ∀ w ∈ GT, w.before ([.ref (adK i)] : List Value).toArray s = true := fun w h => atoms_spec (ws := Cond.code yJ0_coder_7d493 cJ0_coder_7d493 1 (some .byte) :: GT) Bd.pre w (List.mem_cons_of_mem _ h)
  have hown : s.vm.findClass RJ0 = some m.cls := findClass_of_methodNamed Bd.named
  have hlocks := Bd.notSynchronized
  subst hsz
  have hA : ∀ q : Nat, s.heap.size ≤ q → (fun q : Nat => s.heap.size ≤ q) q := fun _ h => h
  have hS : va_S (fun q : Nat => s.heap.size ≤ q) s.heap s.heap [] := va_S.rf
  have hl := lv_entry ([.ref (adK i)]) (n := 1) (Nat.le_of_ble_eq_true rfl)
  rw [lg_entry_eq]
  generalize (lg_sl ([.ref (adK i)]) ++ List.replicate (1 - (lg_sl ([.ref (adK i)])).length) Slot.unset).toArray = ls at hl ⊢
  have hl : lv_has ls 1 [(0, .ref (adK i))] := hl
  refine va_gets hx hb hSS.2.2.1 hS hown (hg _ wt_411) (fun _ h9 => h9) dJ0_coder_7d493_0 ?_
  refine lv_if_eq (tgt := 13) hx hb dJ0_coder_7d493_3 (by decide) (fun c1 => ?_) (fun c1 => ?_)
  · skip
    exact absurd c1 (by decide)
  · skip
    refine lv_aload_n hx hb dJ0_coder_7d493_6 rfl (lv_at hl 0 rfl) ?_
    refine va_getS hx hb (hSS.1.1 i (by omega)).2.1 hS hown (hg _ wt_1278) (fun _ h9 => h9) dJ0_coder_7d493_7 ?_
    refine lv_goto (tgt := 14) hx hb dJ0_coder_7d493_10 (by decide) ?_
    have hpost : (0 : Int32) = 0 := by
      have t_c1 := neI c1
      have : (0 : Int32).toInt = 0 := (by decide)
      have : (1 : Int32).toInt = 1 := (by decide)
      first | rfl | ((repeat' split) <;> first | rfl | omega)
    refine W.widen (k := 0) (n := 0) (by omega) (by omega) ?_
    exact W.zret (v := 0) hx hb hr (by first | rfl | decide | exact rfl) (fun t ht hW => ⟨⟨0, (), rfl, ⟨hpost, trivial⟩, trivial⟩, hS.F ht⟩) hS.2.2 dJ0_coder_7d493_14

set_option maxHeartbeats 1000000 in
set_option maxRecDepth 100000 in
theorem c_J0_length_8abf5 (l : Launch) (dC : Nat → ClassId) (dI : Nat → Nat → Nat) (G : Nat → ClassId) (sz : Nat) (i : Nat) (adK adV : Nat → Nat) (hi : i < 10) : Met l yJ0_length_8abf5 (Cond.code yJ0_length_8abf5 cJ0_length_8abf5 1 (some .int) :: GT) ({ frames := 1, cells := 0, slots := 0, locals := 20 } : Room) (PcRS [.ref (adK i)] dC dI G [] adK adV sz) (va_Qi (fun (r : Int32) (u : Unit) => match u with | _ => (r = nI (strLen.getD i 0)) ∧ True) (fun _ _ => True) (fun q : Nat => sz ≤ q)) 0 0 (fun q : Nat => sz ≤ q) := by
  refine va_MetF (cc := cJ0_length_8abf5) (maxL := 1) (ret := (some .int)) (by decide +kernel) rfl ?_
  intro p e s m args below meth c s₁ Bd hml hv
  obtain ⟨rfl, hsz, hP, hK, hSS⟩ := hv
  have hx := Bd.exec
  have hb := Bd.bytes
  have hr := Bd.returns
  have hg : ∀ w ∈ GT, w.before ([.ref (adK i)] : List Value).toArray s = true := fun w h => atoms_spec (ws := Cond.code yJ0_length_8abf5 cJ0_length_8abf5 1 (some .int) :: GT) Bd.pre w (List.mem_cons_of_mem _ h)
  have hown : s.vm.findClass RJ0 = some m.cls := findClass_of_methodNamed Bd.named
  have hlocks := Bd.notSynchronized
  subst hsz
  have hA : ∀ q : Nat, s.heap.size ≤ q → (fun q : Nat => s.heap.size ≤ q) q := fun _ h => h
  have hS : va_S (fun q : Nat => s.heap.size ≤ q) s.heap s.heap [] := va_S.rf
  have hl := lv_entry ([.ref (adK i)]) (n := 1) (Nat.le_of_ble_eq_true rfl)
  rw [lg_entry_eq]
  generalize (lg_sl ([.ref (adK i)]) ++ List.replicate (1 - (lg_sl ([.ref (adK i)])).length) Slot.unset).toArray = ls at hl ⊢
  have hl : lv_has ls 1 [(0, .ref (adK i))] := hl
  have hL := strLen_le i
  refine lv_aload_n hx hb dJ0_length_8abf5_0 rfl (lv_at hl 0 rfl) ?_
  refine va_getS hx hb (hSS.1.1 i (by omega)).2.2.1 hS hown (hg _ wt_1277) (fun _ h9 => h9) dJ0_length_8abf5_1 ?_
  refine va_tlen (v := nI (strLen.getD i 0)) hx hb (hSS.1.1 i (by omega)).2.2.2 hS rfl dJ0_length_8abf5_4 ?_
  refine lv_aload_n hx hb dJ0_length_8abf5_5 rfl (lv_at hl 0 rfl) ?_
  have hPc := hP.sub (ws' := []) [] rfl
  refine va_calli (va_runV (As := []) (rest := [.int (nI (strLen.getD i 0))]) ⟨hx, hb, hml, hown, hg⟩ (c_J0_coder_7d493 l dC dI G _ i adK adV (by omega)) (kwV hg mfJ0_coder_7d493 wt_407 ⟨Nat.le_of_ble_eq_true rfl, Nat.le_of_ble_eq_true rfl⟩) (preVX hK hPc (i := i) (by omega) hSS hS (fun q h => hA q (Nat.le_trans hS.1 h))) rfl rfl hl.1 rfl (lv_room (Nat.le_of_ble_eq_true rfl)) dJ0_length_8abf5_6 ⟨Nat.le_of_ble_eq_true rfl, Nat.le_of_ble_eq_true rfl⟩) hS (fun q h1 h2 => absurd h2 (Nat.not_le.mpr h1)) (fun q h => hA q (Nat.le_trans hS.1 h)) (fun r1 ur1 t H1 locs ht hvm w2 hB hz1 hk1 hS => ?_)
  have hP := keepR hP hk1
  obtain ⟨w2, w2x⟩ := w2
  subst w2
  refine lv_ishr hx hb dJ0_length_8abf5_9 ?_
  refine lv_cg (y := nI (strLen.getD i 0)) (sc_shr0 (by omega)) ?_
  have hpost : (nI (strLen.getD i 0) : Int32) = nI (strLen.getD i 0) := by
    first | rfl | ((repeat' split) <;> first | rfl | omega)
  refine W.widen (k := 0) (n := 0) (by omega) (by omega) ?_
  exact W.iret (v := nI (strLen.getD i 0)) hx hb hr (fun t ht hW => ⟨⟨nI (strLen.getD i 0), (), rfl, ⟨hpost, trivial⟩, trivial⟩, hS.F ht⟩) hS.2.2 dJ0_length_8abf5_10

set_option maxHeartbeats 1000000 in
set_option maxRecDepth 100000 in
theorem c_J0_isLatin1_aae02 (l : Launch) (dC : Nat → ClassId) (dI : Nat → Nat → Nat) (G : Nat → ClassId) (sz : Nat) (i : Nat) (adK adV : Nat → Nat) (hi : i < 10) : Met l yJ0_isLatin1_aae02 (Cond.code yJ0_isLatin1_aae02 cJ0_isLatin1_aae02 1 (some .boolean) :: GT) ({ frames := 0, cells := 0, slots := 0, locals := 0 } : Room) (PcRS [.ref (adK i)] dC dI G [] adK adV sz) (va_Qi (fun (r : Int32) (u : Unit) => match u with | _ => (r = 1) ∧ True) (fun _ _ => True) (fun q : Nat => sz ≤ q)) 0 0 (fun q : Nat => sz ≤ q) := by
  refine va_MetF (cc := cJ0_isLatin1_aae02) (maxL := 1) (ret := (some .boolean)) (by decide +kernel) rfl ?_
  intro p e s m args below meth c s₁ Bd hml hv
  obtain ⟨rfl, hsz, hP, hK, hSS⟩ := hv
  have hx := Bd.exec
  have hb := Bd.bytes
  have hr := Bd.returns
  have hg : ∀ w ∈ GT, w.before ([.ref (adK i)] : List Value).toArray s = true := fun w h => atoms_spec (ws := Cond.code yJ0_isLatin1_aae02 cJ0_isLatin1_aae02 1 (some .boolean) :: GT) Bd.pre w (List.mem_cons_of_mem _ h)
  have hown : s.vm.findClass RJ0 = some m.cls := findClass_of_methodNamed Bd.named
  have hlocks := Bd.notSynchronized
  subst hsz
  have hA : ∀ q : Nat, s.heap.size ≤ q → (fun q : Nat => s.heap.size ≤ q) q := fun _ h => h
  have hS : va_S (fun q : Nat => s.heap.size ≤ q) s.heap s.heap [] := va_S.rf
  have hl := lv_entry ([.ref (adK i)]) (n := 1) (Nat.le_of_ble_eq_true rfl)
  rw [lg_entry_eq]
  generalize (lg_sl ([.ref (adK i)]) ++ List.replicate (1 - (lg_sl ([.ref (adK i)])).length) Slot.unset).toArray = ls at hl ⊢
  have hl : lv_has ls 1 [(0, .ref (adK i))] := hl
  refine va_gets hx hb hSS.2.2.1 hS hown (hg _ wt_411) (fun _ h9 => h9) dJ0_isLatin1_aae02_0 ?_
  refine lv_if_eq (tgt := 17) hx hb dJ0_isLatin1_aae02_3 (by decide) (fun c1 => ?_) (fun c1 => ?_)
  · skip
    exact absurd c1 (by decide)
  · skip
    refine lv_aload_n hx hb dJ0_isLatin1_aae02_6 rfl (lv_at hl 0 rfl) ?_
    refine va_getS hx hb (hSS.1.1 i (by omega)).2.1 hS hown (hg _ wt_1278) (fun _ h9 => h9) dJ0_isLatin1_aae02_7 ?_
    refine lv_if_ne (tgt := 17) hx hb dJ0_isLatin1_aae02_10 (by decide) (fun c2 => ?_) (fun c2 => ?_)
    · skip
      exact absurd c2 (by decide)
    · skip
      refine lv_iconst (v := 1) hx hb dJ0_isLatin1_aae02_13 (by decide) ?_
      refine lv_goto (tgt := 18) hx hb dJ0_isLatin1_aae02_14 (by decide) ?_
      have hpost : (1 : Int32) = 1 := by
        have t_c1 := neI c1
        have t_c2 := eqI c2
        have : (0 : Int32).toInt = 0 := (by decide)
        have : (1 : Int32).toInt = 1 := (by decide)
        first | rfl | ((repeat' split) <;> first | rfl | omega)
      refine W.widen (k := 0) (n := 0) (by omega) (by omega) ?_
      exact W.zret (v := 1) hx hb hr (by first | rfl | decide | exact rfl) (fun t ht hW => ⟨⟨1, (), rfl, ⟨hpost, trivial⟩, trivial⟩, hS.F ht⟩) hS.2.2 dJ0_isLatin1_aae02_18

set_option maxHeartbeats 1000000 in
set_option maxRecDepth 100000 in
theorem c_J3_checkIndex0 (l : Launch) (dC : Nat → ClassId) (dI : Nat → Nat → Nat) (G : Nat → ClassId) (sz : Nat) (k nn : Nat) (adK adV : Nat → Nat) (hk0 : k < nn) (hk1 : nn ≤ 8) : Met l yJ3_checkIndex_8e157 (Cond.code yJ3_checkIndex_8e157 cJ3_checkIndex_8e157 3 (some .int) :: GT) ({ frames := 0, cells := 0, slots := 0, locals := 0 } : Room) (PcRS [.int (nI k), .int (nI nn), .null] dC dI G [] adK adV sz) (va_Qi (fun (r : Int32) (u : Unit) => match u with | _ => (True) ∧ True) (fun _ _ => True) (fun q : Nat => sz ≤ q)) 0 0 (fun q : Nat => sz ≤ q) := by
  refine Met.ofW (cc := cJ3_checkIndex_8e157) (maxL := 3) (ret := (some .int)) (by decide) rfl ?_
  intro p e s m args below meth c s₁ Bd hml hv
  obtain ⟨rfl, hsz, hP, hK, hSS⟩ := hv
  have hx := Bd.exec
  have hb := Bd.bytes
  have hr := Bd.returns
  have hg : ∀ w ∈ GT, w.before ([.int (nI k), .int (nI nn), .null] : List Value).toArray s = true := fun w h => atoms_spec (ws := Cond.code yJ3_checkIndex_8e157 cJ3_checkIndex_8e157 3 (some .int) :: GT) Bd.pre w (List.mem_cons_of_mem _ h)
  have hown : s.vm.findClass RJ3 = some m.cls := findClass_of_methodNamed Bd.named
  have hlocks := Bd.notSynchronized
  subst hsz
  have hA : ∀ q : Nat, s.heap.size ≤ q → (fun q : Nat => s.heap.size ≤ q) q := fun _ h => h
  have hS : va_S (fun q : Nat => s.heap.size ≤ q) s.heap s.heap [] := va_S.rf
  have hl := lv_entry ([.int (nI k), .int (nI nn), .null]) (n := 3) (Nat.le_of_ble_eq_true rfl)
  rw [lg_entry_eq]
  generalize (lg_sl ([.int (nI k), .int (nI nn), .null]) ++ List.replicate (3 - (lg_sl ([.int (nI k), .int (nI nn), .null])).length) Slot.unset).toArray = ls at hl ⊢
  have hl : lv_has ls 3 [(0, .int (nI k)), (1, .int (nI nn)), (2, .null)] := hl
  refine lv_iload_n hx hb dJ3_checkIndex_8e157_0 rfl (lv_at hl 0 rfl) ?_
  refine lv_if_lt (tgt := 9) hx hb dJ3_checkIndex_8e157_1 (by decide) (fun c1 => ?_) (fun c1 => ?_)
  · skip
    have t_c1 := ltI c1
    have : (0 : Int32).toInt = 0 := (by decide)
    have t_n0 : (nI k).toInt = (k : Int) := nI_toInt (by omega)
    have t_n1 : (nI nn).toInt = (nn : Int) := nI_toInt (by omega)
    have t_n0 : (nI k).toInt = (k : Int) := nI_toInt (by omega)
    have t_n1 : (nI nn).toInt = (nn : Int) := nI_toInt (by omega)
    exfalso; omega
  · skip
    have n2 : 0 ≤ k := by have t := nltI c1; rw [nI_toInt (n := k) (by omega)] at t; have : (0 : Int32).toInt = 0 := (by decide); omega
    refine lv_iload_n hx hb dJ3_checkIndex_8e157_4 rfl (lv_at hl 0 rfl) ?_
    refine lv_iload_n hx hb dJ3_checkIndex_8e157_5 rfl (lv_at hl 1 rfl) ?_
    refine lv_icmp_lt (tgt := 16) hx hb dJ3_checkIndex_8e157_6 (by decide) (fun c3 => ?_) (fun c3 => ?_)
    · skip
      have n4 : k < nn := by have t := ltI c3; rw [nI_toInt (n := k) (by omega)] at t; rw [nI_toInt (n := nn) (by omega)] at t; omega
      refine lv_iload_n hx hb dJ3_checkIndex_8e157_16 rfl (lv_at hl 0 rfl) ?_
      have hpost : True := by
        trivial
      refine W.widen (k := 0) (n := 0) (by omega) (by omega) ?_
      exact W.iret (v := nI k) hx hb hr (fun t ht hW => ⟨⟨nI k, (), rfl, ⟨hpost, trivial⟩, trivial⟩, hS.F ht⟩) hS.2.2 dJ3_checkIndex_8e157_17
    · skip
      have t_n2 := n2
      have t_c3 := nltI c3
      have t_n0 : (nI k).toInt = (k : Int) := nI_toInt (by omega)
      have t_n1 : (nI nn).toInt = (nn : Int) := nI_toInt (by omega)
      have t_n0 : (nI k).toInt = (k : Int) := nI_toInt (by omega)
      have t_n1 : (nI nn).toInt = (nn : Int) := nI_toInt (by omega)
      exfalso; omega

set_option maxHeartbeats 1000000 in
set_option maxRecDepth 100000 in
theorem c_J3_checkIndex1 (l : Launch) (dC : Nat → ClassId) (dI : Nat → Nat → Nat) (G : Nat → ClassId) (sz : Nat) (k nn fm : Nat) (adK adV : Nat → Nat) (hk0 : k < nn) (hk1 : nn ≤ 8) : Met l yJ3_checkIndex_8e157 (Cond.code yJ3_checkIndex_8e157 cJ3_checkIndex_8e157 3 (some .int) :: GT) ({ frames := 0, cells := 0, slots := 0, locals := 0 } : Room) (PcRS [.int (nI k), .int (nI nn), .ref fm] dC dI G [] adK adV sz) (va_Qi (fun (r : Int32) (u : Unit) => match u with | _ => (True) ∧ True) (fun _ _ => True) (fun q : Nat => sz ≤ q)) 0 0 (fun q : Nat => sz ≤ q) := by
  refine Met.ofW (cc := cJ3_checkIndex_8e157) (maxL := 3) (ret := (some .int)) (by decide) rfl ?_
  intro p e s m args below meth c s₁ Bd hml hv
  obtain ⟨rfl, hsz, hP, hK, hSS⟩ := hv
  have hx := Bd.exec
  have hb := Bd.bytes
  have hr := Bd.returns
  have hg : ∀ w ∈ GT, w.before ([.int (nI k), .int (nI nn), .ref fm] : List Value).toArray s = true := fun w h => atoms_spec (ws := Cond.code yJ3_checkIndex_8e157 cJ3_checkIndex_8e157 3 (some .int) :: GT) Bd.pre w (List.mem_cons_of_mem _ h)
  have hown : s.vm.findClass RJ3 = some m.cls := findClass_of_methodNamed Bd.named
  have hlocks := Bd.notSynchronized
  subst hsz
  have hA : ∀ q : Nat, s.heap.size ≤ q → (fun q : Nat => s.heap.size ≤ q) q := fun _ h => h
  have hS : va_S (fun q : Nat => s.heap.size ≤ q) s.heap s.heap [] := va_S.rf
  have hl := lv_entry ([.int (nI k), .int (nI nn), .ref fm]) (n := 3) (Nat.le_of_ble_eq_true rfl)
  rw [lg_entry_eq]
  generalize (lg_sl ([.int (nI k), .int (nI nn), .ref fm]) ++ List.replicate (3 - (lg_sl ([.int (nI k), .int (nI nn), .ref fm])).length) Slot.unset).toArray = ls at hl ⊢
  have hl : lv_has ls 3 [(0, .int (nI k)), (1, .int (nI nn)), (2, .ref fm)] := hl
  refine lv_iload_n hx hb dJ3_checkIndex_8e157_0 rfl (lv_at hl 0 rfl) ?_
  refine lv_if_lt (tgt := 9) hx hb dJ3_checkIndex_8e157_1 (by decide) (fun c1 => ?_) (fun c1 => ?_)
  · skip
    have t_c1 := ltI c1
    have : (0 : Int32).toInt = 0 := (by decide)
    have t_n0 : (nI k).toInt = (k : Int) := nI_toInt (by omega)
    have t_n1 : (nI nn).toInt = (nn : Int) := nI_toInt (by omega)
    have t_n0 : (nI k).toInt = (k : Int) := nI_toInt (by omega)
    have t_n1 : (nI nn).toInt = (nn : Int) := nI_toInt (by omega)
    exfalso; omega
  · skip
    have n2 : 0 ≤ k := by have t := nltI c1; rw [nI_toInt (n := k) (by omega)] at t; have : (0 : Int32).toInt = 0 := (by decide); omega
    refine lv_iload_n hx hb dJ3_checkIndex_8e157_4 rfl (lv_at hl 0 rfl) ?_
    refine lv_iload_n hx hb dJ3_checkIndex_8e157_5 rfl (lv_at hl 1 rfl) ?_
    refine lv_icmp_lt (tgt := 16) hx hb dJ3_checkIndex_8e157_6 (by decide) (fun c3 => ?_) (fun c3 => ?_)
    · skip
      have n4 : k < nn := by have t := ltI c3; rw [nI_toInt (n := k) (by omega)] at t; rw [nI_toInt (n := nn) (by omega)] at t; omega
      refine lv_iload_n hx hb dJ3_checkIndex_8e157_16 rfl (lv_at hl 0 rfl) ?_
      have hpost : True := by
        trivial
      refine W.widen (k := 0) (n := 0) (by omega) (by omega) ?_
      exact W.iret (v := nI k) hx hb hr (fun t ht hW => ⟨⟨nI k, (), rfl, ⟨hpost, trivial⟩, trivial⟩, hS.F ht⟩) hS.2.2 dJ3_checkIndex_8e157_17
    · skip
      have t_n2 := n2
      have t_c3 := nltI c3
      have t_n0 : (nI k).toInt = (k : Int) := nI_toInt (by omega)
      have t_n1 : (nI nn).toInt = (nn : Int) := nI_toInt (by omega)
      have t_n0 : (nI k).toInt = (k : Int) := nI_toInt (by omega)
      have t_n1 : (nI nn).toInt = (nn : Int) := nI_toInt (by omega)
      exfalso; omega

set_option maxHeartbeats 1000000 in
set_option maxRecDepth 100000 in
theorem c_J0_checkIndex_df160 (l : Launch) (dC : Nat → ClassId) (dI : Nat → Nat → Nat) (G : Nat → ClassId) (sz : Nat) (k nn : Nat) (adK adV : Nat → Nat) (hk0 : k < nn) (hk1 : nn ≤ 8) : Met l yJ0_checkIndex_df160 (Cond.code yJ0_checkIndex_df160 cJ0_checkIndex_df160 2 none :: GT) ({ frames := 1, cells := 0, slots := 0, locals := 22 } : Room) (PcRS [.int (nI k), .int (nI nn)] dC dI G [] adK adV sz) (va_Qv (fun (u : Unit) => match u with | _ => True) (fun _ _ => True) (fun q : Nat => sz ≤ q)) 0 0 (fun q : Nat => sz ≤ q) := by
  refine va_MetF (cc := cJ0_checkIndex_df160) (maxL := 2) (ret := none) (by decide +kernel) rfl ?_
  intro p e s m args below meth c s₁ Bd hml hv
  obtain ⟨rfl, hsz, hP, hK, hSS⟩ := hv
  have hx := Bd.exec
  have hb := Bd.bytes
  have hr := Bd.returns
  have hg : ∀ w ∈ GT, w.before ([.int (nI k), .int (nI nn)] : List Value).toArray s = true := fun w h => atoms_spec (ws := Cond.code yJ0_checkIndex_df160 cJ0_checkIndex_df160 2 none :: GT) Bd.pre w (List.mem_cons_of_mem _ h)
  have hown : s.vm.findClass RJ0 = some m.cls := findClass_of_methodNamed Bd.named
  have hlocks := Bd.notSynchronized
  subst hsz
  have hA : ∀ q : Nat, s.heap.size ≤ q → (fun q : Nat => s.heap.size ≤ q) q := fun _ h => h
  have hS : va_S (fun q : Nat => s.heap.size ≤ q) s.heap s.heap [] := va_S.rf
  have hl := lv_entry ([.int (nI k), .int (nI nn)]) (n := 2) (Nat.le_of_ble_eq_true rfl)
  rw [lg_entry_eq]
  generalize (lg_sl ([.int (nI k), .int (nI nn)]) ++ List.replicate (2 - (lg_sl ([.int (nI k), .int (nI nn)])).length) Slot.unset).toArray = ls at hl ⊢
  have hl : lv_has ls 2 [(0, .int (nI k)), (1, .int (nI nn))] := hl
  refine lv_iload_n hx hb dJ0_checkIndex_df160_0 rfl (lv_at hl 0 rfl) ?_
  refine lv_iload_n hx hb dJ0_checkIndex_df160_1 rfl (lv_at hl 1 rfl) ?_
  rcases hSS.2.2.2 with hZ9 | ⟨fm, hZ9⟩
  · skip
    refine va_gets hx hb hZ9 hS hown (hg _ wt_427) (fun _ h9 => h9) dJ0_checkIndex_df160_2 ?_
    have hPc := hP.sub (ws' := []) [] rfl
    refine va_calli (va_runS (As := [.int (nI k), .int (nI nn), .null]) (rest := []) ⟨hx, hb, hml, hown, hg⟩ (c_J3_checkIndex0 l dC dI G _ k nn adK adV (by have t_n0 : (nI k).toInt = (k : Int) := nI_toInt (by omega); have t_n1 : (nI nn).toInt = (nn : Int) := nI_toInt (by omega); omega) (by have t_n0 : (nI k).toInt = (k : Int) := nI_toInt (by omega); have t_n1 : (nI nn).toInt = (nn : Int) := nI_toInt (by omega); omega)) (kwS hg mfJ3_checkIndex_8e157 wt_429 ⟨Nat.le_of_ble_eq_true rfl, Nat.le_of_ble_eq_true rfl⟩) (preSRS hK hPc hSS hS (fun q h => hA q (Nat.le_trans hS.1 h))) rfl rfl hl.1 rfl (lv_room (Nat.le_of_ble_eq_true rfl)) dJ0_checkIndex_df160_5 ⟨Nat.le_of_ble_eq_true rfl, Nat.le_of_ble_eq_true rfl⟩) hS (fun q h1 h2 => absurd h2 (Nat.not_le.mpr h1)) (fun q h => hA q (Nat.le_trans hS.1 h)) (fun r1 ur1 t H1 locs ht hvm w2 hB hz1 hk1 hS => ?_)
    have hP := keepR hP hk1
    obtain ⟨w2, w2x⟩ := w2
    refine lv_pop hx hb dJ0_checkIndex_df160_8 rfl ?_
    refine W.widen (k := 0) (n := 0) (by omega) (by omega) ?_
    exact W.vret hx hb hr (fun t ht hW => ⟨⟨(), rfl, trivial, trivial⟩, hS.F ht⟩) hS.2.2 dJ0_checkIndex_df160_9
  · skip
    refine va_gets hx hb hZ9 hS hown (hg _ wt_427) (fun _ h9 => h9) dJ0_checkIndex_df160_2 ?_
    have hPc := hP.sub (ws' := []) [] rfl
    refine va_calli (va_runS (As := [.int (nI k), .int (nI nn), .ref fm]) (rest := []) ⟨hx, hb, hml, hown, hg⟩ (c_J3_checkIndex1 l dC dI G _ k nn fm adK adV (by have t_n0 : (nI k).toInt = (k : Int) := nI_toInt (by omega); have t_n1 : (nI nn).toInt = (nn : Int) := nI_toInt (by omega); omega) (by have t_n0 : (nI k).toInt = (k : Int) := nI_toInt (by omega); have t_n1 : (nI nn).toInt = (nn : Int) := nI_toInt (by omega); omega)) (kwS hg mfJ3_checkIndex_8e157 wt_429 ⟨Nat.le_of_ble_eq_true rfl, Nat.le_of_ble_eq_true rfl⟩) (preSRS hK hPc hSS hS (fun q h => hA q (Nat.le_trans hS.1 h))) rfl rfl hl.1 rfl (lv_room (Nat.le_of_ble_eq_true rfl)) dJ0_checkIndex_df160_5 ⟨Nat.le_of_ble_eq_true rfl, Nat.le_of_ble_eq_true rfl⟩) hS (fun q h1 h2 => absurd h2 (Nat.not_le.mpr h1)) (fun q h => hA q (Nat.le_trans hS.1 h)) (fun r3 ur3 t H1 locs ht hvm w4 hB hz1 hk1 hS => ?_)
    have hP := keepR hP hk1
    obtain ⟨w4, w4x⟩ := w4
    refine lv_pop hx hb dJ0_checkIndex_df160_8 rfl ?_
    refine W.widen (k := 0) (n := 0) (by omega) (by omega) ?_
    exact W.vret hx hb hr (fun t ht hW => ⟨⟨(), rfl, trivial, trivial⟩, hS.F ht⟩) hS.2.2 dJ0_checkIndex_df160_9


set_option maxHeartbeats 1000000 in
set_option maxRecDepth 100000 in
theorem c_X5_value (l : Launch) (dC : Nat → ClassId) (dI : Nat → Nat → Nat) (G : Nat → ClassId) (sz : Nat) (h0 tp td ta T F P : Nat) (x0 x1 x2 x3 x6 x7 x8 x9 : Int32) (f : Nat → Int32) (hT : T ≤ 320) (hF : F ≤ P) (hP0 : P ≤ T) : Met l yX5_value (Cond.code yX5_value cX5_value 3 (some .int) :: GT) ({ frames := 1, cells := 0, slots := 0, locals := 21 } : Room) (PcR [.ref h0] dC dI G [(h0, .inr (5, [.ref tp, .ref td, .int x0, .int x1, .int x2, .int x3, .int (nI F), .int (nI P), .int x6, .int x7, .int x8, .int x9])), (tp, .inr (7, [.int (nI T), .ref ta])), (ta, .inl (G 0, 320, .inl f))] sz) (va_Qi (fun (r : Int32) (u : Unit) => match u with | _ => (r = valN f T F (P - F)) ∧ True) (fun _ _ => True) (fun q : Nat => sz ≤ q)) 0 0 (fun q : Nat => sz ≤ q) := by
  refine Met.ofW (cc := cX5_value) (maxL := 3) (ret := (some .int)) (by decide) rfl ?_
  intro p e s m args below meth c s₁ Bd hml hv
  obtain ⟨rfl, hsz, hP, hK⟩ := hv
  have hx := Bd.exec
  have hb := Bd.bytes
  have hr := Bd.returns
  have hg : ∀ w ∈ GT, w.before ([.ref h0] : List Value).toArray s = true := fun w h => atoms_spec (ws := Cond.code yX5_value cX5_value 3 (some .int) :: GT) Bd.pre w (List.mem_cons_of_mem _ h)
  have hown : s.vm.findClass RX5 = some m.cls := findClass_of_methodNamed Bd.named
  have hlocks := Bd.notSynchronized
  subst hsz
  have hA : ∀ q : Nat, s.heap.size ≤ q → (fun q : Nat => s.heap.size ≤ q) q := fun _ h => h
  have hS : va_S (fun q : Nat => s.heap.size ≤ q) s.heap s.heap [] := va_S.rf
  have hl := lv_entry ([.ref h0]) (n := 3) (Nat.le_of_ble_eq_true rfl)
  rw [lg_entry_eq]
  generalize (lg_sl ([.ref h0]) ++ List.replicate (3 - (lg_sl ([.ref h0])).length) Slot.unset).toArray = ls at hl ⊢
  have hl : lv_has ls 3 [(0, .ref h0)] := hl
  refine lv_iconst (v := 0) hx hb dX5_value_0 (by decide) ?_
  refine lv_istore_n (lv' := [(1, .int 0), (0, .ref h0)]) hx hb dX5_value_1 rfl hl (by decide) rfl (fun ls hl => ?_)
  refine lv_aload_n hx hb dX5_value_2 rfl (lv_at hl 1 rfl) ?_
  refine va_get (D := (dC, dI)) (ci := 5) (v := .int (nI F)) (C := RX5) (T := TX5) (N := 12) hx hb hg inG5 hown hK.1 hP 0 rfl rfl 6 (by decide) (hg _ wt_116) (fun _ h9 => h9) rfl dX5_value_3 ?_
  refine lv_istore_n (lv' := [(2, .int (nI F)), (1, .int 0), (0, .ref h0)]) hx hb dX5_value_6 rfl hl (by decide) rfl (fun ls hl => ?_)
  have loop7_3 : ∀ (nf j1 : Nat), P + 1 ≤ j1 + nf → j1 ≤ P → F ≤ j1 → ∀ (y2 : Int32) (H : Heap) (locs : List Loc), y2 = valN f T F (j1 - F) → va_P (dC, dI) vwCl [(h0, .inr (5, [.ref tp, .ref td, .int x0, .int x1, .int x2, .int x3, .int (nI F), .int (nI P), .int x6, .int x7, .int x8, .int x9])), (tp, .inr (7, [.int (nI T), .ref ta])), (ta, .inl (G 0, 320, .inl f))] H → va_S (fun q : Nat => s.heap.size ≤ q) s.heap H locs → ∀ (ls : Array Slot), lv_has ls 3 [(2, .int (nI j1)), (1, .int y2), (0, .ref h0)] → W p l e (headSpec (Cond.code yX5_value cX5_value 3 (some .int) :: GT) ({ frames := 1, cells := 0, slots := 0, locals := 21 } : Room)).room s m ([.ref h0] : List Value).toArray below meth c H locs 0 0 (MQ below (va_Qi (fun (r : Int32) (u : Unit) => match u with | _ => (r = valN f T F (P - F)) ∧ True) (fun _ _ => True) (fun q : Nat => s.heap.size ≤ q)) ([.ref h0] : List Value).toArray s 0 0 (fun q : Nat => s.heap.size ≤ q)) (F0 m 7 ls []) := by
    intro nf
    induction nf with
    | zero => intro j1 h1 h2; exact absurd h1 (by omega)
    | succ nf ih7_3 =>
      intro j1 hn4 hj5 hlo_j1 y2 H locs hinv hP hS ls hl
      refine lv_iload_n hx hb dX5_value_7 rfl (lv_at hl 0 rfl) ?_
      refine lv_aload_n hx hb dX5_value_8 rfl (lv_at hl 2 rfl) ?_
      refine va_get (D := (dC, dI)) (ci := 5) (v := .int (nI P)) (C := RX5) (T := TX5) (N := 12) hx hb hg inG5 hown hK.1 hP 0 rfl rfl 7 (by decide) (hg _ wt_117) (fun _ h9 => h9) rfl dX5_value_9 ?_
      refine lv_icmp_ge (tgt := 38) hx hb dX5_value_12 (by decide) (fun c6 => ?_) (fun c6 => ?_)
      · skip
        have n7 : P ≤ j1 := by have t := leI c6; rw [nI_toInt (n := j1) (by omega)] at t; rw [nI_toInt (n := P) (by omega)] at t; omega
        refine lv_iload_n hx hb dX5_value_38 rfl (lv_at hl 1 rfl) ?_
        have hpost : (y2 : Int32) = valN f T F (P - F) := by
          rw [hinv, show j1 = P from (by omega)]
        refine W.widen (k := 0) (n := 0) (by omega) (by omega) ?_
        exact W.iret (v := y2) hx hb hr (fun t ht hW => ⟨⟨y2, (), rfl, ⟨hpost, trivial⟩, trivial⟩, hS.F ht⟩) hS.2.2 dX5_value_39
      · skip
        have n8 : j1 < P := by have t := nleI c6; rw [nI_toInt (n := j1) (by omega)] at t; rw [nI_toInt (n := P) (by omega)] at t; omega
        refine lv_iload_n hx hb dX5_value_15 rfl (lv_at hl 1 rfl) ?_
        refine lv_bipush (v := 10) hx hb dX5_value_16 (by decide) ?_
        refine lv_imul hx hb dX5_value_18 ?_
        refine lv_aload_n hx hb dX5_value_19 rfl (lv_at hl 2 rfl) ?_
        refine va_get (D := (dC, dI)) (ci := 5) (v := .ref tp) (C := RX5) (T := TX5) (N := 12) hx hb hg inG5 hown hK.1 hP 0 rfl rfl 0 (by decide) (hg _ wt_105) (fun _ h9 => h9) rfl dX5_value_20 ?_
        refine lv_iload_n hx hb dX5_value_23 rfl (lv_at hl 0 rfl) ?_
        have hPc := hP.sub (ws' := [(tp, .inr (7, [.int (nI T), .ref ta])), (ta, .inl (G 0, 320, .inl f))]) [1, 2] rfl
        refine va_calli (va_runVN (As := [.int (nI j1)]) (rest := [.int (y2 * 10)]) ⟨hx, hb, hml, hown, hg⟩ (c_X7_byteAt l dC dI G _ tp ta T (nI j1) f (by have t_hj5 := hj5; have t_hlo_j1 := hlo_j1; have t_n8 := n8; have t_n0 : (nI F).toInt = (F : Int) := nI_toInt (by omega); have t_n1 : (nI P).toInt = (P : Int) := nI_toInt (by omega); have t_n2 : (nI T).toInt = (T : Int) := nI_toInt (by omega); have t_n3 : (nI j1).toInt = (j1 : Int) := nI_toInt (by omega); omega)) (kwVN hg hK mfX7_byteAt wn_382 ⟨Nat.le_of_ble_eq_true rfl, Nat.le_of_ble_eq_true rfl⟩) (preVR hK hPc (ci := 7) rfl rfl) rfl rfl hl.1 rfl (lv_room (Nat.le_of_ble_eq_true rfl)) dX5_value_24 ⟨Nat.le_of_ble_eq_true rfl, Nat.le_of_ble_eq_true rfl⟩) hS (fun q h1 h2 => absurd h2 (Nat.not_le.mpr h1)) (fun q h => hA q (Nat.le_trans hS.1 h)) (fun r9 ur9 t H1 locs ht hvm w10 hB hz1 hk1 hS => ?_)
        have hP := keepR hP hk1
        obtain ⟨w10, w10x⟩ := w10
        refine lv_iadd hx hb dX5_value_27 ?_
        refine lv_bipush (v := 48) hx hb dX5_value_28 (by decide) ?_
        refine lv_isub hx hb dX5_value_30 ?_
        refine lv_istore_n (lv' := [(1, .int (((y2 * 10) + r9) - 48)), (2, .int (nI j1)), (0, .ref h0)]) hx hb dX5_value_31 rfl hl (by decide) rfl (fun ls hl => ?_)
        refine lv_iinc (v := nI (j1 + 1)) (lv' := [(2, .int (nI (j1 + 1))), (1, .int (((y2 * 10) + r9) - 48)), (0, .ref h0)]) hx hb dX5_value_32 hl (k := 1) rfl (by rw [show Int32.ofInt 1 = nI 1 from by decide]; exact nI_add _ _) (by decide) rfl (fun ls hl => ?_)
        refine lv_goto (tgt := 7) hx hb dX5_value_35 (by decide) ?_
        exact ih7_3 (j1 + 1) (by omega) (by omega) (by omega) (((y2 * 10) + r9) - 48) _ _ (by have e9 : j1 + 1 - F = (j1 - F) + 1 := (by omega); rw [e9]; show _ = valN f T F (j1 - F) * 10 + byF f T (nI (F + (j1 - F))) - 48; rw [show F + (j1 - F) = j1 from (by omega), ← hinv, w10]; rfl) hP hS ls (lv_sub hl [0, 1, 2] rfl)
  exact loop7_3 (P + 1) F (by omega) (by omega) (by omega) 0 _ _ (by rw [Nat.sub_self]; rfl) hP hS ls (lv_sub hl [0, 1, 2] rfl)


def okS (q : Nat) (x : Int32) : Prop := (q % 49 < 38 → 0 ≤ x.toInt ∧ x.toInt ≤ 9) ∧ (38 ≤ q % 49 → q % 49 < 48 → 0 ≤ x.toInt ∧ x.toInt ≤ 5) ∧ (q % 49 = 48 → -4 ≤ x.toInt ∧ x.toInt ≤ 4)
def OKS (fs : Nat → Int32) : Prop := ∀ q : Nat, q < 196 → okS q (fs q)
def OKP (fs : Nat → Int32) : Prop := ∀ q : Nat, q < 49 → okS q (fs q)
theorem OKS.upd {fs : Nat → Int32} (h : OKS fs) {k : Nat} {x : Int32} (hx : okS k x) : OKS (upd fs k x) := by
  intro q hq
  show okS q (if q = k then x else fs q)
  split
  · rename_i e; rw [e]; exact hx
  · exact h q hq
theorem OKP.upd {fs : Nat → Int32} (h : OKP fs) {k : Nat} {x : Int32} (hx : okS k x) : OKP (upd fs k x) := by
  intro q hq
  show okS q (if q = k then x else fs q)
  split
  · rename_i e; rw [e]; exact hx
  · exact h q hq
set_option maxHeartbeats 1000000 in
set_option maxRecDepth 100000 in
theorem c_X11_in (l : Launch) (dC : Nat → ClassId) (dI : Nat → Nat → Nat) (G : Nat → ClassId) (sz : Nat) (v lo xh : Int64)  : Met l yX11_in (Cond.code yX11_in cX11_in 6 (some .boolean) :: GT) ({ frames := 0, cells := 0, slots := 0, locals := 0 } : Room) (PcR [.long v, .long lo, .long xh] dC dI G [] sz) (va_Qi (fun (r : Int32) (u : Unit) => match u with | _ => (r = if lo.toInt ≤ v.toInt ∧ v.toInt ≤ xh.toInt then 1 else 0) ∧ True) (fun _ _ => True) (fun q : Nat => sz ≤ q)) 0 0 (fun q : Nat => sz ≤ q) := by
  refine Met.ofW (cc := cX11_in) (maxL := 6) (ret := (some .boolean)) (by decide) rfl ?_
  intro p e s m args below meth c s₁ Bd hml hv
  obtain ⟨rfl, hsz, hP, hK⟩ := hv
  have hx := Bd.exec
  have hb := Bd.bytes
  have hr := Bd.returns
  have hg : ∀ w ∈ GT, w.before ([.long v, .long lo, .long xh] : List Value).toArray s = true := fun w h => atoms_spec (ws := Cond.code yX11_in cX11_in 6 (some .boolean) :: GT) Bd.pre w (List.mem_cons_of_mem _ h)
  have hown : s.vm.findClass RX11 = some m.cls := findClass_of_methodNamed Bd.named
  have hlocks := Bd.notSynchronized
  subst hsz
  have hA : ∀ q : Nat, s.heap.size ≤ q → (fun q : Nat => s.heap.size ≤ q) q := fun _ h => h
  have hS : va_S (fun q : Nat => s.heap.size ≤ q) s.heap s.heap [] := va_S.rf
  have hl := lv_entry ([.long v, .long lo, .long xh]) (n := 6) (Nat.le_of_ble_eq_true rfl)
  rw [lg_entry_eq]
  generalize (lg_sl ([.long v, .long lo, .long xh]) ++ List.replicate (6 - (lg_sl ([.long v, .long lo, .long xh])).length) Slot.unset).toArray = ls at hl ⊢
  have hl : lv_has ls 6 [(0, .long v), (2, .long lo), (4, .long xh)] := hl
  refine lv_lload_n hx hb dX11_in_0 rfl (lv_at hl 0 rfl) ?_
  refine lv_lload_n hx hb dX11_in_1 rfl (lv_at hl 1 rfl) ?_
  refine W.lcmp hx hb dX11_in_2 ?_
  refine lv_if_lt (tgt := 17) hx hb dX11_in_3 (by decide) (fun c1 => ?_) (fun c1 => ?_)
  · skip
    refine lv_iconst (v := 0) hx hb dX11_in_17 (by decide) ?_
    have hpost : (0 : Int32) = if lo.toInt ≤ v.toInt ∧ v.toInt ≤ xh.toInt then 1 else 0 := by
      have t_c1 := lcm_lt_t c1
      first | rfl | ((repeat' split) <;> first | rfl | omega)
    refine W.widen (k := 0) (n := 0) (by omega) (by omega) ?_
    exact W.zret (v := 0) hx hb hr (by first | rfl | decide | exact rfl) (fun t ht hW => ⟨⟨0, (), rfl, ⟨hpost, trivial⟩, trivial⟩, hS.F ht⟩) hS.2.2 dX11_in_18
  · skip
    refine lv_lload_n hx hb dX11_in_6 rfl (lv_at hl 0 rfl) ?_
    refine lv_lload hx hb dX11_in_7 (lv_at hl 2 rfl) ?_
    refine W.lcmp hx hb dX11_in_9 ?_
    refine lv_if_gt (tgt := 17) hx hb dX11_in_10 (by decide) (fun c2 => ?_) (fun c2 => ?_)
    · skip
      refine lv_iconst (v := 0) hx hb dX11_in_17 (by decide) ?_
      have hpost : (0 : Int32) = if lo.toInt ≤ v.toInt ∧ v.toInt ≤ xh.toInt then 1 else 0 := by
        have t_c1 := lcm_lt_f c1
        have t_c2 := lcm_gt_t c2
        first | rfl | ((repeat' split) <;> first | rfl | omega)
      refine W.widen (k := 0) (n := 0) (by omega) (by omega) ?_
      exact W.zret (v := 0) hx hb hr (by first | rfl | decide | exact rfl) (fun t ht hW => ⟨⟨0, (), rfl, ⟨hpost, trivial⟩, trivial⟩, hS.F ht⟩) hS.2.2 dX11_in_18
    · skip
      refine lv_iconst (v := 1) hx hb dX11_in_13 (by decide) ?_
      refine lv_goto (tgt := 18) hx hb dX11_in_14 (by decide) ?_
      have hpost : (1 : Int32) = if lo.toInt ≤ v.toInt ∧ v.toInt ≤ xh.toInt then 1 else 0 := by
        have t_c1 := lcm_lt_f c1
        have t_c2 := lcm_gt_f c2
        first | rfl | ((repeat' split) <;> first | rfl | omega)
      refine W.widen (k := 0) (n := 0) (by omega) (by omega) ?_
      exact W.zret (v := 1) hx hb hr (by first | rfl | decide | exact rfl) (fun t ht hW => ⟨⟨1, (), rfl, ⟨hpost, trivial⟩, trivial⟩, hS.F ht⟩) hS.2.2 dX11_in_18

set_option maxHeartbeats 1000000 in
set_option maxRecDepth 100000 in
theorem c_X11_byteAt (l : Launch) (dC : Nat → ClassId) (dI : Nat → Nat → Nat) (G : Nat → ClassId) (sz : Nat) (h0 k st N B rp tp T cu lt od th be ln S ma M ah bh ik la lg ce : Nat) (vrs vrb vhs vca vxs vxb vfa vbr vba vsp vhe vtk vva vto : Int32) (ftp : Nat → Int32) (hN : N ≤ 10) (hB : B ≤ 6) (hT : T ≤ 320) (hS0 : S ≤ 8) (hM : M ≤ 6) (hk : k < 1000) : Met l yX11_byteAt (Cond.code yX11_byteAt cX11_byteAt 2 (some .int) :: GT) ({ frames := 0, cells := 0, slots := 0, locals := 0 } : Room) (PcR [.ref h0, .int (nI k)] dC dI G [(h0, .inr (11, [.ref st, .int (nI N), .int (nI B), .ref rp, .int vrs, .int vrb, .int vhs, .int vca, .int vxs, .int vxb, .ref tp, .int (nI T), .int vfa, .int vbr, .int vba, .int vsp, .int vhe, .int vtk, .int vva, .ref cu, .ref lt, .ref od, .ref th, .ref be, .ref ln, .int (nI S), .ref ma, .int (nI M), .ref ah, .ref bh, .ref ik, .ref la, .ref lg, .ref ce, .int vto])), (tp, .inl (G 0, 320, .inl ftp))] sz) (va_Qi (fun (r : Int32) (u : Unit) => match u with | _ => ((k < T ∧ r = ftp k) ∨ (T ≤ k ∧ r = -4)) ∧ True) (fun _ _ => True) (fun q : Nat => sz ≤ q)) 0 0 (fun q : Nat => sz ≤ q) := by
  refine Met.ofW (cc := cX11_byteAt) (maxL := 2) (ret := (some .int)) (by decide) rfl ?_
  intro p e s m args below meth c s₁ Bd hml hv
  obtain ⟨rfl, hsz, hP, hK⟩ := hv
  have hx := Bd.exec
  have hb := Bd.bytes
  have hr := Bd.returns
  have hg : ∀ w ∈ GT, w.before ([.ref h0, .int (nI k)] : List Value).toArray s = true := fun w h => atoms_spec (ws := Cond.code yX11_byteAt cX11_byteAt 2 (some .int) :: GT) Bd.pre w (List.mem_cons_of_mem _ h)
  have hown : s.vm.findClass RX11 = some m.cls := findClass_of_methodNamed Bd.named
  have hlocks := Bd.notSynchronized
  subst hsz
  have hA : ∀ q : Nat, s.heap.size ≤ q → (fun q : Nat => s.heap.size ≤ q) q := fun _ h => h
  have hS : va_S (fun q : Nat => s.heap.size ≤ q) s.heap s.heap [] := va_S.rf
  have hl := lv_entry ([.ref h0, .int (nI k)]) (n := 2) (Nat.le_of_ble_eq_true rfl)
  rw [lg_entry_eq]
  generalize (lg_sl ([.ref h0, .int (nI k)]) ++ List.replicate (2 - (lg_sl ([.ref h0, .int (nI k)])).length) Slot.unset).toArray = ls at hl ⊢
  have hl : lv_has ls 2 [(0, .ref h0), (1, .int (nI k))] := hl
  refine lv_iload_n hx hb dX11_byteAt_0 rfl (lv_at hl 1 rfl) ?_
  refine lv_aload_n hx hb dX11_byteAt_1 rfl (lv_at hl 0 rfl) ?_
  refine va_get (D := (dC, dI)) (ci := 11) (v := .int (nI T)) (C := RX11) (T := TX11) (N := 35) hx hb hg inG11 hown hK.1 hP 0 rfl rfl 11 (by decide) (hg _ wt_889) (fun _ h9 => h9) rfl dX11_byteAt_2 ?_
  refine lv_icmp_ge (tgt := 17) hx hb dX11_byteAt_5 (by decide) (fun c1 => ?_) (fun c1 => ?_)
  · skip
    have n2 : T ≤ k := by have t := leI c1; rw [nI_toInt (n := k) (by omega)] at t; rw [nI_toInt (n := T) (by omega)] at t; omega
    refine lv_bipush (v := (-4)) hx hb dX11_byteAt_17 (by decide) ?_
    have hpost : (k < T ∧ ((-4) : Int32) = ftp k) ∨ (T ≤ k ∧ ((-4) : Int32) = -4) := by
      have t_n2 := n2
      have t_n0 : (nI k).toInt = (k : Int) := nI_toInt (by omega)
      have t_n1 : (nI N).toInt = (N : Int) := nI_toInt (by omega)
      have t_n2 : (nI B).toInt = (B : Int) := nI_toInt (by omega)
      have t_n3 : (nI T).toInt = (T : Int) := nI_toInt (by omega)
      have t_n4 : (nI S).toInt = (S : Int) := nI_toInt (by omega)
      have t_n5 : (nI M).toInt = (M : Int) := nI_toInt (by omega)
      exact Or.inr ⟨by omega, rfl⟩
    refine W.widen (k := 0) (n := 0) (by omega) (by omega) ?_
    exact W.iret (v := (-4)) hx hb hr (fun t ht hW => ⟨⟨(-4), (), rfl, ⟨hpost, trivial⟩, trivial⟩, hS.F ht⟩) hS.2.2 dX11_byteAt_19
  · skip
    have n3 : k < T := by have t := nleI c1; rw [nI_toInt (n := k) (by omega)] at t; rw [nI_toInt (n := T) (by omega)] at t; omega
    refine lv_aload_n hx hb dX11_byteAt_8 rfl (lv_at hl 0 rfl) ?_
    refine va_get (D := (dC, dI)) (ci := 11) (v := .ref tp) (C := RX11) (T := TX11) (N := 35) hx hb hg inG11 hown hK.1 hP 0 rfl rfl 10 (by decide) (hg _ wt_888) (fun _ h9 => h9) rfl dX11_byteAt_9 ?_
    refine lv_iload_n hx hb dX11_byteAt_12 rfl (lv_at hl 1 rfl) ?_
    refine va_iald hx hb hK.1 hP 1 0 rfl rfl (vp_in_nI (by have t_n3 := n3; have t_n0 : (nI k).toInt = (k : Int) := nI_toInt (by omega); have t_n1 : (nI N).toInt = (N : Int) := nI_toInt (by omega); have t_n2 : (nI B).toInt = (B : Int) := nI_toInt (by omega); have t_n3 : (nI T).toInt = (T : Int) := nI_toInt (by omega); have t_n4 : (nI S).toInt = (S : Int) := nI_toInt (by omega); have t_n5 : (nI M).toInt = (M : Int) := nI_toInt (by omega); omega) (by decide)) dX11_byteAt_13 ?_
    refine lv_cg (y := ftp k) (by rw [nI_clamp (by omega)]) ?_
    refine lv_goto (tgt := 19) hx hb dX11_byteAt_14 (by decide) ?_
    have hpost : (k < T ∧ (ftp k : Int32) = ftp k) ∨ (T ≤ k ∧ (ftp k : Int32) = -4) := by
      have t_n3 := n3
      have t_n0 : (nI k).toInt = (k : Int) := nI_toInt (by omega)
      have t_n1 : (nI N).toInt = (N : Int) := nI_toInt (by omega)
      have t_n2 : (nI B).toInt = (B : Int) := nI_toInt (by omega)
      have t_n3 : (nI T).toInt = (T : Int) := nI_toInt (by omega)
      have t_n4 : (nI S).toInt = (S : Int) := nI_toInt (by omega)
      have t_n5 : (nI M).toInt = (M : Int) := nI_toInt (by omega)
      exact Or.inl ⟨by omega, rfl⟩
    refine W.widen (k := 0) (n := 0) (by omega) (by omega) ?_
    exact W.iret (v := ftp k) hx hb hr (fun t ht hW => ⟨⟨ftp k, (), rfl, ⟨hpost, trivial⟩, trivial⟩, hS.F ht⟩) hS.2.2 dX11_byteAt_19

