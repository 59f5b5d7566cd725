set_option maxHeartbeats 4000000 in
set_option maxRecDepth 100000 in
theorem c_X6_takePairsE (l : Launch) (dC : Nat → ClassId) (dI : Nat → Nat → Nat) (G : Nat → ClassId) (sz : Nat) (h0 la si ce fi se k nn : Nat) (x8 x9 lane x1 : Int32) (fl fz f1 f2 : Nat → Int32) (rc : Nat → Nat) (F : Nat → Nat → Int32) (hk : k < 4) (hnn : nn ≤ 20) (hz : ∀ q : Nat, q < 4 → 0 ≤ (fz q).toInt ∧ (fz q).toInt ≤ 40) (hlne : ¬ lane = -1) : Met l yX6_takePairs (Cond.code yX6_takePairs cX6_takePairs 8 none :: GT) ({ frames := 1, cells := 0, slots := 0, locals := 23 } : Room) (PcW [.ref h0, .int (nI k), .int lane, .int x1, .int (nI nn)] dC dI G (([(h0, .inr (6, [.ref la, .ref si, .ref ce, .int x8, .int x9, .ref fi, .ref se])), (la, .inl (G 0, 4, .inl fl)), (si, .inl (G 0, 4, .inl fz)), (ce, .inl (G 4, 4, .inr (.inr (.inr (.inr (fun ir => if ir < 4 then some (rc ir) else none)))))), (fi, .inl (G 0, 20, .inl f1)), (se, .inl (G 0, 20, .inl f2))] : va_W) ++ ((((List.range 4).map (fun iq => (rc iq, .inl (G 0, 40, .inl (F iq))))) : va_W) ++ [])) sz) (va_Qv (fun (u : Int32 × Nat × (Nat → Int32) × (Nat → Int32)) => match u with | (u0, u1, u2, u3) => u1 = tpK (fl k) lane (fz k).toInt x1.toInt nn ∧ (∀ q9 : Nat, q9 < u1 → u2 q9 = F k (x1.toInt + 2 * (q9 : Int) + 0).toNat) ∧ (∀ q9 : Nat, q9 < u1 → u3 q9 = F k (x1.toInt + 2 * (q9 : Int) + 1).toNat) ∧ u1 ≤ 20) (fun (u : Int32 × Nat × (Nat → Int32) × (Nat → Int32)) (t : State) => match u with | (u0, u1, u2, u3) => va_P (dC, dI) vwCl (([(h0, .inr (6, [.ref la, .ref si, .ref ce, .int u0, .int (nI u1), .ref fi, .ref se])), (la, .inl (G 0, 4, .inl fl)), (si, .inl (G 0, 4, .inl fz)), (ce, .inl (G 4, 4, .inr (.inr (.inr (.inr (fun ir => if ir < 4 then some (rc ir) else none)))))), (fi, .inl (G 0, 20, .inl u2)), (se, .inl (G 0, 20, .inl u3))] : va_W) ++ ((((List.range 4).map (fun iq => (rc iq, .inl (G 0, 40, .inl (F iq))))) : va_W) ++ [])) t.heap ∧ va_D (va_A (([(h0, .inr (6, [.ref la, .ref si, .ref ce, .int x8, .int x9, .ref fi, .ref se])), (la, .inl (G 0, 4, .inl fl)), (si, .inl (G 0, 4, .inl fz)), (ce, .inl (G 4, 4, .inr (.inr (.inr (.inr (fun ir => if ir < 4 then some (rc ir) else none)))))), (fi, .inl (G 0, 20, .inl f1)), (se, .inl (G 0, 20, .inl f2))] : va_W) ++ ((((List.range 4).map (fun iq => (rc iq, .inl (G 0, 40, .inl (F iq))))) : va_W) ++ [])) sz) (([(h0, .inr (6, [.ref la, .ref si, .ref ce, .int u0, .int (nI u1), .ref fi, .ref se])), (la, .inl (G 0, 4, .inl fl)), (si, .inl (G 0, 4, .inl fz)), (ce, .inl (G 4, 4, .inr (.inr (.inr (.inr (fun ir => if ir < 4 then some (rc ir) else none)))))), (fi, .inl (G 0, 20, .inl u2)), (se, .inl (G 0, 20, .inl u3))] : va_W) ++ ((((List.range 4).map (fun iq => (rc iq, .inl (G 0, 40, .inl (F iq))))) : va_W) ++ []))) (va_A (([(h0, .inr (6, [.ref la, .ref si, .ref ce, .int x8, .int x9, .ref fi, .ref se])), (la, .inl (G 0, 4, .inl fl)), (si, .inl (G 0, 4, .inl fz)), (ce, .inl (G 4, 4, .inr (.inr (.inr (.inr (fun ir => if ir < 4 then some (rc ir) else none)))))), (fi, .inl (G 0, 20, .inl f1)), (se, .inl (G 0, 20, .inl f2))] : va_W) ++ ((((List.range 4).map (fun iq => (rc iq, .inl (G 0, 40, .inl (F iq))))) : va_W) ++ [])) sz)) 0 0 (va_A (([(h0, .inr (6, [.ref la, .ref si, .ref ce, .int x8, .int x9, .ref fi, .ref se])), (la, .inl (G 0, 4, .inl fl)), (si, .inl (G 0, 4, .inl fz)), (ce, .inl (G 4, 4, .inr (.inr (.inr (.inr (fun ir => if ir < 4 then some (rc ir) else none)))))), (fi, .inl (G 0, 20, .inl f1)), (se, .inl (G 0, 20, .inl f2))] : va_W) ++ ((((List.range 4).map (fun iq => (rc iq, .inl (G 0, 40, .inl (F iq))))) : va_W) ++ [])) sz) := by
  refine Met.ofW (cc := cX6_takePairs) (maxL := 8) (ret := none) (by decide) rfl ?_
  intro p e s m args below meth c s₁ Bd hml hv
  obtain ⟨rfl, hsz, hP, hK, hD0⟩ := hv
  have hx := Bd.exec
  have hb := Bd.bytes
  have hr := Bd.returns
  have hg : ∀ w ∈ GT, w.before ([.ref h0, .int (nI k), .int lane, .int x1, .int (nI nn)] : List Value).toArray s = true := fun w h => atoms_spec (ws := Cond.code yX6_takePairs cX6_takePairs 8 none :: GT) Bd.pre w (List.mem_cons_of_mem _ h)
  have hown : s.vm.findClass RX6 = some m.cls := findClass_of_methodNamed Bd.named
  have hlocks := Bd.notSynchronized
  subst hsz
  have hD := hD0.self (sz := s.heap.size)
  generalize hAe : va_A (([(h0, .inr (6, [.ref la, .ref si, .ref ce, .int x8, .int x9, .ref fi, .ref se])), (la, .inl (G 0, 4, .inl fl)), (si, .inl (G 0, 4, .inl fz)), (ce, .inl (G 4, 4, .inr (.inr (.inr (.inr (fun ir => if ir < 4 then some (rc ir) else none)))))), (fi, .inl (G 0, 20, .inl f1)), (se, .inl (G 0, 20, .inl f2))] : va_W) ++ ((((List.range 4).map (fun iq => (rc iq, .inl (G 0, 40, .inl (F iq))))) : va_W) ++ [])) s.heap.size = A at hD ⊢
  have hA : ∀ q : Nat, s.heap.size ≤ q → A q := fun q h => by rw [← hAe]; exact Or.inr h
  have hS : va_S A s.heap s.heap [] := va_S.rf
  have hl := lv_entry ([.ref h0, .int (nI k), .int lane, .int x1, .int (nI nn)]) (n := 8) (Nat.le_of_ble_eq_true rfl)
  rw [lg_entry_eq]
  generalize (lg_sl ([.ref h0, .int (nI k), .int lane, .int x1, .int (nI nn)]) ++ List.replicate (8 - (lg_sl ([.ref h0, .int (nI k), .int lane, .int x1, .int (nI nn)])).length) Slot.unset).toArray = ls at hl ⊢
  have hl : lv_has ls 8 [(0, .ref h0), (1, .int (nI k)), (2, .int lane), (3, .int x1), (4, .int (nI nn))] := hl
  have hzk := hz k hk
  refine lv_aload_n hx hb dX6_takePairs_0 rfl (lv_at hl 0 rfl) ?_
  refine lv_iconst (v := 0) hx hb dX6_takePairs_1 rfl ?_
  refine va_put (D := (dC, dI)) (ci := 6) (v := .int 0) (ty := .int) (C := RX6) (T := TX6) (N := 7) hx hb hg inG6 tyX6 tyX6_ok nmX6 hown hK.1 hP hD hS 0 rfl rfl 4 (Nat.le_of_ble_eq_true rfl) (hg _ wt_281) (fun _ h9 => h9) rfl (by decide +kernel) rfl rfl (Nat.le_of_ble_eq_true rfl) dX6_takePairs_2 (fun H locs hP hD hS => ?_)
  obtain ⟨hP, hD⟩ := va_rls (ws' := (([(h0, .inr (6, [.ref la, .ref si, .ref ce, .int x8, .int 0, .ref fi, .ref se])), (la, .inl (G 0, 4, .inl fl)), (si, .inl (G 0, 4, .inl fz)), (ce, .inl (G 4, 4, .inr (.inr (.inr (.inr (fun ir => if ir < 4 then some (rc ir) else none)))))), (fi, .inl (G 0, 20, .inl f1)), (se, .inl (G 0, 20, .inl f2))] : va_W) ++ ((((List.range 4).map (fun iq => (rc iq, .inl (G 0, 40, .inl (F iq))))) : va_W) ++ []))) hP hD rfl
  refine lv_aload_n hx hb dX6_takePairs_5 rfl (lv_at hl 0 rfl) ?_
  refine lv_aload_n hx hb dX6_takePairs_6 rfl (lv_at hl 0 rfl) ?_
  refine va_get (D := (dC, dI)) (ci := 6) (v := .ref la) (C := RX6) (T := TX6) (N := 7) hx hb hg inG6 hown hK.1 hP 0 rfl rfl 0 (Nat.le_of_ble_eq_true rfl) (hg _ wt_276) (fun _ h9 => h9) rfl dX6_takePairs_7 ?_
  refine lv_iload_n hx hb dX6_takePairs_10 rfl (lv_at hl 1 rfl) ?_
  have tn2071_ : nIT k := fun _ => nI_toInt (by omega)
  have tn2072_ : nIT nn := fun _ => nI_toInt (by omega)
  refine va_iald hx hb hK.1 hP 1 0 rfl rfl (vp_in_nI (by first | omega | (have tnb_ := nib2 tn2071_ tn2072_; omega)) (by decide)) dX6_takePairs_11 ?_
  refine lv_cg (y := fl k) (by rw [nI_clamp (by omega)]) ?_
  refine lv_iconst (v := (-1)) hx hb dX6_takePairs_12 rfl ?_
  refine lv_icmp_eq (tgt := 26) hx hb dX6_takePairs_13 rfl (fun c1 => ?_) (fun c1 => ?_)
  · skip
    refine lv_iconst (v := 0) hx hb dX6_takePairs_26 rfl ?_
    refine lv_goto (tgt := 31) hx hb dX6_takePairs_27 rfl ?_
    refine va_put (D := (dC, dI)) (ci := 6) (v := .int 0) (ty := .int) (C := RX6) (T := TX6) (N := 7) hx hb hg inG6 tyX6 tyX6_ok nmX6 hown hK.1 hP hD hS 0 rfl rfl 3 (Nat.le_of_ble_eq_true rfl) (hg _ wt_279) (fun _ h9 => h9) rfl (by decide +kernel) rfl rfl (Nat.le_of_ble_eq_true rfl) dX6_takePairs_31 (fun H locs hP hD hS => ?_)
    obtain ⟨hP, hD⟩ := va_rls (ws' := (([(h0, .inr (6, [.ref la, .ref si, .ref ce, .int 0, .int 0, .ref fi, .ref se])), (la, .inl (G 0, 4, .inl fl)), (si, .inl (G 0, 4, .inl fz)), (ce, .inl (G 4, 4, .inr (.inr (.inr (.inr (fun ir => if ir < 4 then some (rc ir) else none)))))), (fi, .inl (G 0, 20, .inl f1)), (se, .inl (G 0, 20, .inl f2))] : va_W) ++ ((((List.range 4).map (fun iq => (rc iq, .inl (G 0, 40, .inl (F iq))))) : va_W) ++ []))) hP hD rfl
    refine lv_iconst (v := 0) hx hb dX6_takePairs_34 rfl ?_
    refine lv_istore (lv' := [(5, .int 0), (0, .ref h0), (1, .int (nI k)), (2, .int lane), (3, .int x1), (4, .int (nI nn))]) hx hb dX6_takePairs_35 hl (by decide) rfl (fun ls hl => ?_)
    have loop37_8 : ∀ (nf j2 : Nat), 20 + 1 ≤ j2 + nf → j2 ≤ 20 → ∀ (y3 : Int32) (k5 : Nat) (g6 : Nat → Int32) (g7 : Nat → Int32) (H : Heap) (locs : List Loc), ((∀ q9 : Nat, q9 < k5 → g6 q9 = F k (x1.toInt + 2 * (q9 : Int) + 0).toNat) ∧ (∀ q9 : Nat, q9 < k5 → g7 q9 = F k (x1.toInt + 2 * (q9 : Int) + 1).toNat) ∧ ((y3 = 0 ∧ k5 = j2 ∧ (fl k = -1 → j2 = 0) ∧ (¬ fl k = -1 → fl k = lane) ∧ tpM (fz k).toInt x1.toInt (nn - j2) j2 = tpM (fz k).toInt x1.toInt nn 0) ∨ (¬ y3 = 0 ∧ k5 = tpK (fl k) lane (fz k).toInt x1.toInt nn)) ∧ k5 ≤ j2 ∧ j2 ≤ nn) → va_P (dC, dI) vwCl (([(h0, .inr (6, [.ref la, .ref si, .ref ce, .int y3, .int (nI k5), .ref fi, .ref se])), (la, .inl (G 0, 4, .inl fl)), (si, .inl (G 0, 4, .inl fz)), (ce, .inl (G 4, 4, .inr (.inr (.inr (.inr (fun ir => if ir < 4 then some (rc ir) else none)))))), (fi, .inl (G 0, 20, .inl g6)), (se, .inl (G 0, 20, .inl g7))] : va_W) ++ ((((List.range 4).map (fun iq => (rc iq, .inl (G 0, 40, .inl (F iq))))) : va_W) ++ [])) H → va_D A (([(h0, .inr (6, [.ref la, .ref si, .ref ce, .int y3, .int (nI k5), .ref fi, .ref se])), (la, .inl (G 0, 4, .inl fl)), (si, .inl (G 0, 4, .inl fz)), (ce, .inl (G 4, 4, .inr (.inr (.inr (.inr (fun ir => if ir < 4 then some (rc ir) else none)))))), (fi, .inl (G 0, 20, .inl g6)), (se, .inl (G 0, 20, .inl g7))] : va_W) ++ ((((List.range 4).map (fun iq => (rc iq, .inl (G 0, 40, .inl (F iq))))) : va_W) ++ [])) → va_S A s.heap H locs → ∀ (ls : Array Slot), lv_has ls 8 [(5, .int (nI j2)), (0, .ref h0), (1, .int (nI k)), (2, .int lane), (3, .int x1), (4, .int (nI nn))] → W p l e (headSpec (Cond.code yX6_takePairs cX6_takePairs 8 none :: GT) ({ frames := 1, cells := 0, slots := 0, locals := 23 } : Room)).room s m ([.ref h0, .int (nI k), .int lane, .int x1, .int (nI nn)] : List Value).toArray below meth c H locs 0 0 (MQ below (va_Qv (fun (u : Int32 × Nat × (Nat → Int32) × (Nat → Int32)) => match u with | (u0, u1, u2, u3) => u1 = tpK (fl k) lane (fz k).toInt x1.toInt nn ∧ (∀ q9 : Nat, q9 < u1 → u2 q9 = F k (x1.toInt + 2 * (q9 : Int) + 0).toNat) ∧ (∀ q9 : Nat, q9 < u1 → u3 q9 = F k (x1.toInt + 2 * (q9 : Int) + 1).toNat) ∧ u1 ≤ 20) (fun (u : Int32 × Nat × (Nat → Int32) × (Nat → Int32)) (t : State) => match u with | (u0, u1, u2, u3) => va_P (dC, dI) vwCl (([(h0, .inr (6, [.ref la, .ref si, .ref ce, .int u0, .int (nI u1), .ref fi, .ref se])), (la, .inl (G 0, 4, .inl fl)), (si, .inl (G 0, 4, .inl fz)), (ce, .inl (G 4, 4, .inr (.inr (.inr (.inr (fun ir => if ir < 4 then some (rc ir) else none)))))), (fi, .inl (G 0, 20, .inl u2)), (se, .inl (G 0, 20, .inl u3))] : va_W) ++ ((((List.range 4).map (fun iq => (rc iq, .inl (G 0, 40, .inl (F iq))))) : va_W) ++ [])) t.heap ∧ va_D A (([(h0, .inr (6, [.ref la, .ref si, .ref ce, .int u0, .int (nI u1), .ref fi, .ref se])), (la, .inl (G 0, 4, .inl fl)), (si, .inl (G 0, 4, .inl fz)), (ce, .inl (G 4, 4, .inr (.inr (.inr (.inr (fun ir => if ir < 4 then some (rc ir) else none)))))), (fi, .inl (G 0, 20, .inl u2)), (se, .inl (G 0, 20, .inl u3))] : va_W) ++ ((((List.range 4).map (fun iq => (rc iq, .inl (G 0, 40, .inl (F iq))))) : va_W) ++ []))) A) ([.ref h0, .int (nI k), .int lane, .int x1, .int (nI nn)] : List Value).toArray s 0 0 A) (F0 m 37 ls []) := by
      intro nf
      induction nf with
      | zero => intro j2 h1 h2; exact absurd h1 (by omega)
      | succ nf ih37_8 =>
        intro j2 hn9 hj10 y3 k5 g6 g7 H locs hinv hP hD hS ls hl
        refine lv_iload hx hb dX6_takePairs_37 (lv_at hl 0 rfl) ?_
        refine lv_iload hx hb dX6_takePairs_39 (lv_at hl 5 rfl) ?_
        refine lv_icmp_ge (tgt := 160) hx hb dX6_takePairs_41 rfl (fun c11 => ?_) (fun c11 => ?_)
        · skip
          have tn2073_ : nIT j2 := fun _ => nI_toInt (by first | omega | (have t := leI c11; omega))
          have n12 : nn ≤ j2 := by have t := leI c11; rw [show (nI (j2)).toInt = ((j2 : Nat) : Int) from tn2073_ ()] at t; rw [show (nI (nn)).toInt = ((nn : Nat) : Int) from tn2072_ ()] at t; omega
          obtain ⟨hP9, hD9⟩ := va_sub2 (ws' := (([(h0, .inr (6, [.ref la, .ref si, .ref ce, .int y3, .int (nI k5), .ref fi, .ref se])), (la, .inl (G 0, 4, .inl fl)), (si, .inl (G 0, 4, .inl fz)), (ce, .inl (G 4, 4, .inr (.inr (.inr (.inr (fun ir => if ir < 4 then some (rc ir) else none)))))), (fi, .inl (G 0, 20, .inl g6)), (se, .inl (G 0, 20, .inl g7))] : va_W) ++ ((((List.range 4).map (fun iq => (rc iq, .inl (G 0, 40, .inl (F iq))))) : va_W) ++ []))) hP hD [0, 1, 2, 3, 4, 5, 6, 7, 8, 9] (by decide +kernel) rfl
          refine W.widen (k := 0) (n := 0) (Nat.le_of_ble_eq_true rfl) (Nat.le_of_ble_eq_true rfl) ?_
          have tn2074_ : nIT k5 := fun _ => nI_toInt (by first | omega | (have t_c1 := eqI c1; have t_hj10 := hj10; have t_hinv := hinv.2.2.2; have t_n12 := n12; have : ((-1) : Int32).toInt = -1 := qI_m1; omega))
          exact W.vret hx hb hr (fun t ht hW => ⟨⟨(y3, k5, g6, g7), rfl, (by have t_c1 := eqI c1; have t_hj10 := hj10; have t_hinv := hinv.2.2.2; have t_n12 := n12; have : ((-1) : Int32).toInt = -1 := qI_m1; have tnb_ := nib4 tn2071_ tn2072_ tn2073_ tn2074_; have tqz_ := qz41_; have hk : _ = tpK (fl k) lane (fz k).toInt x1.toInt nn := (by rcases hinv.2.2.1 with g9 | g9; (exact tp_end g9.2.1 g9.2.2.1 g9.2.2.2.1 g9.2.2.2.2 hlne (by first | omega | (exfalso; exact absurd g9.1 (by first | with_reducible assumption | assumption)))); exact g9.2); exact ⟨hk, hinv.1, hinv.2.1, by omega⟩), ⟨by rw [ht]; exact hP9, hD9⟩⟩, hS.F ht⟩) hS.2.2 dX6_takePairs_160
        · skip
          have tn2075_ : nIT j2 := fun _ => nI_toInt (by first | omega | (have t := nleI c11; omega))
          have n13 : j2 < nn := by have t := nleI c11; rw [show (nI (j2)).toInt = ((j2 : Nat) : Int) from tn2075_ ()] at t; rw [show (nI (nn)).toInt = ((nn : Nat) : Int) from tn2072_ ()] at t; omega
          refine lv_iload hx hb dX6_takePairs_44 (lv_at hl 0 rfl) ?_
          refine lv_bipush (v := 20) hx hb dX6_takePairs_46 rfl ?_
          refine lv_icmp_ge (tgt := 160) hx hb dX6_takePairs_48 rfl (fun c14 => ?_) (fun c14 => ?_)
          · skip
            have t_c1 := eqI c1
            have t_hj10 := hj10
            have t_hinv := hinv.2.2.2
            have t_n13 := n13
            have t_c14 := leI c14
            have : ((-1) : Int32).toInt = -1 := qI_m1
            have : (20 : Int32).toInt = 20 := qI_20
            have t_n0 : (nI k).toInt = (k : Int) := tn2071_ ()
            have t_n1 : (nI nn).toInt = (nn : Int) := tn2072_ ()
            have t_n2 : (nI j2).toInt = (j2 : Int) := tn2075_ ()
            have tn2076_ : nIT k5 := fun _ => nI_toInt (by omega)
            have t_n3 : (nI k5).toInt = (k5 : Int) := tn2076_ ()
            exfalso; omega
          · skip
            have n15 : j2 < 20 := by have t := nleI c14; rw [show (nI (j2)).toInt = ((j2 : Nat) : Int) from tn2075_ ()] at t; have : (20 : Int32).toInt = 20 := qI_20; omega
            refine lv_aload_n hx hb dX6_takePairs_51 rfl (lv_at hl 1 rfl) ?_
            refine va_get (D := (dC, dI)) (ci := 6) (v := .int y3) (C := RX6) (T := TX6) (N := 7) hx hb hg inG6 hown hK.1 hP 0 rfl rfl 3 (Nat.le_of_ble_eq_true rfl) (hg _ wt_279) (fun _ h9 => h9) rfl dX6_takePairs_52 ?_
            refine lv_if_ne (tgt := 160) hx hb dX6_takePairs_55 rfl (fun c16 => ?_) (fun c16 => ?_)
            · skip
              obtain ⟨hP9, hD9⟩ := va_sub2 (ws' := (([(h0, .inr (6, [.ref la, .ref si, .ref ce, .int y3, .int (nI k5), .ref fi, .ref se])), (la, .inl (G 0, 4, .inl fl)), (si, .inl (G 0, 4, .inl fz)), (ce, .inl (G 4, 4, .inr (.inr (.inr (.inr (fun ir => if ir < 4 then some (rc ir) else none)))))), (fi, .inl (G 0, 20, .inl g6)), (se, .inl (G 0, 20, .inl g7))] : va_W) ++ ((((List.range 4).map (fun iq => (rc iq, .inl (G 0, 40, .inl (F iq))))) : va_W) ++ []))) hP hD [0, 1, 2, 3, 4, 5, 6, 7, 8, 9] (by decide +kernel) rfl
              refine W.widen (k := 0) (n := 0) (Nat.le_of_ble_eq_true rfl) (Nat.le_of_ble_eq_true rfl) ?_
              have tn2077_ : nIT k5 := fun _ => nI_toInt (by first | omega | (have t_c1 := eqI c1; have t_hj10 := hj10; have t_hinv := hinv.2.2.2; have t_n13 := n13; have t_n15 := n15; have t_c16 := neI c16; have tqz_ := qz0_; omega))
              exact W.vret hx hb hr (fun t ht hW => ⟨⟨(y3, k5, g6, g7), rfl, (by have t_c1 := eqI c1; have t_hj10 := hj10; have t_hinv := hinv.2.2.2; have t_n13 := n13; have t_n15 := n15; have t_c16 := neI c16; have tqz_ := qz0_; have tnb_ := nib4 tn2071_ tn2072_ tn2075_ tn2077_; have tqz_ := qz41_; have hk : _ = tpK (fl k) lane (fz k).toInt x1.toInt nn := (by rcases hinv.2.2.1 with g9 | g9; (exact tp_end g9.2.1 g9.2.2.1 g9.2.2.2.1 g9.2.2.2.2 hlne (by first | omega | (exfalso; exact absurd g9.1 (by first | with_reducible assumption | assumption)))); exact g9.2); exact ⟨hk, hinv.1, hinv.2.1, by omega⟩), ⟨by rw [ht]; exact hP9, hD9⟩⟩, hS.F ht⟩) hS.2.2 dX6_takePairs_160
            · skip
              refine lv_iload_n hx hb dX6_takePairs_58 rfl (lv_at hl 4 rfl) ?_
              refine lv_i2l (v := x1.toInt64) hx hb dX6_takePairs_59 rfl ?_
              refine lv_ldc2 (v := 2) hx hb hown (hg _ wt_855) dX6_takePairs_60 ?_
              refine lv_iload hx hb dX6_takePairs_63 (lv_at hl 0 rfl) ?_
              refine lv_i2l (v := (nI j2).toInt64) hx hb dX6_takePairs_65 rfl ?_
              refine lv_lmul hx hb dX6_takePairs_66 ?_
              refine lv_ladd hx hb dX6_takePairs_67 ?_
              refine lv_topl (fun v17 ev17 => ?_)
              refine lv_lstore (lv' := [(6, .long v17), (5, .int (nI j2)), (0, .ref h0), (1, .int (nI k)), (2, .int lane), (3, .int x1), (4, .int (nI nn))]) hx hb dX6_takePairs_68 hl (by decide) rfl (fun ls hl => ?_)
              refine lv_aload_n hx hb dX6_takePairs_70 rfl (lv_at hl 2 rfl) ?_
              refine lv_aload_n hx hb dX6_takePairs_71 rfl (lv_at hl 2 rfl) ?_
              refine lv_iload_n hx hb dX6_takePairs_72 rfl (lv_at hl 3 rfl) ?_
              refine lv_lload hx hb dX6_takePairs_73 (lv_at hl 0 rfl) ?_
              have hPc := hP.sub (ws' := [(h0, .inr (6, [.ref la, .ref si, .ref ce, .int y3, .int (nI k5), .ref fi, .ref se])), (la, .inl (G 0, 4, .inl fl)), (si, .inl (G 0, 4, .inl fz))]) [0, 1, 2] rfl
              have tn2078_ : nIT k5 := fun _ => nI_toInt (by first | omega | (have t_c1 := eqI c1; have t_hj10 := hj10; have t_hinv := hinv.2.2.2; have t_n13 := n13; have t_n15 := n15; have t_c16 := eqI c16; have tqz_ := qz0_; omega))
              refine va_calli (va_runV (As := [.int (nI k), .long v17]) (rest := [.ref h0]) ⟨hx, hb, hml, hown, hg⟩ (c_X6_faultAt l dC dI G _ h0 la si ce fi se k y3 (nI k5) v17 fl fz hk) (kwV hg mfX6_faultAt wt_846 ⟨Nat.le_of_ble_eq_true rfl, Nat.le_of_ble_eq_true rfl⟩) (preVR hK hPc (ci := 6) (r := (RX6, TX6, 7)) rfl rfl) rfl rfl hl.1 rfl (lv_room (Nat.le_of_ble_eq_true rfl)) dX6_takePairs_75 ⟨Nat.le_of_ble_eq_true rfl, Nat.le_of_ble_eq_true rfl⟩) hS (fun q h1 h2 => absurd h2 (Nat.not_le.mpr h1)) (fun q h => hA q (Nat.le_trans hS.1 h)) (fun r18 ur18 t H1 locs ht hvm w19 hB hz1 hk1 hS => ?_)
              have hP := keepR hP hk1
              obtain ⟨w19, w19x⟩ := w19
              refine va_put (D := (dC, dI)) (ci := 6) (v := .int r18) (ty := .int) (C := RX6) (T := TX6) (N := 7) hx hb hg inG6 tyX6 tyX6_ok nmX6 hown hK.1 hP hD hS 0 rfl rfl 3 (Nat.le_of_ble_eq_true rfl) (hg _ wt_279) (fun _ h9 => h9) rfl (by decide +kernel) rfl rfl (Nat.le_of_ble_eq_true rfl) dX6_takePairs_78 (fun H locs hP hD hS => ?_)
              obtain ⟨hP, hD⟩ := va_rls (ws' := (([(h0, .inr (6, [.ref la, .ref si, .ref ce, .int r18, .int (nI k5), .ref fi, .ref se])), (la, .inl (G 0, 4, .inl fl)), (si, .inl (G 0, 4, .inl fz)), (ce, .inl (G 4, 4, .inr (.inr (.inr (.inr (fun ir => if ir < 4 then some (rc ir) else none)))))), (fi, .inl (G 0, 20, .inl g6)), (se, .inl (G 0, 20, .inl g7))] : va_W) ++ ((((List.range 4).map (fun iq => (rc iq, .inl (G 0, 40, .inl (F iq))))) : va_W) ++ []))) hP hD rfl
              refine lv_aload_n hx hb dX6_takePairs_81 rfl (lv_at hl 2 rfl) ?_
              refine va_get (D := (dC, dI)) (ci := 6) (v := .int r18) (C := RX6) (T := TX6) (N := 7) hx hb hg inG6 hown hK.1 hP 0 rfl rfl 3 (Nat.le_of_ble_eq_true rfl) (hg _ wt_279) (fun _ h9 => h9) rfl dX6_takePairs_82 ?_
              refine lv_if_ne (tgt := 101) hx hb dX6_takePairs_85 rfl (fun c20 => ?_) (fun c20 => ?_)
              · skip
                refine lv_aload_n hx hb dX6_takePairs_101 rfl (lv_at hl 2 rfl) ?_
                refine va_get (D := (dC, dI)) (ci := 6) (v := .int r18) (C := RX6) (T := TX6) (N := 7) hx hb hg inG6 hown hK.1 hP 0 rfl rfl 3 (Nat.le_of_ble_eq_true rfl) (hg _ wt_279) (fun _ h9 => h9) rfl dX6_takePairs_102 ?_
                refine lv_if_ne (tgt := 154) hx hb dX6_takePairs_105 rfl (fun c21 => ?_) (fun c21 => ?_)
                · skip
                  refine lv_iinc (v := nI (j2 + 1)) (lv' := [(5, .int (nI (j2 + 1))), (6, .long v17), (0, .ref h0), (1, .int (nI k)), (2, .int lane), (3, .int x1), (4, .int (nI nn))]) hx hb dX6_takePairs_154 hl (k := 1) rfl (by rw [show Int32.ofInt 1 = nI 1 from by decide]; exact nI_add _ _) (by decide) rfl (fun ls hl => ?_)
                  refine lv_goto (tgt := 37) hx hb dX6_takePairs_157 rfl ?_
                  exact ih37_8 (j2 + 1) (by omega) (by omega) r18 k5 g6 g7 _ _ ⟨hinv.1, hinv.2.1, Or.inr ⟨by assumption, (by have ea : v17.toInt = x1.toInt + 2 * (j2 : Int) := (by rw [ev17]; exact at64 x1 (by (have t_c1 := eqI c1; have t_hj10 := hj10; have t_hinv := hinv.2.2.2; have t_n13 := n13; have t_n15 := n15; have t_c16 := eqI c16; have t_c20 := neI c20; have t_c21 := neI c21; have tqz_ := qz0_; have tnb_ := nib4 tn2071_ tn2072_ tn2075_ tn2078_; have tqz_ := qz41_; omega))); have eb : (v17 + 1).toInt = v17.toInt + 1 := l1_e (by have := x1.toInt_lt; have := x1.le_toInt; (have t_c1 := eqI c1; have t_hj10 := hj10; have t_hinv := hinv.2.2.2; have t_n13 := n13; have t_n15 := n15; have t_c16 := eqI c16; have t_c20 := neI c20; have t_c21 := neI c21; have tqz_ := qz0_; have tnb_ := nib4 tn2071_ tn2072_ tn2075_ tn2078_; have tqz_ := qz41_; omega)) (by have := x1.toInt_lt; have := x1.le_toInt; (have t_c1 := eqI c1; have t_hj10 := hj10; have t_hinv := hinv.2.2.2; have t_n13 := n13; have t_n15 := n15; have t_c16 := eqI c16; have t_c20 := neI c20; have t_c21 := neI c21; have tqz_ := qz0_; have tnb_ := nib4 tn2071_ tn2072_ tn2075_ tn2078_; have tqz_ := qz41_; omega)); have g9 := (hinv.2.2.1.resolve_right (fun h9 => h9.1 (by first | with_reducible assumption | assumption))); exact tp_stop g9.2.1 g9.2.2.1 g9.2.2.2.1 g9.2.2.2.2 hlne (fa1 w19 (by first | with_reducible assumption | assumption) (by (have t_c1 := eqI c1; have t_hj10 := hj10; have t_hinv := hinv.2.2.2; have t_n13 := n13; have t_n15 := n15; have t_c16 := eqI c16; have t_c20 := neI c20; have t_c21 := neI c21; have tqz_ := qz0_; have tnb_ := nib4 tn2071_ tn2072_ tn2075_ tn2078_; have tqz_ := qz41_; omega))))⟩, (by have t_c1 := eqI c1; have t_hj10 := hj10; have t_hinv := hinv.2.2.2; have t_n13 := n13; have t_n15 := n15; have t_c16 := eqI c16; have t_c20 := neI c20; have t_c21 := neI c21; have tqz_ := qz0_; have tnb_ := nib4 tn2071_ tn2072_ tn2075_ tn2078_; have tqz_ := qz41_; omega), (by have t_c1 := eqI c1; have t_hj10 := hj10; have t_hinv := hinv.2.2.2; have t_n13 := n13; have t_n15 := n15; have t_c16 := eqI c16; have t_c20 := neI c20; have t_c21 := neI c21; have tqz_ := qz0_; have tnb_ := nib4 tn2071_ tn2072_ tn2075_ tn2078_; have tqz_ := qz41_; omega)⟩ hP hD hS ls (lv_sub hl [0, 2, 3, 4, 5, 6] rfl)
                · skip
                  have t_c1 := eqI c1
                  have t_hj10 := hj10
                  have t_hinv := hinv.2.2.2
                  have t_n13 := n13
                  have t_n15 := n15
                  have t_c16 := eqI c16
                  have t_c20 := neI c20
                  have t_c21 := eqI c21
                  have : ((-1) : Int32).toInt = -1 := qI_m1
                  have : (0 : Int32).toInt = 0 := qI_0
                  have t_n0 : (nI k).toInt = (k : Int) := tn2071_ ()
                  have t_n1 : (nI nn).toInt = (nn : Int) := tn2072_ ()
                  have t_n2 : (nI j2).toInt = (j2 : Int) := tn2075_ ()
                  have t_n3 : (nI k5).toInt = (k5 : Int) := tn2078_ ()
                  exfalso; omega
              · skip
                have b22 := fz0 w19 c20
                refine lv_aload_n hx hb dX6_takePairs_88 rfl (lv_at hl 2 rfl) ?_
                refine lv_aload_n hx hb dX6_takePairs_89 rfl (lv_at hl 2 rfl) ?_
                refine lv_iload_n hx hb dX6_takePairs_90 rfl (lv_at hl 3 rfl) ?_
                refine lv_lload hx hb dX6_takePairs_91 (lv_at hl 0 rfl) ?_
                refine lv_lconst (v := 1) hx hb dX6_takePairs_93 (by decide) ?_
                refine lv_ladd hx hb dX6_takePairs_94 ?_
                have hPc := hP.sub (ws' := [(h0, .inr (6, [.ref la, .ref si, .ref ce, .int r18, .int (nI k5), .ref fi, .ref se])), (la, .inl (G 0, 4, .inl fl)), (si, .inl (G 0, 4, .inl fz))]) [0, 1, 2] rfl
                refine va_calli (va_runV (As := [.int (nI k), .long (v17 + 1)]) (rest := [.ref h0]) ⟨hx, hb, hml, hown, hg⟩ (c_X6_faultAt l dC dI G _ h0 la si ce fi se k r18 (nI k5) (v17 + 1) fl fz hk) (kwV hg mfX6_faultAt wt_846 ⟨Nat.le_of_ble_eq_true rfl, Nat.le_of_ble_eq_true rfl⟩) (preVR hK hPc (ci := 6) (r := (RX6, TX6, 7)) rfl rfl) rfl rfl hl.1 rfl (lv_room (Nat.le_of_ble_eq_true rfl)) dX6_takePairs_95 ⟨Nat.le_of_ble_eq_true rfl, Nat.le_of_ble_eq_true rfl⟩) hS (fun q h1 h2 => absurd h2 (Nat.not_le.mpr h1)) (fun q h => hA q (Nat.le_trans hS.1 h)) (fun r23 ur23 t H1 locs ht hvm w24 hB hz1 hk1 hS => ?_)
                have hP := keepR hP hk1
                obtain ⟨w24, w24x⟩ := w24
                refine va_put (D := (dC, dI)) (ci := 6) (v := .int r23) (ty := .int) (C := RX6) (T := TX6) (N := 7) hx hb hg inG6 tyX6 tyX6_ok nmX6 hown hK.1 hP hD hS 0 rfl rfl 3 (Nat.le_of_ble_eq_true rfl) (hg _ wt_279) (fun _ h9 => h9) rfl (by decide +kernel) rfl rfl (Nat.le_of_ble_eq_true rfl) dX6_takePairs_98 (fun H locs hP hD hS => ?_)
                obtain ⟨hP, hD⟩ := va_rls (ws' := (([(h0, .inr (6, [.ref la, .ref si, .ref ce, .int r23, .int (nI k5), .ref fi, .ref se])), (la, .inl (G 0, 4, .inl fl)), (si, .inl (G 0, 4, .inl fz)), (ce, .inl (G 4, 4, .inr (.inr (.inr (.inr (fun ir => if ir < 4 then some (rc ir) else none)))))), (fi, .inl (G 0, 20, .inl g6)), (se, .inl (G 0, 20, .inl g7))] : va_W) ++ ((((List.range 4).map (fun iq => (rc iq, .inl (G 0, 40, .inl (F iq))))) : va_W) ++ []))) hP hD rfl
                refine lv_aload_n hx hb dX6_takePairs_101 rfl (lv_at hl 2 rfl) ?_
                refine va_get (D := (dC, dI)) (ci := 6) (v := .int r23) (C := RX6) (T := TX6) (N := 7) hx hb hg inG6 hown hK.1 hP 0 rfl rfl 3 (Nat.le_of_ble_eq_true rfl) (hg _ wt_279) (fun _ h9 => h9) rfl dX6_takePairs_102 ?_
                refine lv_if_ne (tgt := 154) hx hb dX6_takePairs_105 rfl (fun c25 => ?_) (fun c25 => ?_)
                · skip
                  refine lv_iinc (v := nI (j2 + 1)) (lv' := [(5, .int (nI (j2 + 1))), (6, .long v17), (0, .ref h0), (1, .int (nI k)), (2, .int lane), (3, .int x1), (4, .int (nI nn))]) hx hb dX6_takePairs_154 hl (k := 1) rfl (by rw [show Int32.ofInt 1 = nI 1 from by decide]; exact nI_add _ _) (by decide) rfl (fun ls hl => ?_)
                  refine lv_goto (tgt := 37) hx hb dX6_takePairs_157 rfl ?_
                  exact ih37_8 (j2 + 1) (by omega) (by omega) r23 k5 g6 g7 _ _ ⟨hinv.1, hinv.2.1, Or.inr ⟨by assumption, (by have ea : v17.toInt = x1.toInt + 2 * (j2 : Int) := (by rw [ev17]; exact at64 x1 (by (have t_c1 := eqI c1; have t_hj10 := hj10; have t_hinv := hinv.2.2.2; have t_n13 := n13; have t_n15 := n15; have t_c16 := eqI c16; have t_b22 := b22; have t_c25 := neI c25; have tqz_ := qz0_; have tnb_ := nib4 tn2071_ tn2072_ tn2075_ tn2078_; have tqz_ := qz41_; omega))); have eb : (v17 + 1).toInt = v17.toInt + 1 := l1_e (by have := x1.toInt_lt; have := x1.le_toInt; (have t_c1 := eqI c1; have t_hj10 := hj10; have t_hinv := hinv.2.2.2; have t_n13 := n13; have t_n15 := n15; have t_c16 := eqI c16; have t_b22 := b22; have t_c25 := neI c25; have tqz_ := qz0_; have tnb_ := nib4 tn2071_ tn2072_ tn2075_ tn2078_; have tqz_ := qz41_; omega)) (by have := x1.toInt_lt; have := x1.le_toInt; (have t_c1 := eqI c1; have t_hj10 := hj10; have t_hinv := hinv.2.2.2; have t_n13 := n13; have t_n15 := n15; have t_c16 := eqI c16; have t_b22 := b22; have t_c25 := neI c25; have tqz_ := qz0_; have tnb_ := nib4 tn2071_ tn2072_ tn2075_ tn2078_; have tqz_ := qz41_; omega)); have g9 := (hinv.2.2.1.resolve_right (fun h9 => h9.1 (by first | with_reducible assumption | assumption))); exact tp_stop g9.2.1 g9.2.2.1 g9.2.2.2.1 g9.2.2.2.2 hlne (fa1 w24 (by first | with_reducible assumption | assumption) (by (have t_c1 := eqI c1; have t_hj10 := hj10; have t_hinv := hinv.2.2.2; have t_n13 := n13; have t_n15 := n15; have t_c16 := eqI c16; have t_b22 := b22; have t_c25 := neI c25; have tqz_ := qz0_; have tnb_ := nib4 tn2071_ tn2072_ tn2075_ tn2078_; have tqz_ := qz41_; omega))))⟩, (by have t_c1 := eqI c1; have t_hj10 := hj10; have t_hinv := hinv.2.2.2; have t_n13 := n13; have t_n15 := n15; have t_c16 := eqI c16; have t_b22 := b22; have t_c25 := neI c25; have tqz_ := qz0_; have tnb_ := nib4 tn2071_ tn2072_ tn2075_ tn2078_; have tqz_ := qz41_; omega), (by have t_c1 := eqI c1; have t_hj10 := hj10; have t_hinv := hinv.2.2.2; have t_n13 := n13; have t_n15 := n15; have t_c16 := eqI c16; have t_b22 := b22; have t_c25 := neI c25; have tqz_ := qz0_; have tnb_ := nib4 tn2071_ tn2072_ tn2075_ tn2078_; have tqz_ := qz41_; omega)⟩ hP hD hS ls (lv_sub hl [0, 2, 3, 4, 5, 6] rfl)
                · skip
                  have b26 := fz0 w24 c25
                  refine lv_aload_n hx hb dX6_takePairs_108 rfl (lv_at hl 2 rfl) ?_
                  refine va_get (D := (dC, dI)) (ci := 6) (v := .ref fi) (C := RX6) (T := TX6) (N := 7) hx hb hg inG6 hown hK.1 hP 0 rfl rfl 5 (Nat.le_of_ble_eq_true rfl) (hg _ wt_283) (fun _ h9 => h9) rfl dX6_takePairs_109 ?_
                  refine lv_iload hx hb dX6_takePairs_112 (lv_at hl 1 rfl) ?_
                  refine lv_aload_n hx hb dX6_takePairs_114 rfl (lv_at hl 2 rfl) ?_
                  refine va_get (D := (dC, dI)) (ci := 6) (v := .ref ce) (C := RX6) (T := TX6) (N := 7) hx hb hg inG6 hown hK.1 hP 0 rfl rfl 2 (Nat.le_of_ble_eq_true rfl) (hg _ wt_278) (fun _ h9 => h9) rfl dX6_takePairs_115 ?_
                  refine lv_iload_n hx hb dX6_takePairs_118 rfl (lv_at hl 3 rfl) ?_
                  refine va_aldA hx hb hK.1 hP 3 4 rfl rfl (vp_in_nI (by first | omega | (have t_c1 := eqI c1; have t_hj10 := hj10; have t_hinv := hinv.2.2.2; have t_n13 := n13; have t_n15 := n15; have t_c16 := eqI c16; have t_b22 := b22; have t_b26 := b26; have tqz_ := qz0_; have tnb_ := nib4 tn2071_ tn2072_ tn2075_ tn2078_; omega)) (by decide)) dX6_takePairs_119 ?_
                  refine lv_cgv (y := .ref (rc k)) (rowref (by first | omega | (have t_c1 := eqI c1; have t_hj10 := hj10; have t_hinv := hinv.2.2.2; have t_n13 := n13; have t_n15 := n15; have t_c16 := eqI c16; have t_b22 := b22; have t_b26 := b26; have tqz_ := qz0_; have tnb_ := nib4 tn2071_ tn2072_ tn2075_ tn2078_; omega)) (by decide)) ?_
                  refine lv_lload hx hb dX6_takePairs_120 (lv_at hl 0 rfl) ?_
                  refine lv_l2i (v := _) hx hb dX6_takePairs_122 rfl ?_
                  refine lv_topi (fun v27 ev27 => ?_)
                  have hz28 := l2i_in (x := v17) (by have t_c1 := eqI c1; have t_hj10 := hj10; have t_hinv := hinv.2.2.2; have t_n13 := n13; have t_n15 := n15; have t_c16 := eqI c16; have t_b22 := b22; have t_b26 := b26; have tqz_ := qz0_; have tnb_ := nib4 tn2071_ tn2072_ tn2075_ tn2078_; omega) (by have t_c1 := eqI c1; have t_hj10 := hj10; have t_hinv := hinv.2.2.2; have t_n13 := n13; have t_n15 := n15; have t_c16 := eqI c16; have t_b22 := b22; have t_b26 := b26; have tqz_ := qz0_; have tnb_ := nib4 tn2071_ tn2072_ tn2075_ tn2078_; omega)
                  rw [← ev27] at hz28
                  refine va_iald hx hb hK.1 (blk_P (j := k) hP (by first | omega | (have t_c1 := eqI c1; have t_hj10 := hj10; have t_hinv := hinv.2.2.2; have t_n13 := n13; have t_n15 := n15; have t_c16 := eqI c16; have t_b22 := b22; have t_b26 := b26; have t_hz28 := hz28; have tqz_ := qz0_; have tnb_ := nib4 tn2071_ tn2072_ tn2075_ tn2078_; omega))) 0 0 rfl rfl (vp_in_iff.mpr (by have t_c1 := eqI c1; have t_hj10 := hj10; have t_hinv := hinv.2.2.2; have t_n13 := n13; have t_n15 := n15; have t_c16 := eqI c16; have t_b22 := b22; have t_b26 := b26; have t_hz28 := hz28; have tqz_ := qz0_; have tnb_ := nib4 tn2071_ tn2072_ tn2075_ tn2078_; constructor <;> omega)) dX6_takePairs_123 ?_
                  refine va_iast hx hb hK.1 hP hD hS 4 0 rfl rfl (vp_in_nI (by first | omega | (have t_c1 := eqI c1; have t_hj10 := hj10; have t_hinv := hinv.2.2.2; have t_n13 := n13; have t_n15 := n15; have t_c16 := eqI c16; have t_b22 := b22; have t_b26 := b26; have t_hz28 := hz28; have tqz_ := qz0_; have tnb_ := nib4 tn2071_ tn2072_ tn2075_ tn2078_; omega)) (by decide)) dX6_takePairs_124 (fun H locs hP hD hS => ?_)
                  rw [nI_clamp (by omega)] at hP hD
                  obtain ⟨hP, hD⟩ := va_rls (ws' := (([(h0, .inr (6, [.ref la, .ref si, .ref ce, .int r23, .int (nI k5), .ref fi, .ref se])), (la, .inl (G 0, 4, .inl fl)), (si, .inl (G 0, 4, .inl fz)), (ce, .inl (G 4, 4, .inr (.inr (.inr (.inr (fun ir => if ir < 4 then some (rc ir) else none)))))), (fi, .inl (G 0, 20, .inl (upd g6 j2 (F k v27.toNatClampNeg)))), (se, .inl (G 0, 20, .inl g7))] : va_W) ++ ((((List.range 4).map (fun iq => (rc iq, .inl (G 0, 40, .inl (F iq))))) : va_W) ++ []))) hP hD rfl
                  refine lv_aload_n hx hb dX6_takePairs_125 rfl (lv_at hl 2 rfl) ?_
                  refine va_get (D := (dC, dI)) (ci := 6) (v := .ref se) (C := RX6) (T := TX6) (N := 7) hx hb hg inG6 hown hK.1 hP 0 rfl rfl 6 (Nat.le_of_ble_eq_true rfl) (hg _ wt_285) (fun _ h9 => h9) rfl dX6_takePairs_126 ?_
                  refine lv_iload hx hb dX6_takePairs_129 (lv_at hl 1 rfl) ?_
                  refine lv_aload_n hx hb dX6_takePairs_131 rfl (lv_at hl 2 rfl) ?_
                  refine va_get (D := (dC, dI)) (ci := 6) (v := .ref ce) (C := RX6) (T := TX6) (N := 7) hx hb hg inG6 hown hK.1 hP 0 rfl rfl 2 (Nat.le_of_ble_eq_true rfl) (hg _ wt_278) (fun _ h9 => h9) rfl dX6_takePairs_132 ?_
                  refine lv_iload_n hx hb dX6_takePairs_135 rfl (lv_at hl 3 rfl) ?_
                  refine va_aldA hx hb hK.1 hP 3 4 rfl rfl (vp_in_nI (by first | omega | (have t_c1 := eqI c1; have t_hj10 := hj10; have t_hinv := hinv.2.2.2; have t_n13 := n13; have t_n15 := n15; have t_c16 := eqI c16; have t_b22 := b22; have t_b26 := b26; have t_hz28 := hz28; have tqz_ := qz0_; have tnb_ := nib4 tn2071_ tn2072_ tn2075_ tn2078_; omega)) (by decide)) dX6_takePairs_136 ?_
                  refine lv_cgv (y := .ref (rc k)) (rowref (by first | omega | (have t_c1 := eqI c1; have t_hj10 := hj10; have t_hinv := hinv.2.2.2; have t_n13 := n13; have t_n15 := n15; have t_c16 := eqI c16; have t_b22 := b22; have t_b26 := b26; have t_hz28 := hz28; have tqz_ := qz0_; have tnb_ := nib4 tn2071_ tn2072_ tn2075_ tn2078_; omega)) (by decide)) ?_
                  refine lv_lload hx hb dX6_takePairs_137 (lv_at hl 0 rfl) ?_
                  refine lv_l2i (v := _) hx hb dX6_takePairs_139 rfl ?_
                  refine lv_topi (fun v29 ev29 => ?_)
                  have hz30 := l2i_in (x := v17) (by have t_c1 := eqI c1; have t_hj10 := hj10; have t_hinv := hinv.2.2.2; have t_n13 := n13; have t_n15 := n15; have t_c16 := eqI c16; have t_b22 := b22; have t_b26 := b26; have t_hz28 := hz28; have tqz_ := qz0_; have tnb_ := nib4 tn2071_ tn2072_ tn2075_ tn2078_; omega) (by have t_c1 := eqI c1; have t_hj10 := hj10; have t_hinv := hinv.2.2.2; have t_n13 := n13; have t_n15 := n15; have t_c16 := eqI c16; have t_b22 := b22; have t_b26 := b26; have t_hz28 := hz28; have tqz_ := qz0_; have tnb_ := nib4 tn2071_ tn2072_ tn2075_ tn2078_; omega)
                  rw [← ev29] at hz30
                  refine lv_iconst (v := 1) hx hb dX6_takePairs_140 rfl ?_
                  refine lv_iadd hx hb dX6_takePairs_141 ?_
                  have hi31 : (v29 + 1).toInt = v29.toInt + 1 := i1_in (by have t_c1 := eqI c1; have t_hj10 := hj10; have t_hinv := hinv.2.2.2; have t_n13 := n13; have t_n15 := n15; have t_c16 := eqI c16; have t_b22 := b22; have t_b26 := b26; have t_hz28 := hz28; have t_hz30 := hz30; have tqz_ := qz0_; have tnb_ := nib4 tn2071_ tn2072_ tn2075_ tn2078_; omega) (by have t_c1 := eqI c1; have t_hj10 := hj10; have t_hinv := hinv.2.2.2; have t_n13 := n13; have t_n15 := n15; have t_c16 := eqI c16; have t_b22 := b22; have t_b26 := b26; have t_hz28 := hz28; have t_hz30 := hz30; have tqz_ := qz0_; have tnb_ := nib4 tn2071_ tn2072_ tn2075_ tn2078_; omega)
                  have hl32 := l1_in (x := v17) (by have t_c1 := eqI c1; have t_hj10 := hj10; have t_hinv := hinv.2.2.2; have t_n13 := n13; have t_n15 := n15; have t_c16 := eqI c16; have t_b22 := b22; have t_b26 := b26; have t_hz28 := hz28; have t_hz30 := hz30; have tqz_ := qz0_; have tnb_ := nib4 tn2071_ tn2072_ tn2075_ tn2078_; omega) (by have t_c1 := eqI c1; have t_hj10 := hj10; have t_hinv := hinv.2.2.2; have t_n13 := n13; have t_n15 := n15; have t_c16 := eqI c16; have t_b22 := b22; have t_b26 := b26; have t_hz28 := hz28; have t_hz30 := hz30; have tqz_ := qz0_; have tnb_ := nib4 tn2071_ tn2072_ tn2075_ tn2078_; omega) (show (v17 + 1).toInt < (fz k).toInt by have t_c1 := eqI c1; have t_hj10 := hj10; have t_hinv := hinv.2.2.2; have t_n13 := n13; have t_n15 := n15; have t_c16 := eqI c16; have t_b22 := b22; have t_b26 := b26; have t_hz28 := hz28; have t_hz30 := hz30; have tqz_ := qz0_; have tnb_ := nib4 tn2071_ tn2072_ tn2075_ tn2078_; omega)
                  refine va_iald hx hb hK.1 (blk_P (j := k) hP (by first | omega | (have t_c1 := eqI c1; have t_hj10 := hj10; have t_hinv := hinv.2.2.2; have t_n13 := n13; have t_n15 := n15; have t_c16 := eqI c16; have t_b22 := b22; have t_b26 := b26; have t_hz28 := hz28; have t_hz30 := hz30; have t_hi31 := hi31; have t_hl32 := hl32; have tqz_ := qz0_; have tnb_ := nib4 tn2071_ tn2072_ tn2075_ tn2078_; omega))) 0 0 rfl rfl (vp_in_iff.mpr (by have t_c1 := eqI c1; have t_hj10 := hj10; have t_hinv := hinv.2.2.2; have t_n13 := n13; have t_n15 := n15; have t_c16 := eqI c16; have t_b22 := b22; have t_b26 := b26; have t_hz28 := hz28; have t_hz30 := hz30; have t_hi31 := hi31; have t_hl32 := hl32; have tqz_ := qz0_; have tnb_ := nib4 tn2071_ tn2072_ tn2075_ tn2078_; constructor <;> omega)) dX6_takePairs_142 ?_
                  refine va_iast hx hb hK.1 hP hD hS 5 0 rfl rfl (vp_in_nI (by first | omega | (have t_c1 := eqI c1; have t_hj10 := hj10; have t_hinv := hinv.2.2.2; have t_n13 := n13; have t_n15 := n15; have t_c16 := eqI c16; have t_b22 := b22; have t_b26 := b26; have t_hz28 := hz28; have t_hz30 := hz30; have t_hi31 := hi31; have t_hl32 := hl32; have tqz_ := qz0_; have tnb_ := nib4 tn2071_ tn2072_ tn2075_ tn2078_; omega)) (by decide)) dX6_takePairs_143 (fun H locs hP hD hS => ?_)
                  rw [nI_clamp (by omega)] at hP hD
                  obtain ⟨hP, hD⟩ := va_rls (ws' := (([(h0, .inr (6, [.ref la, .ref si, .ref ce, .int r23, .int (nI k5), .ref fi, .ref se])), (la, .inl (G 0, 4, .inl fl)), (si, .inl (G 0, 4, .inl fz)), (ce, .inl (G 4, 4, .inr (.inr (.inr (.inr (fun ir => if ir < 4 then some (rc ir) else none)))))), (fi, .inl (G 0, 20, .inl (upd g6 j2 (F k v27.toNatClampNeg)))), (se, .inl (G 0, 20, .inl (upd g7 j2 (F k (v29 + 1).toNatClampNeg))))] : va_W) ++ ((((List.range 4).map (fun iq => (rc iq, .inl (G 0, 40, .inl (F iq))))) : va_W) ++ []))) hP hD rfl
                  refine lv_aload_n hx hb dX6_takePairs_144 rfl (lv_at hl 2 rfl) ?_
                  refine lv_dup hx hb dX6_takePairs_145 rfl ?_
                  refine va_get (D := (dC, dI)) (ci := 6) (v := .int (nI k5)) (C := RX6) (T := TX6) (N := 7) hx hb hg inG6 hown hK.1 hP 0 rfl rfl 4 (Nat.le_of_ble_eq_true rfl) (hg _ wt_281) (fun _ h9 => h9) rfl dX6_takePairs_146 ?_
                  refine lv_iconst (v := 1) hx hb dX6_takePairs_149 rfl ?_
                  refine lv_iadd hx hb dX6_takePairs_150 ?_
                  refine lv_cg (y := nI (k5 + 1)) (by rw [show (1 : Int32) = nI 1 from rfl]; exact nI_add _ _) ?_
                  refine va_put (D := (dC, dI)) (ci := 6) (v := .int (nI (k5 + 1))) (ty := .int) (C := RX6) (T := TX6) (N := 7) hx hb hg inG6 tyX6 tyX6_ok nmX6 hown hK.1 hP hD hS 0 rfl rfl 4 (Nat.le_of_ble_eq_true rfl) (hg _ wt_281) (fun _ h9 => h9) rfl (by decide +kernel) rfl rfl (Nat.le_of_ble_eq_true rfl) dX6_takePairs_151 (fun H locs hP hD hS => ?_)
                  obtain ⟨hP, hD⟩ := va_rls (ws' := (([(h0, .inr (6, [.ref la, .ref si, .ref ce, .int r23, .int (nI (k5 + 1)), .ref fi, .ref se])), (la, .inl (G 0, 4, .inl fl)), (si, .inl (G 0, 4, .inl fz)), (ce, .inl (G 4, 4, .inr (.inr (.inr (.inr (fun ir => if ir < 4 then some (rc ir) else none)))))), (fi, .inl (G 0, 20, .inl (upd g6 j2 (F k v27.toNatClampNeg)))), (se, .inl (G 0, 20, .inl (upd g7 j2 (F k (v29 + 1).toNatClampNeg))))] : va_W) ++ ((((List.range 4).map (fun iq => (rc iq, .inl (G 0, 40, .inl (F iq))))) : va_W) ++ []))) hP hD rfl
                  refine lv_iinc (v := nI (j2 + 1)) (lv' := [(5, .int (nI (j2 + 1))), (6, .long v17), (0, .ref h0), (1, .int (nI k)), (2, .int lane), (3, .int x1), (4, .int (nI nn))]) hx hb dX6_takePairs_154 hl (k := 1) rfl (by rw [show Int32.ofInt 1 = nI 1 from by decide]; exact nI_add _ _) (by decide) rfl (fun ls hl => ?_)
                  refine lv_goto (tgt := 37) hx hb dX6_takePairs_157 rfl ?_
                  exact ih37_8 (j2 + 1) (by omega) (by omega) r23 (k5 + 1) (upd g6 j2 (F k v27.toNatClampNeg)) (upd g7 j2 (F k (v29 + 1).toNatClampNeg)) _ _ (by have ea : v17.toInt = x1.toInt + 2 * (j2 : Int) := (by rw [ev17]; exact at64 x1 (by (have t_c1 := eqI c1; have t_hj10 := hj10; have t_hinv := hinv.2.2.2; have t_n13 := n13; have t_n15 := n15; have t_c16 := eqI c16; have t_b22 := b22; have t_b26 := b26; have t_hz28 := hz28; have t_hz30 := hz30; have t_hi31 := hi31; have t_hl32 := hl32; have tqz_ := qz0_; have tnb_ := nib4 tn2071_ tn2072_ tn2075_ tn2078_; have tqz_ := qz41_; omega))); have eb : (v17 + 1).toInt = v17.toInt + 1 := l1_e (by have := x1.toInt_lt; have := x1.le_toInt; (have t_c1 := eqI c1; have t_hj10 := hj10; have t_hinv := hinv.2.2.2; have t_n13 := n13; have t_n15 := n15; have t_c16 := eqI c16; have t_b22 := b22; have t_b26 := b26; have t_hz28 := hz28; have t_hz30 := hz30; have t_hi31 := hi31; have t_hl32 := hl32; have tqz_ := qz0_; have tnb_ := nib4 tn2071_ tn2072_ tn2075_ tn2078_; have tqz_ := qz41_; omega)) (by have := x1.toInt_lt; have := x1.le_toInt; (have t_c1 := eqI c1; have t_hj10 := hj10; have t_hinv := hinv.2.2.2; have t_n13 := n13; have t_n15 := n15; have t_c16 := eqI c16; have t_b22 := b22; have t_b26 := b26; have t_hz28 := hz28; have t_hz30 := hz30; have t_hi31 := hi31; have t_hl32 := hl32; have tqz_ := qz0_; have tnb_ := nib4 tn2071_ tn2072_ tn2075_ tn2078_; have tqz_ := qz41_; omega)); have g9 := (hinv.2.2.1.resolve_right (fun h9 => h9.1 (by first | with_reducible assumption | assumption))); have g8 := g9.2.1; refine ⟨?_, ?_, Or.inl ⟨by assumption, by (have t_c1 := eqI c1; have t_hj10 := hj10; have t_hinv := hinv.2.2.2; have t_n13 := n13; have t_n15 := n15; have t_c16 := eqI c16; have t_b22 := b22; have t_b26 := b26; have t_hz28 := hz28; have t_hz30 := hz30; have t_hi31 := hi31; have t_hl32 := hl32; have tqz_ := qz0_; have tnb_ := nib4 tn2071_ tn2072_ tn2075_ tn2078_; have tqz_ := qz41_; omega), fun h9 => absurd h9 (tp_ne w24 (by first | with_reducible assumption | assumption)), g9.2.2.2.1, ?_⟩, by (have t_c1 := eqI c1; have t_hj10 := hj10; have t_hinv := hinv.2.2.2; have t_n13 := n13; have t_n15 := n15; have t_c16 := eqI c16; have t_b22 := b22; have t_b26 := b26; have t_hz28 := hz28; have t_hz30 := hz30; have t_hi31 := hi31; have t_hl32 := hl32; have tqz_ := qz0_; have tnb_ := nib4 tn2071_ tn2072_ tn2075_ tn2078_; have tqz_ := qz41_; omega), by (have t_c1 := eqI c1; have t_hj10 := hj10; have t_hinv := hinv.2.2.2; have t_n13 := n13; have t_n15 := n15; have t_c16 := eqI c16; have t_b22 := b22; have t_b26 := b26; have t_hz28 := hz28; have t_hz30 := hz30; have t_hi31 := hi31; have t_hl32 := hl32; have tqz_ := qz0_; have tnb_ := nib4 tn2071_ tn2072_ tn2075_ tn2078_; have tqz_ := qz41_; omega)⟩; (have q1 := tp_put (F := F) (k := k) (c := 0) (x := v27) (fun q9 h9 => hinv.1 q9 (by (have t_c1 := eqI c1; have t_hj10 := hj10; have t_hinv := hinv.2.2.2; have t_n13 := n13; have t_n15 := n15; have t_c16 := eqI c16; have t_b22 := b22; have t_b26 := b26; have t_hz28 := hz28; have t_hz30 := hz30; have t_hi31 := hi31; have t_hl32 := hl32; have tqz_ := qz0_; have tnb_ := nib4 tn2071_ tn2072_ tn2075_ tn2078_; have tqz_ := qz41_; omega))) (show _ = x1.toInt + 2 * (j2 : Int) + 0 by (have t_c1 := eqI c1; have t_hj10 := hj10; have t_hinv := hinv.2.2.2; have t_n13 := n13; have t_n15 := n15; have t_c16 := eqI c16; have t_b22 := b22; have t_b26 := b26; have t_hz28 := hz28; have t_hz30 := hz30; have t_hi31 := hi31; have t_hl32 := hl32; have tqz_ := qz0_; have tnb_ := nib4 tn2071_ tn2072_ tn2075_ tn2078_; have tqz_ := qz41_; omega)); exact fun q9 h9 => q1 q9 (by (have t_c1 := eqI c1; have t_hj10 := hj10; have t_hinv := hinv.2.2.2; have t_n13 := n13; have t_n15 := n15; have t_c16 := eqI c16; have t_b22 := b22; have t_b26 := b26; have t_hz28 := hz28; have t_hz30 := hz30; have t_hi31 := hi31; have t_hl32 := hl32; have tqz_ := qz0_; have tnb_ := nib4 tn2071_ tn2072_ tn2075_ tn2078_; have tqz_ := qz41_; omega))); (have q1 := tp_put (F := F) (k := k) (c := 1) (x := (v29 + 1)) (fun q9 h9 => hinv.2.1 q9 (by (have t_c1 := eqI c1; have t_hj10 := hj10; have t_hinv := hinv.2.2.2; have t_n13 := n13; have t_n15 := n15; have t_c16 := eqI c16; have t_b22 := b22; have t_b26 := b26; have t_hz28 := hz28; have t_hz30 := hz30; have t_hi31 := hi31; have t_hl32 := hl32; have tqz_ := qz0_; have tnb_ := nib4 tn2071_ tn2072_ tn2075_ tn2078_; have tqz_ := qz41_; omega))) (show _ = x1.toInt + 2 * (j2 : Int) + 1 by (have t_c1 := eqI c1; have t_hj10 := hj10; have t_hinv := hinv.2.2.2; have t_n13 := n13; have t_n15 := n15; have t_c16 := eqI c16; have t_b22 := b22; have t_b26 := b26; have t_hz28 := hz28; have t_hz30 := hz30; have t_hi31 := hi31; have t_hl32 := hl32; have tqz_ := qz0_; have tnb_ := nib4 tn2071_ tn2072_ tn2075_ tn2078_; have tqz_ := qz41_; omega)); exact fun q9 h9 => q1 q9 (by (have t_c1 := eqI c1; have t_hj10 := hj10; have t_hinv := hinv.2.2.2; have t_n13 := n13; have t_n15 := n15; have t_c16 := eqI c16; have t_b22 := b22; have t_b26 := b26; have t_hz28 := hz28; have t_hz30 := hz30; have t_hi31 := hi31; have t_hl32 := hl32; have tqz_ := qz0_; have tnb_ := nib4 tn2071_ tn2072_ tn2075_ tn2078_; have tqz_ := qz41_; omega))); (rw [← tpM_go (by (have t_c1 := eqI c1; have t_hj10 := hj10; have t_hinv := hinv.2.2.2; have t_n13 := n13; have t_n15 := n15; have t_c16 := eqI c16; have t_b22 := b22; have t_b26 := b26; have t_hz28 := hz28; have t_hz30 := hz30; have t_hi31 := hi31; have t_hl32 := hl32; have tqz_ := qz0_; have tnb_ := nib4 tn2071_ tn2072_ tn2075_ tn2078_; have tqz_ := qz41_; omega)) (by (have t_c1 := eqI c1; have t_hj10 := hj10; have t_hinv := hinv.2.2.2; have t_n13 := n13; have t_n15 := n15; have t_c16 := eqI c16; have t_b22 := b22; have t_b26 := b26; have t_hz28 := hz28; have t_hz30 := hz30; have t_hi31 := hi31; have t_hl32 := hl32; have tqz_ := qz0_; have tnb_ := nib4 tn2071_ tn2072_ tn2075_ tn2078_; have tqz_ := qz41_; omega))]; exact g9.2.2.2.2)) hP hD hS ls (lv_sub hl [0, 2, 3, 4, 5, 6] rfl)
    exact loop37_8 (20 + 1) 0 (by omega) (by omega) 0 0 f1 f2 _ _ ⟨fun q9 h9 => absurd h9 (Nat.not_lt_zero _), fun q9 h9 => absurd h9 (Nat.not_lt_zero _), Or.inl ⟨rfl, rfl, fun _ => rfl, (by first | exact fun _ => (by first | with_reducible assumption | assumption) | exact fun h9 => absurd (by first | with_reducible assumption | assumption) h9), rfl⟩, Nat.zero_le _, Nat.zero_le _⟩ hP hD hS ls (lv_sub hl [0, 1, 2, 3, 4, 5] rfl)
  · skip
    refine lv_aload_n hx hb dX6_takePairs_16 rfl (lv_at hl 0 rfl) ?_
    refine va_get (D := (dC, dI)) (ci := 6) (v := .ref la) (C := RX6) (T := TX6) (N := 7) hx hb hg inG6 hown hK.1 hP 0 rfl rfl 0 (Nat.le_of_ble_eq_true rfl) (hg _ wt_276) (fun _ h9 => h9) rfl dX6_takePairs_17 ?_
    refine lv_iload_n hx hb dX6_takePairs_20 rfl (lv_at hl 1 rfl) ?_
    refine va_iald hx hb hK.1 hP 1 0 rfl rfl (vp_in_nI (by first | omega | (have t_c1 := neI c1; have : ((-1) : Int32).toInt = -1 := qI_m1; have tnb_ := nib2 tn2071_ tn2072_; omega)) (by decide)) dX6_takePairs_21 ?_
    refine lv_cg (y := fl k) (by rw [nI_clamp (by omega)]) ?_
    refine lv_iload_n hx hb dX6_takePairs_22 rfl (lv_at hl 2 rfl) ?_
    refine lv_icmp_ne (tgt := 30) hx hb dX6_takePairs_23 rfl (fun c33 => ?_) (fun c33 => ?_)
    · skip
      refine lv_iconst (v := 3) hx hb dX6_takePairs_30 rfl ?_
      refine va_put (D := (dC, dI)) (ci := 6) (v := .int 3) (ty := .int) (C := RX6) (T := TX6) (N := 7) hx hb hg inG6 tyX6 tyX6_ok nmX6 hown hK.1 hP hD hS 0 rfl rfl 3 (Nat.le_of_ble_eq_true rfl) (hg _ wt_279) (fun _ h9 => h9) rfl (by decide +kernel) rfl rfl (Nat.le_of_ble_eq_true rfl) dX6_takePairs_31 (fun H locs hP hD hS => ?_)
      obtain ⟨hP, hD⟩ := va_rls (ws' := (([(h0, .inr (6, [.ref la, .ref si, .ref ce, .int 3, .int 0, .ref fi, .ref se])), (la, .inl (G 0, 4, .inl fl)), (si, .inl (G 0, 4, .inl fz)), (ce, .inl (G 4, 4, .inr (.inr (.inr (.inr (fun ir => if ir < 4 then some (rc ir) else none)))))), (fi, .inl (G 0, 20, .inl f1)), (se, .inl (G 0, 20, .inl f2))] : va_W) ++ ((((List.range 4).map (fun iq => (rc iq, .inl (G 0, 40, .inl (F iq))))) : va_W) ++ []))) hP hD rfl
      refine lv_iconst (v := 0) hx hb dX6_takePairs_34 rfl ?_
      refine lv_istore (lv' := [(5, .int 0), (0, .ref h0), (1, .int (nI k)), (2, .int lane), (3, .int x1), (4, .int (nI nn))]) hx hb dX6_takePairs_35 hl (by decide) rfl (fun ls hl => ?_)
      have loop37_35 : ∀ (nf j34 : Nat), 20 + 1 ≤ j34 + nf → j34 ≤ 20 → ∀ (H : Heap) (locs : List Loc), ((∀ q9 : Nat, q9 < 0 → f1 q9 = F k (x1.toInt + 2 * (q9 : Int) + 0).toNat) ∧ (∀ q9 : Nat, q9 < 0 → f2 q9 = F k (x1.toInt + 2 * (q9 : Int) + 1).toNat) ∧ (((3 : Int32) = 0 ∧ 0 = j34 ∧ (fl k = -1 → j34 = 0) ∧ (¬ fl k = -1 → fl k = lane) ∧ tpM (fz k).toInt x1.toInt (nn - j34) j34 = tpM (fz k).toInt x1.toInt nn 0) ∨ (¬ (3 : Int32) = 0 ∧ 0 = tpK (fl k) lane (fz k).toInt x1.toInt nn)) ∧ 0 ≤ j34 ∧ j34 ≤ nn) → va_P (dC, dI) vwCl (([(h0, .inr (6, [.ref la, .ref si, .ref ce, .int 3, .int 0, .ref fi, .ref se])), (la, .inl (G 0, 4, .inl fl)), (si, .inl (G 0, 4, .inl fz)), (ce, .inl (G 4, 4, .inr (.inr (.inr (.inr (fun ir => if ir < 4 then some (rc ir) else none)))))), (fi, .inl (G 0, 20, .inl f1)), (se, .inl (G 0, 20, .inl f2))] : va_W) ++ ((((List.range 4).map (fun iq => (rc iq, .inl (G 0, 40, .inl (F iq))))) : va_W) ++ [])) H → va_D A (([(h0, .inr (6, [.ref la, .ref si, .ref ce, .int 3, .int 0, .ref fi, .ref se])), (la, .inl (G 0, 4, .inl fl)), (si, .inl (G 0, 4, .inl fz)), (ce, .inl (G 4, 4, .inr (.inr (.inr (.inr (fun ir => if ir < 4 then some (rc ir) else none)))))), (fi, .inl (G 0, 20, .inl f1)), (se, .inl (G 0, 20, .inl f2))] : va_W) ++ ((((List.range 4).map (fun iq => (rc iq, .inl (G 0, 40, .inl (F iq))))) : va_W) ++ [])) → va_S A s.heap H locs → ∀ (ls : Array Slot), lv_has ls 8 [(5, .int (nI j34)), (0, .ref h0), (1, .int (nI k)), (2, .int lane), (3, .int x1), (4, .int (nI nn))] → W p l e (headSpec (Cond.code yX6_takePairs cX6_takePairs 8 none :: GT) ({ frames := 1, cells := 0, slots := 0, locals := 23 } : Room)).room s m ([.ref h0, .int (nI k), .int lane, .int x1, .int (nI nn)] : List Value).toArray below meth c H locs 0 0 (MQ below (va_Qv (fun (u : Int32 × Nat × (Nat → Int32) × (Nat → Int32)) => match u with | (u0, u1, u2, u3) => u1 = tpK (fl k) lane (fz k).toInt x1.toInt nn ∧ (∀ q9 : Nat, q9 < u1 → u2 q9 = F k (x1.toInt + 2 * (q9 : Int) + 0).toNat) ∧ (∀ q9 : Nat, q9 < u1 → u3 q9 = F k (x1.toInt + 2 * (q9 : Int) + 1).toNat) ∧ u1 ≤ 20) (fun (u : Int32 × Nat × (Nat → Int32) × (Nat → Int32)) (t : State) => match u with | (u0, u1, u2, u3) => va_P (dC, dI) vwCl (([(h0, .inr (6, [.ref la, .ref si, .ref ce, .int u0, .int (nI u1), .ref fi, .ref se])), (la, .inl (G 0, 4, .inl fl)), (si, .inl (G 0, 4, .inl fz)), (ce, .inl (G 4, 4, .inr (.inr (.inr (.inr (fun ir => if ir < 4 then some (rc ir) else none)))))), (fi, .inl (G 0, 20, .inl u2)), (se, .inl (G 0, 20, .inl u3))] : va_W) ++ ((((List.range 4).map (fun iq => (rc iq, .inl (G 0, 40, .inl (F iq))))) : va_W) ++ [])) t.heap ∧ va_D A (([(h0, .inr (6, [.ref la, .ref si, .ref ce, .int u0, .int (nI u1), .ref fi, .ref se])), (la, .inl (G 0, 4, .inl fl)), (si, .inl (G 0, 4, .inl fz)), (ce, .inl (G 4, 4, .inr (.inr (.inr (.inr (fun ir => if ir < 4 then some (rc ir) else none)))))), (fi, .inl (G 0, 20, .inl u2)), (se, .inl (G 0, 20, .inl u3))] : va_W) ++ ((((List.range 4).map (fun iq => (rc iq, .inl (G 0, 40, .inl (F iq))))) : va_W) ++ []))) A) ([.ref h0, .int (nI k), .int lane, .int x1, .int (nI nn)] : List Value).toArray s 0 0 A) (F0 m 37 ls []) := by
        intro nf
        induction nf with
        | zero => intro j34 h1 h2; exact absurd h1 (by omega)
        | succ nf ih37_35 =>
          intro j34 hn36 hj37  H locs hinv hP hD hS ls hl
          refine lv_iload hx hb dX6_takePairs_37 (lv_at hl 0 rfl) ?_
          refine lv_iload hx hb dX6_takePairs_39 (lv_at hl 5 rfl) ?_
          refine lv_icmp_ge (tgt := 160) hx hb dX6_takePairs_41 rfl (fun c38 => ?_) (fun c38 => ?_)
          · skip
            have tn2079_ : nIT j34 := fun _ => nI_toInt (by first | omega | (have t := leI c38; omega))
            have n39 : nn ≤ j34 := by have t := leI c38; rw [show (nI (j34)).toInt = ((j34 : Nat) : Int) from tn2079_ ()] at t; rw [show (nI (nn)).toInt = ((nn : Nat) : Int) from tn2072_ ()] at t; omega
            obtain ⟨hP9, hD9⟩ := va_sub2 (ws' := (([(h0, .inr (6, [.ref la, .ref si, .ref ce, .int 3, .int 0, .ref fi, .ref se])), (la, .inl (G 0, 4, .inl fl)), (si, .inl (G 0, 4, .inl fz)), (ce, .inl (G 4, 4, .inr (.inr (.inr (.inr (fun ir => if ir < 4 then some (rc ir) else none)))))), (fi, .inl (G 0, 20, .inl f1)), (se, .inl (G 0, 20, .inl f2))] : va_W) ++ ((((List.range 4).map (fun iq => (rc iq, .inl (G 0, 40, .inl (F iq))))) : va_W) ++ []))) hP hD [0, 1, 2, 3, 4, 5, 6, 7, 8, 9] (by decide +kernel) rfl
            refine W.widen (k := 0) (n := 0) (Nat.le_of_ble_eq_true rfl) (Nat.le_of_ble_eq_true rfl) ?_
            exact W.vret hx hb hr (fun t ht hW => ⟨⟨(3, 0, f1, f2), rfl, (by have t_c1 := neI c1; have t_c33 := neI c33; have t_hj37 := hj37; have t_hinv := hinv.2.2.2; have t_n39 := n39; have : ((-1) : Int32).toInt = -1 := qI_m1; have tnb_ := nib3 tn2071_ tn2072_ tn2079_; have tqz_ := qz41_; have hk : _ = tpK (fl k) lane (fz k).toInt x1.toInt nn := (by rcases hinv.2.2.1 with g9 | g9; (exact tp_end g9.2.1 g9.2.2.1 g9.2.2.2.1 g9.2.2.2.2 hlne (by first | omega | (exfalso; exact absurd g9.1 (by first | with_reducible assumption | assumption)))); exact g9.2); exact ⟨hk, hinv.1, hinv.2.1, by omega⟩), ⟨by rw [ht]; exact hP9, hD9⟩⟩, hS.F ht⟩) hS.2.2 dX6_takePairs_160
          · skip
            have tn2080_ : nIT j34 := fun _ => nI_toInt (by first | omega | (have t := nleI c38; omega))
            have n40 : j34 < nn := by have t := nleI c38; rw [show (nI (j34)).toInt = ((j34 : Nat) : Int) from tn2080_ ()] at t; rw [show (nI (nn)).toInt = ((nn : Nat) : Int) from tn2072_ ()] at t; omega
            refine lv_iload hx hb dX6_takePairs_44 (lv_at hl 0 rfl) ?_
            refine lv_bipush (v := 20) hx hb dX6_takePairs_46 rfl ?_
            refine lv_icmp_ge (tgt := 160) hx hb dX6_takePairs_48 rfl (fun c41 => ?_) (fun c41 => ?_)
            · skip
              have t_c1 := neI c1
              have t_c33 := neI c33
              have t_hj37 := hj37
              have t_hinv := hinv.2.2.2
              have t_n40 := n40
              have t_c41 := leI c41
              have : ((-1) : Int32).toInt = -1 := qI_m1
              have : (20 : Int32).toInt = 20 := qI_20
              have t_n0 : (nI k).toInt = (k : Int) := tn2071_ ()
              have t_n1 : (nI nn).toInt = (nn : Int) := tn2072_ ()
              have t_n2 : (nI j34).toInt = (j34 : Int) := tn2080_ ()
              exfalso; omega
            · skip
              have n42 : j34 < 20 := by have t := nleI c41; rw [show (nI (j34)).toInt = ((j34 : Nat) : Int) from tn2080_ ()] at t; have : (20 : Int32).toInt = 20 := qI_20; omega
              refine lv_aload_n hx hb dX6_takePairs_51 rfl (lv_at hl 1 rfl) ?_
              refine va_get (D := (dC, dI)) (ci := 6) (v := .int 3) (C := RX6) (T := TX6) (N := 7) hx hb hg inG6 hown hK.1 hP 0 rfl rfl 3 (Nat.le_of_ble_eq_true rfl) (hg _ wt_279) (fun _ h9 => h9) rfl dX6_takePairs_52 ?_
              refine lv_if_ne (tgt := 160) hx hb dX6_takePairs_55 rfl (fun c43 => ?_) (fun c43 => ?_)
              · skip
                obtain ⟨hP9, hD9⟩ := va_sub2 (ws' := (([(h0, .inr (6, [.ref la, .ref si, .ref ce, .int 3, .int 0, .ref fi, .ref se])), (la, .inl (G 0, 4, .inl fl)), (si, .inl (G 0, 4, .inl fz)), (ce, .inl (G 4, 4, .inr (.inr (.inr (.inr (fun ir => if ir < 4 then some (rc ir) else none)))))), (fi, .inl (G 0, 20, .inl f1)), (se, .inl (G 0, 20, .inl f2))] : va_W) ++ ((((List.range 4).map (fun iq => (rc iq, .inl (G 0, 40, .inl (F iq))))) : va_W) ++ []))) hP hD [0, 1, 2, 3, 4, 5, 6, 7, 8, 9] (by decide +kernel) rfl
                refine W.widen (k := 0) (n := 0) (Nat.le_of_ble_eq_true rfl) (Nat.le_of_ble_eq_true rfl) ?_
                exact W.vret hx hb hr (fun t ht hW => ⟨⟨(3, 0, f1, f2), rfl, (by have t_c1 := neI c1; have t_c33 := neI c33; have t_hj37 := hj37; have t_hinv := hinv.2.2.2; have t_n40 := n40; have t_n42 := n42; have t_c43 := neI c43; have tqz_ := qz47_; have tnb_ := nib3 tn2071_ tn2072_ tn2080_; have tqz_ := qz41_; have hk : _ = tpK (fl k) lane (fz k).toInt x1.toInt nn := (by rcases hinv.2.2.1 with g9 | g9; (exact tp_end g9.2.1 g9.2.2.1 g9.2.2.2.1 g9.2.2.2.2 hlne (by first | omega | (exfalso; exact absurd g9.1 (by first | with_reducible assumption | assumption)))); exact g9.2); exact ⟨hk, hinv.1, hinv.2.1, by omega⟩), ⟨by rw [ht]; exact hP9, hD9⟩⟩, hS.F ht⟩) hS.2.2 dX6_takePairs_160
              · skip
                exact absurd c43 (by decide)
      exact loop37_35 (20 + 1) 0 (by omega) (by omega)  _ _ ⟨fun q9 h9 => absurd h9 (Nat.not_lt_zero _), fun q9 h9 => absurd h9 (Nat.not_lt_zero _), Or.inr ⟨by decide, (by unfold tpK; rw [if_neg (by first | with_reducible assumption | assumption)])⟩, Nat.zero_le _, Nat.zero_le _⟩ hP hD hS ls (lv_sub hl [0, 1, 2, 3, 4, 5] rfl)
    · skip
      refine lv_iconst (v := 0) hx hb dX6_takePairs_26 rfl ?_
      refine lv_goto (tgt := 31) hx hb dX6_takePairs_27 rfl ?_
      refine va_put (D := (dC, dI)) (ci := 6) (v := .int 0) (ty := .int) (C := RX6) (T := TX6) (N := 7) hx hb hg inG6 tyX6 tyX6_ok nmX6 hown hK.1 hP hD hS 0 rfl rfl 3 (Nat.le_of_ble_eq_true rfl) (hg _ wt_279) (fun _ h9 => h9) rfl (by decide +kernel) rfl rfl (Nat.le_of_ble_eq_true rfl) dX6_takePairs_31 (fun H locs hP hD hS => ?_)
      obtain ⟨hP, hD⟩ := va_rls (ws' := (([(h0, .inr (6, [.ref la, .ref si, .ref ce, .int 0, .int 0, .ref fi, .ref se])), (la, .inl (G 0, 4, .inl fl)), (si, .inl (G 0, 4, .inl fz)), (ce, .inl (G 4, 4, .inr (.inr (.inr (.inr (fun ir => if ir < 4 then some (rc ir) else none)))))), (fi, .inl (G 0, 20, .inl f1)), (se, .inl (G 0, 20, .inl f2))] : va_W) ++ ((((List.range 4).map (fun iq => (rc iq, .inl (G 0, 40, .inl (F iq))))) : va_W) ++ []))) hP hD rfl
      refine lv_iconst (v := 0) hx hb dX6_takePairs_34 rfl ?_
      refine lv_istore (lv' := [(5, .int 0), (0, .ref h0), (1, .int (nI k)), (2, .int lane), (3, .int x1), (4, .int (nI nn))]) hx hb dX6_takePairs_35 hl (by decide) rfl (fun ls hl => ?_)
      have loop37_50 : ∀ (nf j44 : Nat), 20 + 1 ≤ j44 + nf → j44 ≤ 20 → ∀ (y45 : Int32) (k47 : Nat) (g48 : Nat → Int32) (g49 : Nat → Int32) (H : Heap) (locs : List Loc), ((∀ q9 : Nat, q9 < k47 → g48 q9 = F k (x1.toInt + 2 * (q9 : Int) + 0).toNat) ∧ (∀ q9 : Nat, q9 < k47 → g49 q9 = F k (x1.toInt + 2 * (q9 : Int) + 1).toNat) ∧ ((y45 = 0 ∧ k47 = j44 ∧ (fl k = -1 → j44 = 0) ∧ (¬ fl k = -1 → fl k = lane) ∧ tpM (fz k).toInt x1.toInt (nn - j44) j44 = tpM (fz k).toInt x1.toInt nn 0) ∨ (¬ y45 = 0 ∧ k47 = tpK (fl k) lane (fz k).toInt x1.toInt nn)) ∧ k47 ≤ j44 ∧ j44 ≤ nn) → va_P (dC, dI) vwCl (([(h0, .inr (6, [.ref la, .ref si, .ref ce, .int y45, .int (nI k47), .ref fi, .ref se])), (la, .inl (G 0, 4, .inl fl)), (si, .inl (G 0, 4, .inl fz)), (ce, .inl (G 4, 4, .inr (.inr (.inr (.inr (fun ir => if ir < 4 then some (rc ir) else none)))))), (fi, .inl (G 0, 20, .inl g48)), (se, .inl (G 0, 20, .inl g49))] : va_W) ++ ((((List.range 4).map (fun iq => (rc iq, .inl (G 0, 40, .inl (F iq))))) : va_W) ++ [])) H → va_D A (([(h0, .inr (6, [.ref la, .ref si, .ref ce, .int y45, .int (nI k47), .ref fi, .ref se])), (la, .inl (G 0, 4, .inl fl)), (si, .inl (G 0, 4, .inl fz)), (ce, .inl (G 4, 4, .inr (.inr (.inr (.inr (fun ir => if ir < 4 then some (rc ir) else none)))))), (fi, .inl (G 0, 20, .inl g48)), (se, .inl (G 0, 20, .inl g49))] : va_W) ++ ((((List.range 4).map (fun iq => (rc iq, .inl (G 0, 40, .inl (F iq))))) : va_W) ++ [])) → va_S A s.heap H locs → ∀ (ls : Array Slot), lv_has ls 8 [(5, .int (nI j44)), (0, .ref h0), (1, .int (nI k)), (2, .int lane), (3, .int x1), (4, .int (nI nn))] → W p l e (headSpec (Cond.code yX6_takePairs cX6_takePairs 8 none :: GT) ({ frames := 1, cells := 0, slots := 0, locals := 23 } : Room)).room s m ([.ref h0, .int (nI k), .int lane, .int x1, .int (nI nn)] : List Value).toArray below meth c H locs 0 0 (MQ below (va_Qv (fun (u : Int32 × Nat × (Nat → Int32) × (Nat → Int32)) => match u with | (u0, u1, u2, u3) => u1 = tpK (fl k) lane (fz k).toInt x1.toInt nn ∧ (∀ q9 : Nat, q9 < u1 → u2 q9 = F k (x1.toInt + 2 * (q9 : Int) + 0).toNat) ∧ (∀ q9 : Nat, q9 < u1 → u3 q9 = F k (x1.toInt + 2 * (q9 : Int) + 1).toNat) ∧ u1 ≤ 20) (fun (u : Int32 × Nat × (Nat → Int32) × (Nat → Int32)) (t : State) => match u with | (u0, u1, u2, u3) => va_P (dC, dI) vwCl (([(h0, .inr (6, [.ref la, .ref si, .ref ce, .int u0, .int (nI u1), .ref fi, .ref se])), (la, .inl (G 0, 4, .inl fl)), (si, .inl (G 0, 4, .inl fz)), (ce, .inl (G 4, 4, .inr (.inr (.inr (.inr (fun ir => if ir < 4 then some (rc ir) else none)))))), (fi, .inl (G 0, 20, .inl u2)), (se, .inl (G 0, 20, .inl u3))] : va_W) ++ ((((List.range 4).map (fun iq => (rc iq, .inl (G 0, 40, .inl (F iq))))) : va_W) ++ [])) t.heap ∧ va_D A (([(h0, .inr (6, [.ref la, .ref si, .ref ce, .int u0, .int (nI u1), .ref fi, .ref se])), (la, .inl (G 0, 4, .inl fl)), (si, .inl (G 0, 4, .inl fz)), (ce, .inl (G 4, 4, .inr (.inr (.inr (.inr (fun ir => if ir < 4 then some (rc ir) else none)))))), (fi, .inl (G 0, 20, .inl u2)), (se, .inl (G 0, 20, .inl u3))] : va_W) ++ ((((List.range 4).map (fun iq => (rc iq, .inl (G 0, 40, .inl (F iq))))) : va_W) ++ []))) A) ([.ref h0, .int (nI k), .int lane, .int x1, .int (nI nn)] : List Value).toArray s 0 0 A) (F0 m 37 ls []) := by
        intro nf
        induction nf with
        | zero => intro j44 h1 h2; exact absurd h1 (by omega)
        | succ nf ih37_50 =>
          intro j44 hn51 hj52 y45 k47 g48 g49 H locs hinv hP hD hS ls hl
          refine lv_iload hx hb dX6_takePairs_37 (lv_at hl 0 rfl) ?_
          refine lv_iload hx hb dX6_takePairs_39 (lv_at hl 5 rfl) ?_
          refine lv_icmp_ge (tgt := 160) hx hb dX6_takePairs_41 rfl (fun c53 => ?_) (fun c53 => ?_)
          · skip
            have tn2081_ : nIT j44 := fun _ => nI_toInt (by first | omega | (have t := leI c53; omega))
            have n54 : nn ≤ j44 := by have t := leI c53; rw [show (nI (j44)).toInt = ((j44 : Nat) : Int) from tn2081_ ()] at t; rw [show (nI (nn)).toInt = ((nn : Nat) : Int) from tn2072_ ()] at t; omega
            obtain ⟨hP9, hD9⟩ := va_sub2 (ws' := (([(h0, .inr (6, [.ref la, .ref si, .ref ce, .int y45, .int (nI k47), .ref fi, .ref se])), (la, .inl (G 0, 4, .inl fl)), (si, .inl (G 0, 4, .inl fz)), (ce, .inl (G 4, 4, .inr (.inr (.inr (.inr (fun ir => if ir < 4 then some (rc ir) else none)))))), (fi, .inl (G 0, 20, .inl g48)), (se, .inl (G 0, 20, .inl g49))] : va_W) ++ ((((List.range 4).map (fun iq => (rc iq, .inl (G 0, 40, .inl (F iq))))) : va_W) ++ []))) hP hD [0, 1, 2, 3, 4, 5, 6, 7, 8, 9] (by decide +kernel) rfl
            refine W.widen (k := 0) (n := 0) (Nat.le_of_ble_eq_true rfl) (Nat.le_of_ble_eq_true rfl) ?_
            have tn2082_ : nIT k47 := fun _ => nI_toInt (by first | omega | (have t_c1 := neI c1; have t_c33 := eqI c33; have t_hj52 := hj52; have t_hinv := hinv.2.2.2; have t_n54 := n54; have : ((-1) : Int32).toInt = -1 := qI_m1; omega))
            exact W.vret hx hb hr (fun t ht hW => ⟨⟨(y45, k47, g48, g49), rfl, (by have t_c1 := neI c1; have t_c33 := eqI c33; have t_hj52 := hj52; have t_hinv := hinv.2.2.2; have t_n54 := n54; have : ((-1) : Int32).toInt = -1 := qI_m1; have tnb_ := nib4 tn2071_ tn2072_ tn2081_ tn2082_; have tqz_ := qz41_; have hk : _ = tpK (fl k) lane (fz k).toInt x1.toInt nn := (by rcases hinv.2.2.1 with g9 | g9; (exact tp_end g9.2.1 g9.2.2.1 g9.2.2.2.1 g9.2.2.2.2 hlne (by first | omega | (exfalso; exact absurd g9.1 (by first | with_reducible assumption | assumption)))); exact g9.2); exact ⟨hk, hinv.1, hinv.2.1, by omega⟩), ⟨by rw [ht]; exact hP9, hD9⟩⟩, hS.F ht⟩) hS.2.2 dX6_takePairs_160
          · skip
            have tn2083_ : nIT j44 := fun _ => nI_toInt (by first | omega | (have t := nleI c53; omega))
            have n55 : j44 < nn := by have t := nleI c53; rw [show (nI (j44)).toInt = ((j44 : Nat) : Int) from tn2083_ ()] at t; rw [show (nI (nn)).toInt = ((nn : Nat) : Int) from tn2072_ ()] at t; omega
            refine lv_iload hx hb dX6_takePairs_44 (lv_at hl 0 rfl) ?_
            refine lv_bipush (v := 20) hx hb dX6_takePairs_46 rfl ?_
            refine lv_icmp_ge (tgt := 160) hx hb dX6_takePairs_48 rfl (fun c56 => ?_) (fun c56 => ?_)
            · skip
              have t_c1 := neI c1
              have t_c33 := eqI c33
              have t_hj52 := hj52
              have t_hinv := hinv.2.2.2
              have t_n55 := n55
              have t_c56 := leI c56
              have : ((-1) : Int32).toInt = -1 := qI_m1
              have : (20 : Int32).toInt = 20 := qI_20
              have t_n0 : (nI k).toInt = (k : Int) := tn2071_ ()
              have t_n1 : (nI nn).toInt = (nn : Int) := tn2072_ ()
              have t_n2 : (nI j44).toInt = (j44 : Int) := tn2083_ ()
              have tn2084_ : nIT k47 := fun _ => nI_toInt (by omega)
              have t_n3 : (nI k47).toInt = (k47 : Int) := tn2084_ ()
              exfalso; omega
            · skip
              have n57 : j44 < 20 := by have t := nleI c56; rw [show (nI (j44)).toInt = ((j44 : Nat) : Int) from tn2083_ ()] at t; have : (20 : Int32).toInt = 20 := qI_20; omega
              refine lv_aload_n hx hb dX6_takePairs_51 rfl (lv_at hl 1 rfl) ?_
              refine va_get (D := (dC, dI)) (ci := 6) (v := .int y45) (C := RX6) (T := TX6) (N := 7) hx hb hg inG6 hown hK.1 hP 0 rfl rfl 3 (Nat.le_of_ble_eq_true rfl) (hg _ wt_279) (fun _ h9 => h9) rfl dX6_takePairs_52 ?_
              refine lv_if_ne (tgt := 160) hx hb dX6_takePairs_55 rfl (fun c58 => ?_) (fun c58 => ?_)
              · skip
                obtain ⟨hP9, hD9⟩ := va_sub2 (ws' := (([(h0, .inr (6, [.ref la, .ref si, .ref ce, .int y45, .int (nI k47), .ref fi, .ref se])), (la, .inl (G 0, 4, .inl fl)), (si, .inl (G 0, 4, .inl fz)), (ce, .inl (G 4, 4, .inr (.inr (.inr (.inr (fun ir => if ir < 4 then some (rc ir) else none)))))), (fi, .inl (G 0, 20, .inl g48)), (se, .inl (G 0, 20, .inl g49))] : va_W) ++ ((((List.range 4).map (fun iq => (rc iq, .inl (G 0, 40, .inl (F iq))))) : va_W) ++ []))) hP hD [0, 1, 2, 3, 4, 5, 6, 7, 8, 9] (by decide +kernel) rfl
                refine W.widen (k := 0) (n := 0) (Nat.le_of_ble_eq_true rfl) (Nat.le_of_ble_eq_true rfl) ?_
                have tn2085_ : nIT k47 := fun _ => nI_toInt (by first | omega | (have t_c1 := neI c1; have t_c33 := eqI c33; have t_hj52 := hj52; have t_hinv := hinv.2.2.2; have t_n55 := n55; have t_n57 := n57; have t_c58 := neI c58; have tqz_ := qz0_; omega))
                exact W.vret hx hb hr (fun t ht hW => ⟨⟨(y45, k47, g48, g49), rfl, (by have t_c1 := neI c1; have t_c33 := eqI c33; have t_hj52 := hj52; have t_hinv := hinv.2.2.2; have t_n55 := n55; have t_n57 := n57; have t_c58 := neI c58; have tqz_ := qz0_; have tnb_ := nib4 tn2071_ tn2072_ tn2083_ tn2085_; have tqz_ := qz41_; have hk : _ = tpK (fl k) lane (fz k).toInt x1.toInt nn := (by rcases hinv.2.2.1 with g9 | g9; (exact tp_end g9.2.1 g9.2.2.1 g9.2.2.2.1 g9.2.2.2.2 hlne (by first | omega | (exfalso; exact absurd g9.1 (by first | with_reducible assumption | assumption)))); exact g9.2); exact ⟨hk, hinv.1, hinv.2.1, by omega⟩), ⟨by rw [ht]; exact hP9, hD9⟩⟩, hS.F ht⟩) hS.2.2 dX6_takePairs_160
              · skip
                refine lv_iload_n hx hb dX6_takePairs_58 rfl (lv_at hl 4 rfl) ?_
                refine lv_i2l (v := x1.toInt64) hx hb dX6_takePairs_59 rfl ?_
                refine lv_ldc2 (v := 2) hx hb hown (hg _ wt_855) dX6_takePairs_60 ?_
                refine lv_iload hx hb dX6_takePairs_63 (lv_at hl 0 rfl) ?_
                refine lv_i2l (v := (nI j44).toInt64) hx hb dX6_takePairs_65 rfl ?_
                refine lv_lmul hx hb dX6_takePairs_66 ?_
                refine lv_ladd hx hb dX6_takePairs_67 ?_
                refine lv_topl (fun v59 ev59 => ?_)
                refine lv_lstore (lv' := [(6, .long v59), (5, .int (nI j44)), (0, .ref h0), (1, .int (nI k)), (2, .int lane), (3, .int x1), (4, .int (nI nn))]) hx hb dX6_takePairs_68 hl (by decide) rfl (fun ls hl => ?_)
                refine lv_aload_n hx hb dX6_takePairs_70 rfl (lv_at hl 2 rfl) ?_
                refine lv_aload_n hx hb dX6_takePairs_71 rfl (lv_at hl 2 rfl) ?_
                refine lv_iload_n hx hb dX6_takePairs_72 rfl (lv_at hl 3 rfl) ?_
                refine lv_lload hx hb dX6_takePairs_73 (lv_at hl 0 rfl) ?_
                have hPc := hP.sub (ws' := [(h0, .inr (6, [.ref la, .ref si, .ref ce, .int y45, .int (nI k47), .ref fi, .ref se])), (la, .inl (G 0, 4, .inl fl)), (si, .inl (G 0, 4, .inl fz))]) [0, 1, 2] rfl
                have tn2086_ : nIT k47 := fun _ => nI_toInt (by first | omega | (have t_c1 := neI c1; have t_c33 := eqI c33; have t_hj52 := hj52; have t_hinv := hinv.2.2.2; have t_n55 := n55; have t_n57 := n57; have t_c58 := eqI c58; have tqz_ := qz0_; omega))
                refine va_calli (va_runV (As := [.int (nI k), .long v59]) (rest := [.ref h0]) ⟨hx, hb, hml, hown, hg⟩ (c_X6_faultAt l dC dI G _ h0 la si ce fi se k y45 (nI k47) v59 fl fz hk) (kwV hg mfX6_faultAt wt_846 ⟨Nat.le_of_ble_eq_true rfl, Nat.le_of_ble_eq_true rfl⟩) (preVR hK hPc (ci := 6) (r := (RX6, TX6, 7)) rfl rfl) rfl rfl hl.1 rfl (lv_room (Nat.le_of_ble_eq_true rfl)) dX6_takePairs_75 ⟨Nat.le_of_ble_eq_true rfl, Nat.le_of_ble_eq_true rfl⟩) hS (fun q h1 h2 => absurd h2 (Nat.not_le.mpr h1)) (fun q h => hA q (Nat.le_trans hS.1 h)) (fun r60 ur60 t H1 locs ht hvm w61 hB hz1 hk1 hS => ?_)
                have hP := keepR hP hk1
                obtain ⟨w61, w61x⟩ := w61
                refine va_put (D := (dC, dI)) (ci := 6) (v := .int r60) (ty := .int) (C := RX6) (T := TX6) (N := 7) hx hb hg inG6 tyX6 tyX6_ok nmX6 hown hK.1 hP hD hS 0 rfl rfl 3 (Nat.le_of_ble_eq_true rfl) (hg _ wt_279) (fun _ h9 => h9) rfl (by decide +kernel) rfl rfl (Nat.le_of_ble_eq_true rfl) dX6_takePairs_78 (fun H locs hP hD hS => ?_)
                obtain ⟨hP, hD⟩ := va_rls (ws' := (([(h0, .inr (6, [.ref la, .ref si, .ref ce, .int r60, .int (nI k47), .ref fi, .ref se])), (la, .inl (G 0, 4, .inl fl)), (si, .inl (G 0, 4, .inl fz)), (ce, .inl (G 4, 4, .inr (.inr (.inr (.inr (fun ir => if ir < 4 then some (rc ir) else none)))))), (fi, .inl (G 0, 20, .inl g48)), (se, .inl (G 0, 20, .inl g49))] : va_W) ++ ((((List.range 4).map (fun iq => (rc iq, .inl (G 0, 40, .inl (F iq))))) : va_W) ++ []))) hP hD rfl
                refine lv_aload_n hx hb dX6_takePairs_81 rfl (lv_at hl 2 rfl) ?_
                refine va_get (D := (dC, dI)) (ci := 6) (v := .int r60) (C := RX6) (T := TX6) (N := 7) hx hb hg inG6 hown hK.1 hP 0 rfl rfl 3 (Nat.le_of_ble_eq_true rfl) (hg _ wt_279) (fun _ h9 => h9) rfl dX6_takePairs_82 ?_
                refine lv_if_ne (tgt := 101) hx hb dX6_takePairs_85 rfl (fun c62 => ?_) (fun c62 => ?_)
                · skip
                  refine lv_aload_n hx hb dX6_takePairs_101 rfl (lv_at hl 2 rfl) ?_
                  refine va_get (D := (dC, dI)) (ci := 6) (v := .int r60) (C := RX6) (T := TX6) (N := 7) hx hb hg inG6 hown hK.1 hP 0 rfl rfl 3 (Nat.le_of_ble_eq_true rfl) (hg _ wt_279) (fun _ h9 => h9) rfl dX6_takePairs_102 ?_
                  refine lv_if_ne (tgt := 154) hx hb dX6_takePairs_105 rfl (fun c63 => ?_) (fun c63 => ?_)
                  · skip
                    refine lv_iinc (v := nI (j44 + 1)) (lv' := [(5, .int (nI (j44 + 1))), (6, .long v59), (0, .ref h0), (1, .int (nI k)), (2, .int lane), (3, .int x1), (4, .int (nI nn))]) hx hb dX6_takePairs_154 hl (k := 1) rfl (by rw [show Int32.ofInt 1 = nI 1 from by decide]; exact nI_add _ _) (by decide) rfl (fun ls hl => ?_)
                    refine lv_goto (tgt := 37) hx hb dX6_takePairs_157 rfl ?_
                    exact ih37_50 (j44 + 1) (by omega) (by omega) r60 k47 g48 g49 _ _ ⟨hinv.1, hinv.2.1, Or.inr ⟨by assumption, (by have ea : v59.toInt = x1.toInt + 2 * (j44 : Int) := (by rw [ev59]; exact at64 x1 (by (have t_c1 := neI c1; have t_c33 := eqI c33; have t_hj52 := hj52; have t_hinv := hinv.2.2.2; have t_n55 := n55; have t_n57 := n57; have t_c58 := eqI c58; have t_c62 := neI c62; have t_c63 := neI c63; have tqz_ := qz0_; have tnb_ := nib4 tn2071_ tn2072_ tn2083_ tn2086_; have tqz_ := qz41_; omega))); have eb : (v59 + 1).toInt = v59.toInt + 1 := l1_e (by have := x1.toInt_lt; have := x1.le_toInt; (have t_c1 := neI c1; have t_c33 := eqI c33; have t_hj52 := hj52; have t_hinv := hinv.2.2.2; have t_n55 := n55; have t_n57 := n57; have t_c58 := eqI c58; have t_c62 := neI c62; have t_c63 := neI c63; have tqz_ := qz0_; have tnb_ := nib4 tn2071_ tn2072_ tn2083_ tn2086_; have tqz_ := qz41_; omega)) (by have := x1.toInt_lt; have := x1.le_toInt; (have t_c1 := neI c1; have t_c33 := eqI c33; have t_hj52 := hj52; have t_hinv := hinv.2.2.2; have t_n55 := n55; have t_n57 := n57; have t_c58 := eqI c58; have t_c62 := neI c62; have t_c63 := neI c63; have tqz_ := qz0_; have tnb_ := nib4 tn2071_ tn2072_ tn2083_ tn2086_; have tqz_ := qz41_; omega)); have g9 := (hinv.2.2.1.resolve_right (fun h9 => h9.1 (by first | with_reducible assumption | assumption))); exact tp_stop g9.2.1 g9.2.2.1 g9.2.2.2.1 g9.2.2.2.2 hlne (fa1 w61 (by first | with_reducible assumption | assumption) (by (have t_c1 := neI c1; have t_c33 := eqI c33; have t_hj52 := hj52; have t_hinv := hinv.2.2.2; have t_n55 := n55; have t_n57 := n57; have t_c58 := eqI c58; have t_c62 := neI c62; have t_c63 := neI c63; have tqz_ := qz0_; have tnb_ := nib4 tn2071_ tn2072_ tn2083_ tn2086_; have tqz_ := qz41_; omega))))⟩, (by have t_c1 := neI c1; have t_c33 := eqI c33; have t_hj52 := hj52; have t_hinv := hinv.2.2.2; have t_n55 := n55; have t_n57 := n57; have t_c58 := eqI c58; have t_c62 := neI c62; have t_c63 := neI c63; have tqz_ := qz0_; have tnb_ := nib4 tn2071_ tn2072_ tn2083_ tn2086_; have tqz_ := qz41_; omega), (by have t_c1 := neI c1; have t_c33 := eqI c33; have t_hj52 := hj52; have t_hinv := hinv.2.2.2; have t_n55 := n55; have t_n57 := n57; have t_c58 := eqI c58; have t_c62 := neI c62; have t_c63 := neI c63; have tqz_ := qz0_; have tnb_ := nib4 tn2071_ tn2072_ tn2083_ tn2086_; have tqz_ := qz41_; omega)⟩ hP hD hS ls (lv_sub hl [0, 2, 3, 4, 5, 6] rfl)
                  · skip
                    have t_c1 := neI c1
                    have t_c33 := eqI c33
                    have t_hj52 := hj52
                    have t_hinv := hinv.2.2.2
                    have t_n55 := n55
                    have t_n57 := n57
                    have t_c58 := eqI c58
                    have t_c62 := neI c62
                    have t_c63 := eqI c63
                    have : ((-1) : Int32).toInt = -1 := qI_m1
                    have : (0 : Int32).toInt = 0 := qI_0
                    have t_n0 : (nI k).toInt = (k : Int) := tn2071_ ()
                    have t_n1 : (nI nn).toInt = (nn : Int) := tn2072_ ()
                    have t_n2 : (nI j44).toInt = (j44 : Int) := tn2083_ ()
                    have t_n3 : (nI k47).toInt = (k47 : Int) := tn2086_ ()
                    exfalso; omega
                · skip
                  have b64 := fz0 w61 c62
                  refine lv_aload_n hx hb dX6_takePairs_88 rfl (lv_at hl 2 rfl) ?_
                  refine lv_aload_n hx hb dX6_takePairs_89 rfl (lv_at hl 2 rfl) ?_
                  refine lv_iload_n hx hb dX6_takePairs_90 rfl (lv_at hl 3 rfl) ?_
                  refine lv_lload hx hb dX6_takePairs_91 (lv_at hl 0 rfl) ?_
                  refine lv_lconst (v := 1) hx hb dX6_takePairs_93 (by decide) ?_
                  refine lv_ladd hx hb dX6_takePairs_94 ?_
                  have hPc := hP.sub (ws' := [(h0, .inr (6, [.ref la, .ref si, .ref ce, .int r60, .int (nI k47), .ref fi, .ref se])), (la, .inl (G 0, 4, .inl fl)), (si, .inl (G 0, 4, .inl fz))]) [0, 1, 2] rfl
                  refine va_calli (va_runV (As := [.int (nI k), .long (v59 + 1)]) (rest := [.ref h0]) ⟨hx, hb, hml, hown, hg⟩ (c_X6_faultAt l dC dI G _ h0 la si ce fi se k r60 (nI k47) (v59 + 1) fl fz hk) (kwV hg mfX6_faultAt wt_846 ⟨Nat.le_of_ble_eq_true rfl, Nat.le_of_ble_eq_true rfl⟩) (preVR hK hPc (ci := 6) (r := (RX6, TX6, 7)) rfl rfl) rfl rfl hl.1 rfl (lv_room (Nat.le_of_ble_eq_true rfl)) dX6_takePairs_95 ⟨Nat.le_of_ble_eq_true rfl, Nat.le_of_ble_eq_true rfl⟩) hS (fun q h1 h2 => absurd h2 (Nat.not_le.mpr h1)) (fun q h => hA q (Nat.le_trans hS.1 h)) (fun r65 ur65 t H1 locs ht hvm w66 hB hz1 hk1 hS => ?_)
                  have hP := keepR hP hk1
                  obtain ⟨w66, w66x⟩ := w66
                  refine va_put (D := (dC, dI)) (ci := 6) (v := .int r65) (ty := .int) (C := RX6) (T := TX6) (N := 7) hx hb hg inG6 tyX6 tyX6_ok nmX6 hown hK.1 hP hD hS 0 rfl rfl 3 (Nat.le_of_ble_eq_true rfl) (hg _ wt_279) (fun _ h9 => h9) rfl (by decide +kernel) rfl rfl (Nat.le_of_ble_eq_true rfl) dX6_takePairs_98 (fun H locs hP hD hS => ?_)
                  obtain ⟨hP, hD⟩ := va_rls (ws' := (([(h0, .inr (6, [.ref la, .ref si, .ref ce, .int r65, .int (nI k47), .ref fi, .ref se])), (la, .inl (G 0, 4, .inl fl)), (si, .inl (G 0, 4, .inl fz)), (ce, .inl (G 4, 4, .inr (.inr (.inr (.inr (fun ir => if ir < 4 then some (rc ir) else none)))))), (fi, .inl (G 0, 20, .inl g48)), (se, .inl (G 0, 20, .inl g49))] : va_W) ++ ((((List.range 4).map (fun iq => (rc iq, .inl (G 0, 40, .inl (F iq))))) : va_W) ++ []))) hP hD rfl
                  refine lv_aload_n hx hb dX6_takePairs_101 rfl (lv_at hl 2 rfl) ?_
                  refine va_get (D := (dC, dI)) (ci := 6) (v := .int r65) (C := RX6) (T := TX6) (N := 7) hx hb hg inG6 hown hK.1 hP 0 rfl rfl 3 (Nat.le_of_ble_eq_true rfl) (hg _ wt_279) (fun _ h9 => h9) rfl dX6_takePairs_102 ?_
                  refine lv_if_ne (tgt := 154) hx hb dX6_takePairs_105 rfl (fun c67 => ?_) (fun c67 => ?_)
                  · skip
                    refine lv_iinc (v := nI (j44 + 1)) (lv' := [(5, .int (nI (j44 + 1))), (6, .long v59), (0, .ref h0), (1, .int (nI k)), (2, .int lane), (3, .int x1), (4, .int (nI nn))]) hx hb dX6_takePairs_154 hl (k := 1) rfl (by rw [show Int32.ofInt 1 = nI 1 from by decide]; exact nI_add _ _) (by decide) rfl (fun ls hl => ?_)
                    refine lv_goto (tgt := 37) hx hb dX6_takePairs_157 rfl ?_
                    exact ih37_50 (j44 + 1) (by omega) (by omega) r65 k47 g48 g49 _ _ ⟨hinv.1, hinv.2.1, Or.inr ⟨by assumption, (by have ea : v59.toInt = x1.toInt + 2 * (j44 : Int) := (by rw [ev59]; exact at64 x1 (by (have t_c1 := neI c1; have t_c33 := eqI c33; have t_hj52 := hj52; have t_hinv := hinv.2.2.2; have t_n55 := n55; have t_n57 := n57; have t_c58 := eqI c58; have t_b64 := b64; have t_c67 := neI c67; have tqz_ := qz0_; have tnb_ := nib4 tn2071_ tn2072_ tn2083_ tn2086_; have tqz_ := qz41_; omega))); have eb : (v59 + 1).toInt = v59.toInt + 1 := l1_e (by have := x1.toInt_lt; have := x1.le_toInt; (have t_c1 := neI c1; have t_c33 := eqI c33; have t_hj52 := hj52; have t_hinv := hinv.2.2.2; have t_n55 := n55; have t_n57 := n57; have t_c58 := eqI c58; have t_b64 := b64; have t_c67 := neI c67; have tqz_ := qz0_; have tnb_ := nib4 tn2071_ tn2072_ tn2083_ tn2086_; have tqz_ := qz41_; omega)) (by have := x1.toInt_lt; have := x1.le_toInt; (have t_c1 := neI c1; have t_c33 := eqI c33; have t_hj52 := hj52; have t_hinv := hinv.2.2.2; have t_n55 := n55; have t_n57 := n57; have t_c58 := eqI c58; have t_b64 := b64; have t_c67 := neI c67; have tqz_ := qz0_; have tnb_ := nib4 tn2071_ tn2072_ tn2083_ tn2086_; have tqz_ := qz41_; omega)); have g9 := (hinv.2.2.1.resolve_right (fun h9 => h9.1 (by first | with_reducible assumption | assumption))); exact tp_stop g9.2.1 g9.2.2.1 g9.2.2.2.1 g9.2.2.2.2 hlne (fa1 w66 (by first | with_reducible assumption | assumption) (by (have t_c1 := neI c1; have t_c33 := eqI c33; have t_hj52 := hj52; have t_hinv := hinv.2.2.2; have t_n55 := n55; have t_n57 := n57; have t_c58 := eqI c58; have t_b64 := b64; have t_c67 := neI c67; have tqz_ := qz0_; have tnb_ := nib4 tn2071_ tn2072_ tn2083_ tn2086_; have tqz_ := qz41_; omega))))⟩, (by have t_c1 := neI c1; have t_c33 := eqI c33; have t_hj52 := hj52; have t_hinv := hinv.2.2.2; have t_n55 := n55; have t_n57 := n57; have t_c58 := eqI c58; have t_b64 := b64; have t_c67 := neI c67; have tqz_ := qz0_; have tnb_ := nib4 tn2071_ tn2072_ tn2083_ tn2086_; have tqz_ := qz41_; omega), (by have t_c1 := neI c1; have t_c33 := eqI c33; have t_hj52 := hj52; have t_hinv := hinv.2.2.2; have t_n55 := n55; have t_n57 := n57; have t_c58 := eqI c58; have t_b64 := b64; have t_c67 := neI c67; have tqz_ := qz0_; have tnb_ := nib4 tn2071_ tn2072_ tn2083_ tn2086_; have tqz_ := qz41_; omega)⟩ hP hD hS ls (lv_sub hl [0, 2, 3, 4, 5, 6] rfl)
                  · skip
                    have b68 := fz0 w66 c67
                    refine lv_aload_n hx hb dX6_takePairs_108 rfl (lv_at hl 2 rfl) ?_
                    refine va_get (D := (dC, dI)) (ci := 6) (v := .ref fi) (C := RX6) (T := TX6) (N := 7) hx hb hg inG6 hown hK.1 hP 0 rfl rfl 5 (Nat.le_of_ble_eq_true rfl) (hg _ wt_283) (fun _ h9 => h9) rfl dX6_takePairs_109 ?_
                    refine lv_iload hx hb dX6_takePairs_112 (lv_at hl 1 rfl) ?_
                    refine lv_aload_n hx hb dX6_takePairs_114 rfl (lv_at hl 2 rfl) ?_
                    refine va_get (D := (dC, dI)) (ci := 6) (v := .ref ce) (C := RX6) (T := TX6) (N := 7) hx hb hg inG6 hown hK.1 hP 0 rfl rfl 2 (Nat.le_of_ble_eq_true rfl) (hg _ wt_278) (fun _ h9 => h9) rfl dX6_takePairs_115 ?_
                    refine lv_iload_n hx hb dX6_takePairs_118 rfl (lv_at hl 3 rfl) ?_
                    refine va_aldA hx hb hK.1 hP 3 4 rfl rfl (vp_in_nI (by first | omega | (have t_c1 := neI c1; have t_c33 := eqI c33; have t_hj52 := hj52; have t_hinv := hinv.2.2.2; have t_n55 := n55; have t_n57 := n57; have t_c58 := eqI c58; have t_b64 := b64; have t_b68 := b68; have tqz_ := qz0_; have tnb_ := nib4 tn2071_ tn2072_ tn2083_ tn2086_; omega)) (by decide)) dX6_takePairs_119 ?_
                    refine lv_cgv (y := .ref (rc k)) (rowref (by first | omega | (have t_c1 := neI c1; have t_c33 := eqI c33; have t_hj52 := hj52; have t_hinv := hinv.2.2.2; have t_n55 := n55; have t_n57 := n57; have t_c58 := eqI c58; have t_b64 := b64; have t_b68 := b68; have tqz_ := qz0_; have tnb_ := nib4 tn2071_ tn2072_ tn2083_ tn2086_; omega)) (by decide)) ?_
                    refine lv_lload hx hb dX6_takePairs_120 (lv_at hl 0 rfl) ?_
                    refine lv_l2i (v := _) hx hb dX6_takePairs_122 rfl ?_
                    refine lv_topi (fun v69 ev69 => ?_)
                    have hz70 := l2i_in (x := v59) (by have t_c1 := neI c1; have t_c33 := eqI c33; have t_hj52 := hj52; have t_hinv := hinv.2.2.2; have t_n55 := n55; have t_n57 := n57; have t_c58 := eqI c58; have t_b64 := b64; have t_b68 := b68; have tqz_ := qz0_; have tnb_ := nib4 tn2071_ tn2072_ tn2083_ tn2086_; omega) (by have t_c1 := neI c1; have t_c33 := eqI c33; have t_hj52 := hj52; have t_hinv := hinv.2.2.2; have t_n55 := n55; have t_n57 := n57; have t_c58 := eqI c58; have t_b64 := b64; have t_b68 := b68; have tqz_ := qz0_; have tnb_ := nib4 tn2071_ tn2072_ tn2083_ tn2086_; omega)
                    rw [← ev69] at hz70
                    refine va_iald hx hb hK.1 (blk_P (j := k) hP (by first | omega | (have t_c1 := neI c1; have t_c33 := eqI c33; have t_hj52 := hj52; have t_hinv := hinv.2.2.2; have t_n55 := n55; have t_n57 := n57; have t_c58 := eqI c58; have t_b64 := b64; have t_b68 := b68; have t_hz70 := hz70; have tqz_ := qz0_; have tnb_ := nib4 tn2071_ tn2072_ tn2083_ tn2086_; omega))) 0 0 rfl rfl (vp_in_iff.mpr (by have t_c1 := neI c1; have t_c33 := eqI c33; have t_hj52 := hj52; have t_hinv := hinv.2.2.2; have t_n55 := n55; have t_n57 := n57; have t_c58 := eqI c58; have t_b64 := b64; have t_b68 := b68; have t_hz70 := hz70; have tqz_ := qz0_; have tnb_ := nib4 tn2071_ tn2072_ tn2083_ tn2086_; constructor <;> omega)) dX6_takePairs_123 ?_
                    refine va_iast hx hb hK.1 hP hD hS 4 0 rfl rfl (vp_in_nI (by first | omega | (have t_c1 := neI c1; have t_c33 := eqI c33; have t_hj52 := hj52; have t_hinv := hinv.2.2.2; have t_n55 := n55; have t_n57 := n57; have t_c58 := eqI c58; have t_b64 := b64; have t_b68 := b68; have t_hz70 := hz70; have tqz_ := qz0_; have tnb_ := nib4 tn2071_ tn2072_ tn2083_ tn2086_; omega)) (by decide)) dX6_takePairs_124 (fun H locs hP hD hS => ?_)
                    rw [nI_clamp (by omega)] at hP hD
                    obtain ⟨hP, hD⟩ := va_rls (ws' := (([(h0, .inr (6, [.ref la, .ref si, .ref ce, .int r65, .int (nI k47), .ref fi, .ref se])), (la, .inl (G 0, 4, .inl fl)), (si, .inl (G 0, 4, .inl fz)), (ce, .inl (G 4, 4, .inr (.inr (.inr (.inr (fun ir => if ir < 4 then some (rc ir) else none)))))), (fi, .inl (G 0, 20, .inl (upd g48 j44 (F k v69.toNatClampNeg)))), (se, .inl (G 0, 20, .inl g49))] : va_W) ++ ((((List.range 4).map (fun iq => (rc iq, .inl (G 0, 40, .inl (F iq))))) : va_W) ++ []))) hP hD rfl
                    refine lv_aload_n hx hb dX6_takePairs_125 rfl (lv_at hl 2 rfl) ?_
                    refine va_get (D := (dC, dI)) (ci := 6) (v := .ref se) (C := RX6) (T := TX6) (N := 7) hx hb hg inG6 hown hK.1 hP 0 rfl rfl 6 (Nat.le_of_ble_eq_true rfl) (hg _ wt_285) (fun _ h9 => h9) rfl dX6_takePairs_126 ?_
                    refine lv_iload hx hb dX6_takePairs_129 (lv_at hl 1 rfl) ?_
                    refine lv_aload_n hx hb dX6_takePairs_131 rfl (lv_at hl 2 rfl) ?_
                    refine va_get (D := (dC, dI)) (ci := 6) (v := .ref ce) (C := RX6) (T := TX6) (N := 7) hx hb hg inG6 hown hK.1 hP 0 rfl rfl 2 (Nat.le_of_ble_eq_true rfl) (hg _ wt_278) (fun _ h9 => h9) rfl dX6_takePairs_132 ?_
                    refine lv_iload_n hx hb dX6_takePairs_135 rfl (lv_at hl 3 rfl) ?_
                    refine va_aldA hx hb hK.1 hP 3 4 rfl rfl (vp_in_nI (by first | omega | (have t_c1 := neI c1; have t_c33 := eqI c33; have t_hj52 := hj52; have t_hinv := hinv.2.2.2; have t_n55 := n55; have t_n57 := n57; have t_c58 := eqI c58; have t_b64 := b64; have t_b68 := b68; have t_hz70 := hz70; have tqz_ := qz0_; have tnb_ := nib4 tn2071_ tn2072_ tn2083_ tn2086_; omega)) (by decide)) dX6_takePairs_136 ?_
                    refine lv_cgv (y := .ref (rc k)) (rowref (by first | omega | (have t_c1 := neI c1; have t_c33 := eqI c33; have t_hj52 := hj52; have t_hinv := hinv.2.2.2; have t_n55 := n55; have t_n57 := n57; have t_c58 := eqI c58; have t_b64 := b64; have t_b68 := b68; have t_hz70 := hz70; have tqz_ := qz0_; have tnb_ := nib4 tn2071_ tn2072_ tn2083_ tn2086_; omega)) (by decide)) ?_
                    refine lv_lload hx hb dX6_takePairs_137 (lv_at hl 0 rfl) ?_
                    refine lv_l2i (v := _) hx hb dX6_takePairs_139 rfl ?_
                    refine lv_topi (fun v71 ev71 => ?_)
                    have hz72 := l2i_in (x := v59) (by have t_c1 := neI c1; have t_c33 := eqI c33; have t_hj52 := hj52; have t_hinv := hinv.2.2.2; have t_n55 := n55; have t_n57 := n57; have t_c58 := eqI c58; have t_b64 := b64; have t_b68 := b68; have t_hz70 := hz70; have tqz_ := qz0_; have tnb_ := nib4 tn2071_ tn2072_ tn2083_ tn2086_; omega) (by have t_c1 := neI c1; have t_c33 := eqI c33; have t_hj52 := hj52; have t_hinv := hinv.2.2.2; have t_n55 := n55; have t_n57 := n57; have t_c58 := eqI c58; have t_b64 := b64; have t_b68 := b68; have t_hz70 := hz70; have tqz_ := qz0_; have tnb_ := nib4 tn2071_ tn2072_ tn2083_ tn2086_; omega)
                    rw [← ev71] at hz72
                    refine lv_iconst (v := 1) hx hb dX6_takePairs_140 rfl ?_
                    refine lv_iadd hx hb dX6_takePairs_141 ?_
                    have hi73 : (v71 + 1).toInt = v71.toInt + 1 := i1_in (by have t_c1 := neI c1; have t_c33 := eqI c33; have t_hj52 := hj52; have t_hinv := hinv.2.2.2; have t_n55 := n55; have t_n57 := n57; have t_c58 := eqI c58; have t_b64 := b64; have t_b68 := b68; have t_hz70 := hz70; have t_hz72 := hz72; have tqz_ := qz0_; have tnb_ := nib4 tn2071_ tn2072_ tn2083_ tn2086_; omega) (by have t_c1 := neI c1; have t_c33 := eqI c33; have t_hj52 := hj52; have t_hinv := hinv.2.2.2; have t_n55 := n55; have t_n57 := n57; have t_c58 := eqI c58; have t_b64 := b64; have t_b68 := b68; have t_hz70 := hz70; have t_hz72 := hz72; have tqz_ := qz0_; have tnb_ := nib4 tn2071_ tn2072_ tn2083_ tn2086_; omega)
                    have hl74 := l1_in (x := v59) (by have t_c1 := neI c1; have t_c33 := eqI c33; have t_hj52 := hj52; have t_hinv := hinv.2.2.2; have t_n55 := n55; have t_n57 := n57; have t_c58 := eqI c58; have t_b64 := b64; have t_b68 := b68; have t_hz70 := hz70; have t_hz72 := hz72; have tqz_ := qz0_; have tnb_ := nib4 tn2071_ tn2072_ tn2083_ tn2086_; omega) (by have t_c1 := neI c1; have t_c33 := eqI c33; have t_hj52 := hj52; have t_hinv := hinv.2.2.2; have t_n55 := n55; have t_n57 := n57; have t_c58 := eqI c58; have t_b64 := b64; have t_b68 := b68; have t_hz70 := hz70; have t_hz72 := hz72; have tqz_ := qz0_; have tnb_ := nib4 tn2071_ tn2072_ tn2083_ tn2086_; omega) (show (v59 + 1).toInt < (fz k).toInt by have t_c1 := neI c1; have t_c33 := eqI c33; have t_hj52 := hj52; have t_hinv := hinv.2.2.2; have t_n55 := n55; have t_n57 := n57; have t_c58 := eqI c58; have t_b64 := b64; have t_b68 := b68; have t_hz70 := hz70; have t_hz72 := hz72; have tqz_ := qz0_; have tnb_ := nib4 tn2071_ tn2072_ tn2083_ tn2086_; omega)
                    refine va_iald hx hb hK.1 (blk_P (j := k) hP (by first | omega | (have t_c1 := neI c1; have t_c33 := eqI c33; have t_hj52 := hj52; have t_hinv := hinv.2.2.2; have t_n55 := n55; have t_n57 := n57; have t_c58 := eqI c58; have t_b64 := b64; have t_b68 := b68; have t_hz70 := hz70; have t_hz72 := hz72; have t_hi73 := hi73; have t_hl74 := hl74; have tqz_ := qz0_; have tnb_ := nib4 tn2071_ tn2072_ tn2083_ tn2086_; omega))) 0 0 rfl rfl (vp_in_iff.mpr (by have t_c1 := neI c1; have t_c33 := eqI c33; have t_hj52 := hj52; have t_hinv := hinv.2.2.2; have t_n55 := n55; have t_n57 := n57; have t_c58 := eqI c58; have t_b64 := b64; have t_b68 := b68; have t_hz70 := hz70; have t_hz72 := hz72; have t_hi73 := hi73; have t_hl74 := hl74; have tqz_ := qz0_; have tnb_ := nib4 tn2071_ tn2072_ tn2083_ tn2086_; constructor <;> omega)) dX6_takePairs_142 ?_
                    refine va_iast hx hb hK.1 hP hD hS 5 0 rfl rfl (vp_in_nI (by first | omega | (have t_c1 := neI c1; have t_c33 := eqI c33; have t_hj52 := hj52; have t_hinv := hinv.2.2.2; have t_n55 := n55; have t_n57 := n57; have t_c58 := eqI c58; have t_b64 := b64; have t_b68 := b68; have t_hz70 := hz70; have t_hz72 := hz72; have t_hi73 := hi73; have t_hl74 := hl74; have tqz_ := qz0_; have tnb_ := nib4 tn2071_ tn2072_ tn2083_ tn2086_; omega)) (by decide)) dX6_takePairs_143 (fun H locs hP hD hS => ?_)
                    rw [nI_clamp (by omega)] at hP hD
                    obtain ⟨hP, hD⟩ := va_rls (ws' := (([(h0, .inr (6, [.ref la, .ref si, .ref ce, .int r65, .int (nI k47), .ref fi, .ref se])), (la, .inl (G 0, 4, .inl fl)), (si, .inl (G 0, 4, .inl fz)), (ce, .inl (G 4, 4, .inr (.inr (.inr (.inr (fun ir => if ir < 4 then some (rc ir) else none)))))), (fi, .inl (G 0, 20, .inl (upd g48 j44 (F k v69.toNatClampNeg)))), (se, .inl (G 0, 20, .inl (upd g49 j44 (F k (v71 + 1).toNatClampNeg))))] : va_W) ++ ((((List.range 4).map (fun iq => (rc iq, .inl (G 0, 40, .inl (F iq))))) : va_W) ++ []))) hP hD rfl
                    refine lv_aload_n hx hb dX6_takePairs_144 rfl (lv_at hl 2 rfl) ?_
                    refine lv_dup hx hb dX6_takePairs_145 rfl ?_
                    refine va_get (D := (dC, dI)) (ci := 6) (v := .int (nI k47)) (C := RX6) (T := TX6) (N := 7) hx hb hg inG6 hown hK.1 hP 0 rfl rfl 4 (Nat.le_of_ble_eq_true rfl) (hg _ wt_281) (fun _ h9 => h9) rfl dX6_takePairs_146 ?_
                    refine lv_iconst (v := 1) hx hb dX6_takePairs_149 rfl ?_
                    refine lv_iadd hx hb dX6_takePairs_150 ?_
                    refine lv_cg (y := nI (k47 + 1)) (by rw [show (1 : Int32) = nI 1 from rfl]; exact nI_add _ _) ?_
                    refine va_put (D := (dC, dI)) (ci := 6) (v := .int (nI (k47 + 1))) (ty := .int) (C := RX6) (T := TX6) (N := 7) hx hb hg inG6 tyX6 tyX6_ok nmX6 hown hK.1 hP hD hS 0 rfl rfl 4 (Nat.le_of_ble_eq_true rfl) (hg _ wt_281) (fun _ h9 => h9) rfl (by decide +kernel) rfl rfl (Nat.le_of_ble_eq_true rfl) dX6_takePairs_151 (fun H locs hP hD hS => ?_)
                    obtain ⟨hP, hD⟩ := va_rls (ws' := (([(h0, .inr (6, [.ref la, .ref si, .ref ce, .int r65, .int (nI (k47 + 1)), .ref fi, .ref se])), (la, .inl (G 0, 4, .inl fl)), (si, .inl (G 0, 4, .inl fz)), (ce, .inl (G 4, 4, .inr (.inr (.inr (.inr (fun ir => if ir < 4 then some (rc ir) else none)))))), (fi, .inl (G 0, 20, .inl (upd g48 j44 (F k v69.toNatClampNeg)))), (se, .inl (G 0, 20, .inl (upd g49 j44 (F k (v71 + 1).toNatClampNeg))))] : va_W) ++ ((((List.range 4).map (fun iq => (rc iq, .inl (G 0, 40, .inl (F iq))))) : va_W) ++ []))) hP hD rfl
                    refine lv_iinc (v := nI (j44 + 1)) (lv' := [(5, .int (nI (j44 + 1))), (6, .long v59), (0, .ref h0), (1, .int (nI k)), (2, .int lane), (3, .int x1), (4, .int (nI nn))]) hx hb dX6_takePairs_154 hl (k := 1) rfl (by rw [show Int32.ofInt 1 = nI 1 from by decide]; exact nI_add _ _) (by decide) rfl (fun ls hl => ?_)
                    refine lv_goto (tgt := 37) hx hb dX6_takePairs_157 rfl ?_
                    exact ih37_50 (j44 + 1) (by omega) (by omega) r65 (k47 + 1) (upd g48 j44 (F k v69.toNatClampNeg)) (upd g49 j44 (F k (v71 + 1).toNatClampNeg)) _ _ (by have ea : v59.toInt = x1.toInt + 2 * (j44 : Int) := (by rw [ev59]; exact at64 x1 (by (have t_c1 := neI c1; have t_c33 := eqI c33; have t_hj52 := hj52; have t_hinv := hinv.2.2.2; have t_n55 := n55; have t_n57 := n57; have t_c58 := eqI c58; have t_b64 := b64; have t_b68 := b68; have t_hz70 := hz70; have t_hz72 := hz72; have t_hi73 := hi73; have t_hl74 := hl74; have tqz_ := qz0_; have tnb_ := nib4 tn2071_ tn2072_ tn2083_ tn2086_; have tqz_ := qz41_; omega))); have eb : (v59 + 1).toInt = v59.toInt + 1 := l1_e (by have := x1.toInt_lt; have := x1.le_toInt; (have t_c1 := neI c1; have t_c33 := eqI c33; have t_hj52 := hj52; have t_hinv := hinv.2.2.2; have t_n55 := n55; have t_n57 := n57; have t_c58 := eqI c58; have t_b64 := b64; have t_b68 := b68; have t_hz70 := hz70; have t_hz72 := hz72; have t_hi73 := hi73; have t_hl74 := hl74; have tqz_ := qz0_; have tnb_ := nib4 tn2071_ tn2072_ tn2083_ tn2086_; have tqz_ := qz41_; omega)) (by have := x1.toInt_lt; have := x1.le_toInt; (have t_c1 := neI c1; have t_c33 := eqI c33; have t_hj52 := hj52; have t_hinv := hinv.2.2.2; have t_n55 := n55; have t_n57 := n57; have t_c58 := eqI c58; have t_b64 := b64; have t_b68 := b68; have t_hz70 := hz70; have t_hz72 := hz72; have t_hi73 := hi73; have t_hl74 := hl74; have tqz_ := qz0_; have tnb_ := nib4 tn2071_ tn2072_ tn2083_ tn2086_; have tqz_ := qz41_; omega)); have g9 := (hinv.2.2.1.resolve_right (fun h9 => h9.1 (by first | with_reducible assumption | assumption))); have g8 := g9.2.1; refine ⟨?_, ?_, Or.inl ⟨by assumption, by (have t_c1 := neI c1; have t_c33 := eqI c33; have t_hj52 := hj52; have t_hinv := hinv.2.2.2; have t_n55 := n55; have t_n57 := n57; have t_c58 := eqI c58; have t_b64 := b64; have t_b68 := b68; have t_hz70 := hz70; have t_hz72 := hz72; have t_hi73 := hi73; have t_hl74 := hl74; have tqz_ := qz0_; have tnb_ := nib4 tn2071_ tn2072_ tn2083_ tn2086_; have tqz_ := qz41_; omega), fun h9 => absurd h9 (tp_ne w66 (by first | with_reducible assumption | assumption)), g9.2.2.2.1, ?_⟩, by (have t_c1 := neI c1; have t_c33 := eqI c33; have t_hj52 := hj52; have t_hinv := hinv.2.2.2; have t_n55 := n55; have t_n57 := n57; have t_c58 := eqI c58; have t_b64 := b64; have t_b68 := b68; have t_hz70 := hz70; have t_hz72 := hz72; have t_hi73 := hi73; have t_hl74 := hl74; have tqz_ := qz0_; have tnb_ := nib4 tn2071_ tn2072_ tn2083_ tn2086_; have tqz_ := qz41_; omega), by (have t_c1 := neI c1; have t_c33 := eqI c33; have t_hj52 := hj52; have t_hinv := hinv.2.2.2; have t_n55 := n55; have t_n57 := n57; have t_c58 := eqI c58; have t_b64 := b64; have t_b68 := b68; have t_hz70 := hz70; have t_hz72 := hz72; have t_hi73 := hi73; have t_hl74 := hl74; have tqz_ := qz0_; have tnb_ := nib4 tn2071_ tn2072_ tn2083_ tn2086_; have tqz_ := qz41_; omega)⟩; (have q1 := tp_put (F := F) (k := k) (c := 0) (x := v69) (fun q9 h9 => hinv.1 q9 (by (have t_c1 := neI c1; have t_c33 := eqI c33; have t_hj52 := hj52; have t_hinv := hinv.2.2.2; have t_n55 := n55; have t_n57 := n57; have t_c58 := eqI c58; have t_b64 := b64; have t_b68 := b68; have t_hz70 := hz70; have t_hz72 := hz72; have t_hi73 := hi73; have t_hl74 := hl74; have tqz_ := qz0_; have tnb_ := nib4 tn2071_ tn2072_ tn2083_ tn2086_; have tqz_ := qz41_; omega))) (show _ = x1.toInt + 2 * (j44 : Int) + 0 by (have t_c1 := neI c1; have t_c33 := eqI c33; have t_hj52 := hj52; have t_hinv := hinv.2.2.2; have t_n55 := n55; have t_n57 := n57; have t_c58 := eqI c58; have t_b64 := b64; have t_b68 := b68; have t_hz70 := hz70; have t_hz72 := hz72; have t_hi73 := hi73; have t_hl74 := hl74; have tqz_ := qz0_; have tnb_ := nib4 tn2071_ tn2072_ tn2083_ tn2086_; have tqz_ := qz41_; omega)); exact fun q9 h9 => q1 q9 (by (have t_c1 := neI c1; have t_c33 := eqI c33; have t_hj52 := hj52; have t_hinv := hinv.2.2.2; have t_n55 := n55; have t_n57 := n57; have t_c58 := eqI c58; have t_b64 := b64; have t_b68 := b68; have t_hz70 := hz70; have t_hz72 := hz72; have t_hi73 := hi73; have t_hl74 := hl74; have tqz_ := qz0_; have tnb_ := nib4 tn2071_ tn2072_ tn2083_ tn2086_; have tqz_ := qz41_; omega))); (have q1 := tp_put (F := F) (k := k) (c := 1) (x := (v71 + 1)) (fun q9 h9 => hinv.2.1 q9 (by (have t_c1 := neI c1; have t_c33 := eqI c33; have t_hj52 := hj52; have t_hinv := hinv.2.2.2; have t_n55 := n55; have t_n57 := n57; have t_c58 := eqI c58; have t_b64 := b64; have t_b68 := b68; have t_hz70 := hz70; have t_hz72 := hz72; have t_hi73 := hi73; have t_hl74 := hl74; have tqz_ := qz0_; have tnb_ := nib4 tn2071_ tn2072_ tn2083_ tn2086_; have tqz_ := qz41_; omega))) (show _ = x1.toInt + 2 * (j44 : Int) + 1 by (have t_c1 := neI c1; have t_c33 := eqI c33; have t_hj52 := hj52; have t_hinv := hinv.2.2.2; have t_n55 := n55; have t_n57 := n57; have t_c58 := eqI c58; have t_b64 := b64; have t_b68 := b68; have t_hz70 := hz70; have t_hz72 := hz72; have t_hi73 := hi73; have t_hl74 := hl74; have tqz_ := qz0_; have tnb_ := nib4 tn2071_ tn2072_ tn2083_ tn2086_; have tqz_ := qz41_; omega)); exact fun q9 h9 => q1 q9 (by (have t_c1 := neI c1; have t_c33 := eqI c33; have t_hj52 := hj52; have t_hinv := hinv.2.2.2; have t_n55 := n55; have t_n57 := n57; have t_c58 := eqI c58; have t_b64 := b64; have t_b68 := b68; have t_hz70 := hz70; have t_hz72 := hz72; have t_hi73 := hi73; have t_hl74 := hl74; have tqz_ := qz0_; have tnb_ := nib4 tn2071_ tn2072_ tn2083_ tn2086_; have tqz_ := qz41_; omega))); (rw [← tpM_go (by (have t_c1 := neI c1; have t_c33 := eqI c33; have t_hj52 := hj52; have t_hinv := hinv.2.2.2; have t_n55 := n55; have t_n57 := n57; have t_c58 := eqI c58; have t_b64 := b64; have t_b68 := b68; have t_hz70 := hz70; have t_hz72 := hz72; have t_hi73 := hi73; have t_hl74 := hl74; have tqz_ := qz0_; have tnb_ := nib4 tn2071_ tn2072_ tn2083_ tn2086_; have tqz_ := qz41_; omega)) (by (have t_c1 := neI c1; have t_c33 := eqI c33; have t_hj52 := hj52; have t_hinv := hinv.2.2.2; have t_n55 := n55; have t_n57 := n57; have t_c58 := eqI c58; have t_b64 := b64; have t_b68 := b68; have t_hz70 := hz70; have t_hz72 := hz72; have t_hi73 := hi73; have t_hl74 := hl74; have tqz_ := qz0_; have tnb_ := nib4 tn2071_ tn2072_ tn2083_ tn2086_; have tqz_ := qz41_; omega))]; exact g9.2.2.2.2)) hP hD hS ls (lv_sub hl [0, 2, 3, 4, 5, 6] rfl)
      exact loop37_50 (20 + 1) 0 (by omega) (by omega) 0 0 f1 f2 _ _ ⟨fun q9 h9 => absurd h9 (Nat.not_lt_zero _), fun q9 h9 => absurd h9 (Nat.not_lt_zero _), Or.inl ⟨rfl, rfl, fun _ => rfl, (by first | exact fun _ => (by first | with_reducible assumption | assumption) | exact fun h9 => absurd (by first | with_reducible assumption | assumption) h9), rfl⟩, Nat.zero_le _, Nat.zero_le _⟩ hP hD hS ls (lv_sub hl [0, 1, 2, 3, 4, 5] rfl)

set_option maxHeartbeats 1000000 in
set_option maxRecDepth 100000 in
theorem c_X10_putE (l : Launch) (dC : Nat → ClassId) (dI : Nat → Nat → Nat) (G : Nat → ClassId) (sz : Nat) (h0 rd wy tr im kp od ch cr le mk tl sh a1 a2 a3 a4 a5 a6 N B D : Nat) (tf rf i k : Int32) (f3 : Nat → Int32) (hN_N : N ≤ 10) (hB_B : B ≤ 6) (hD_D : 1 ≤ D ∧ D ≤ 9) : Met l yX10_put (Cond.code yX10_put cX10_put 4 (some .int) :: GT) ({ frames := 1, cells := 0, slots := 0, locals := 21 } : Room) (PcW [.ref h0, .int i, .int k] dC dI G [(h0, .inr (10, [.ref rd, .ref wy, .ref tr, .ref im, .ref kp, .ref od, .ref ch, .ref cr, .ref le, .ref mk, .ref tl, .ref sh, .int tf, .int rf])), (wy, .inr (9, [.int (nI N), .int (nI B), .int (nI D), .ref a1, .ref a2, .ref a3, .ref a4, .ref a5, .ref a6])), (a3, .inl (G 0, 10, .inl f3))] sz) (va_Qi (fun (r : Int32) (u : (Nat → Int32)) => match u with | u0 => (r = if ((0 ≤ i.toInt ∧ i.toInt < ((N : Nat) : Int)) ∧ (0 ≤ k.toInt ∧ k.toInt < ((B : Nat) : Int))) then f3 i.toNatClampNeg else -1) ∧ u0 = (if ((0 ≤ i.toInt ∧ i.toInt < ((N : Nat) : Int)) ∧ (0 ≤ k.toInt ∧ k.toInt < ((B : Nat) : Int))) then upd f3 i.toNatClampNeg k else f3)) (fun (u : (Nat → Int32)) (t : State) => match u with | u0 => va_P (dC, dI) vwCl [(h0, .inr (10, [.ref rd, .ref wy, .ref tr, .ref im, .ref kp, .ref od, .ref ch, .ref cr, .ref le, .ref mk, .ref tl, .ref sh, .int tf, .int rf])), (wy, .inr (9, [.int (nI N), .int (nI B), .int (nI D), .ref a1, .ref a2, .ref a3, .ref a4, .ref a5, .ref a6])), (a3, .inl (G 0, 10, .inl u0))] t.heap ∧ va_D (va_A [(h0, .inr (10, [.ref rd, .ref wy, .ref tr, .ref im, .ref kp, .ref od, .ref ch, .ref cr, .ref le, .ref mk, .ref tl, .ref sh, .int tf, .int rf])), (wy, .inr (9, [.int (nI N), .int (nI B), .int (nI D), .ref a1, .ref a2, .ref a3, .ref a4, .ref a5, .ref a6])), (a3, .inl (G 0, 10, .inl f3))] sz) [(h0, .inr (10, [.ref rd, .ref wy, .ref tr, .ref im, .ref kp, .ref od, .ref ch, .ref cr, .ref le, .ref mk, .ref tl, .ref sh, .int tf, .int rf])), (wy, .inr (9, [.int (nI N), .int (nI B), .int (nI D), .ref a1, .ref a2, .ref a3, .ref a4, .ref a5, .ref a6])), (a3, .inl (G 0, 10, .inl u0))]) (va_A [(h0, .inr (10, [.ref rd, .ref wy, .ref tr, .ref im, .ref kp, .ref od, .ref ch, .ref cr, .ref le, .ref mk, .ref tl, .ref sh, .int tf, .int rf])), (wy, .inr (9, [.int (nI N), .int (nI B), .int (nI D), .ref a1, .ref a2, .ref a3, .ref a4, .ref a5, .ref a6])), (a3, .inl (G 0, 10, .inl f3))] sz)) 0 0 (va_A [(h0, .inr (10, [.ref rd, .ref wy, .ref tr, .ref im, .ref kp, .ref od, .ref ch, .ref cr, .ref le, .ref mk, .ref tl, .ref sh, .int tf, .int rf])), (wy, .inr (9, [.int (nI N), .int (nI B), .int (nI D), .ref a1, .ref a2, .ref a3, .ref a4, .ref a5, .ref a6])), (a3, .inl (G 0, 10, .inl f3))] sz) := by
  have tn2090_ : nIT N := fun _ => nI_toInt (by omega)
  have tn2091_ : nIT B := fun _ => nI_toInt (by omega)
  have tn2092_ : nIT D := fun _ => nI_toInt (by omega)
  refine Met.ofW (cc := cX10_put) (maxL := 4) (ret := (some .int)) (by decide) rfl ?_
  intro p e s m args below meth c s₁ Bd hml hv
  obtain ⟨rfl, hsz, hP, hK, hD0⟩ := hv
  have hx := Bd.exec
  have hb := Bd.bytes
  have hr := Bd.returns
  have hg : ∀ w ∈ GT, w.before ([.ref h0, .int i, .int k] : List Value).toArray s = true := fun w h => atoms_spec (ws := Cond.code yX10_put cX10_put 4 (some .int) :: GT) Bd.pre w (List.mem_cons_of_mem _ h)
  have hown : s.vm.findClass RX10 = some m.cls := findClass_of_methodNamed Bd.named
  have hlocks := Bd.notSynchronized
  subst hsz
  have hD := hD0.self (sz := s.heap.size)
  generalize hAe : va_A [(h0, .inr (10, [.ref rd, .ref wy, .ref tr, .ref im, .ref kp, .ref od, .ref ch, .ref cr, .ref le, .ref mk, .ref tl, .ref sh, .int tf, .int rf])), (wy, .inr (9, [.int (nI N), .int (nI B), .int (nI D), .ref a1, .ref a2, .ref a3, .ref a4, .ref a5, .ref a6])), (a3, .inl (G 0, 10, .inl f3))] s.heap.size = A at hD ⊢
  have hA : ∀ q : Nat, s.heap.size ≤ q → A q := fun q h => by rw [← hAe]; exact Or.inr h
  have hS : va_S A s.heap s.heap [] := va_S.rf
  have hl := lv_entry ([.ref h0, .int i, .int k]) (n := 4) (Nat.le_of_ble_eq_true rfl)
  rw [lg_entry_eq]
  generalize (lg_sl ([.ref h0, .int i, .int k]) ++ List.replicate (4 - (lg_sl ([.ref h0, .int i, .int k])).length) Slot.unset).toArray = ls at hl ⊢
  have hl : lv_has ls 4 [(0, .ref h0), (1, .int i), (2, .int k)] := hl
  refine lv_aload_n hx hb dX10_put_0 rfl (lv_at hl 0 rfl) ?_
  refine va_get (D := (dC, dI)) (ci := 10) (v := .ref wy) (C := RX10) (T := TX10) (N := 14) hx hb hg inG10 hown hK.1 hP 0 rfl rfl 1 (Nat.le_of_ble_eq_true rfl) (hg _ wt_303) (fun _ h9 => h9) rfl dX10_put_1 ?_
  refine lv_iload_n hx hb dX10_put_4 rfl (lv_at hl 1 rfl) ?_
  have hPc := hP.sub (ws' := [(wy, .inr (9, [.int (nI N), .int (nI B), .int (nI D), .ref a1, .ref a2, .ref a3, .ref a4, .ref a5, .ref a6]))]) [1] rfl
  refine va_calli (va_runVN (As := [.int i]) (rest := []) ⟨hx, hb, hml, hown, hg⟩ (c_X9_hasStretch l dC dI G _ wy a1 a2 a3 a4 a5 a6 N B D i hN_N hB_B hD_D) (kwVN hg hK mfX9_hasStretch wn_527 ⟨Nat.le_of_ble_eq_true rfl, Nat.le_of_ble_eq_true rfl⟩) (preVR hK hPc (ci := 9) (r := (RX9, TX9, 9)) rfl rfl) rfl rfl hl.1 rfl (lv_room (Nat.le_of_ble_eq_true rfl)) dX10_put_5 ⟨Nat.le_of_ble_eq_true rfl, Nat.le_of_ble_eq_true rfl⟩) hS (fun q h1 h2 => absurd h2 (Nat.not_le.mpr h1)) (fun q h => hA q (Nat.le_trans hS.1 h)) (fun r1 ur1 t H1 locs ht hvm w2 hB hz1 hk1 hS => ?_)
  have hP := keepR hP hk1
  obtain ⟨w2, w2x⟩ := w2
  try simp only [l_ii, show (0 : Int32).toInt = 0 from by decide] at w2
  try rw [show (nI (N)).toInt = ((N : Nat) : Int) from tn2090_ ()] at w2
  subst w2
  refine lv_if_eq (tgt := 22) hx hb dX10_put_8 rfl (fun c3 => ?_) (fun c3 => ?_)
  · skip
    have b4 := if10_n c3
    refine lv_iconst (v := (-1)) hx hb dX10_put_22 rfl ?_
    have hpost : ((-1) : Int32) = if ((0 ≤ i.toInt ∧ i.toInt < ((N : Nat) : Int)) ∧ (0 ≤ k.toInt ∧ k.toInt < ((B : Nat) : Int))) then f3 i.toNatClampNeg else -1 := by
      have t_b4 := b4
      have t_n0 : (nI N).toInt = (N : Int) := tn2090_ ()
      have t_n1 : (nI B).toInt = (B : Int) := tn2091_ ()
      have t_n2 : (nI D).toInt = (D : Int) := tn2092_ ()
      have z0 : (0 : Int32).toInt = 0 := qI_0
      have z1 : (1 : Int32).toInt = 1 := qI_1
      have z2 : (2 : Int32).toInt = 2 := qI_2
      have z3 : (3 : Int32).toInt = 3 := qI_3
      have z5 : (5 : Int32).toInt = 5 := qI_5
      have z9 : (9 : Int32).toInt = 9 := qI_9
      have z20 : (20 : Int32).toInt = 20 := qI_20
      have z4 : (-4 : Int32).toInt = -4 := (by decide)
      have z10 : (10 : Int32).toInt = 10 := qI_10
      first | (rw [if_neg (by omega)]; done) | (rw [if_pos (by omega)]; done)
    obtain ⟨hP9, hD9⟩ := va_sub2 (ws' := [(h0, .inr (10, [.ref rd, .ref wy, .ref tr, .ref im, .ref kp, .ref od, .ref ch, .ref cr, .ref le, .ref mk, .ref tl, .ref sh, .int tf, .int rf])), (wy, .inr (9, [.int (nI N), .int (nI B), .int (nI D), .ref a1, .ref a2, .ref a3, .ref a4, .ref a5, .ref a6])), (a3, .inl (G 0, 10, .inl f3))]) hP hD [0, 1, 2] (by decide +kernel) rfl
    refine W.widen (k := 0) (n := 0) (Nat.le_of_ble_eq_true rfl) (Nat.le_of_ble_eq_true rfl) ?_
    exact W.iret (v := (-1)) hx hb hr (fun t ht hW => ⟨⟨(-1), f3, rfl, ⟨hpost, (by have t_b4 := b4; have tnb_ := nib3 tn2090_ tn2091_ tn2092_; have tqz_ := qz46_; have z4 : (-4 : Int32).toInt = -4 := (by decide); have z10 : (10 : Int32).toInt = 10 := qI_10; first | (rw [if_neg (by omega)]; done) | (rw [if_pos (by omega)]; done))⟩, ⟨by rw [ht]; exact hP9, hD9⟩⟩, hS.F ht⟩) hS.2.2 dX10_put_23
  · skip
    have b5 := if10_p c3
    refine lv_aload_n hx hb dX10_put_11 rfl (lv_at hl 0 rfl) ?_
    refine va_get (D := (dC, dI)) (ci := 10) (v := .ref wy) (C := RX10) (T := TX10) (N := 14) hx hb hg inG10 hown hK.1 hP 0 rfl rfl 1 (Nat.le_of_ble_eq_true rfl) (hg _ wt_303) (fun _ h9 => h9) rfl dX10_put_12 ?_
    refine lv_iload_n hx hb dX10_put_15 rfl (lv_at hl 2 rfl) ?_
    have hPc := hP.sub (ws' := [(wy, .inr (9, [.int (nI N), .int (nI B), .int (nI D), .ref a1, .ref a2, .ref a3, .ref a4, .ref a5, .ref a6]))]) [1] rfl
    refine va_calli (va_runVN (As := [.int k]) (rest := []) ⟨hx, hb, hml, hown, hg⟩ (c_X9_hasBearer l dC dI G _ wy a1 a2 a3 a4 a5 a6 N B D k hN_N hB_B hD_D) (kwVN hg hK mfX9_hasBearer wn_535 ⟨Nat.le_of_ble_eq_true rfl, Nat.le_of_ble_eq_true rfl⟩) (preVR hK hPc (ci := 9) (r := (RX9, TX9, 9)) rfl rfl) rfl rfl hl.1 rfl (lv_room (Nat.le_of_ble_eq_true rfl)) dX10_put_16 ⟨Nat.le_of_ble_eq_true rfl, Nat.le_of_ble_eq_true rfl⟩) hS (fun q h1 h2 => absurd h2 (Nat.not_le.mpr h1)) (fun q h => hA q (Nat.le_trans hS.1 h)) (fun r6 ur6 t H1 locs ht hvm w7 hB hz1 hk1 hS => ?_)
    have hP := keepR hP hk1
    obtain ⟨w7, w7x⟩ := w7
    try simp only [l_ii, show (0 : Int32).toInt = 0 from by decide] at w7
    try rw [show (nI (B)).toInt = ((B : Nat) : Int) from tn2091_ ()] at w7
    subst w7
    refine lv_if_ne (tgt := 24) hx hb dX10_put_19 rfl (fun c8 => ?_) (fun c8 => ?_)
    · skip
      have b9 := if10_p c8
      refine lv_aload_n hx hb dX10_put_24 rfl (lv_at hl 0 rfl) ?_
      refine va_get (D := (dC, dI)) (ci := 10) (v := .ref wy) (C := RX10) (T := TX10) (N := 14) hx hb hg inG10 hown hK.1 hP 0 rfl rfl 1 (Nat.le_of_ble_eq_true rfl) (hg _ wt_303) (fun _ h9 => h9) rfl dX10_put_25 ?_
      refine va_getN (D := (dC, dI)) (ci := 9) (v := .ref a3) (C := RX9) (T := TX9) (N := 9) hx hb hg inG9 hown hK.1 hP 1 rfl rfl 5 (Nat.le_of_ble_eq_true rfl) (hK.nest wn_78) (fun _ h9 => h9) rfl dX10_put_28 ?_
      refine lv_iload_n hx hb dX10_put_31 rfl (lv_at hl 1 rfl) ?_
      refine va_iald hx hb hK.1 hP 2 0 rfl rfl (vp_in_iff.mpr (by have t_b5 := b5; have t_b9 := b9; have tnb_ := nib3 tn2090_ tn2091_ tn2092_; constructor <;> omega)) dX10_put_32 ?_
      refine lv_istore_n (lv' := [(3, .int (f3 i.toNatClampNeg)), (0, .ref h0), (1, .int i), (2, .int k)]) hx hb dX10_put_33 rfl hl (by decide) rfl (fun ls hl => ?_)
      refine lv_aload_n hx hb dX10_put_34 rfl (lv_at hl 1 rfl) ?_
      refine va_get (D := (dC, dI)) (ci := 10) (v := .ref wy) (C := RX10) (T := TX10) (N := 14) hx hb hg inG10 hown hK.1 hP 0 rfl rfl 1 (Nat.le_of_ble_eq_true rfl) (hg _ wt_303) (fun _ h9 => h9) rfl dX10_put_35 ?_
      refine va_getN (D := (dC, dI)) (ci := 9) (v := .ref a3) (C := RX9) (T := TX9) (N := 9) hx hb hg inG9 hown hK.1 hP 1 rfl rfl 5 (Nat.le_of_ble_eq_true rfl) (hK.nest wn_78) (fun _ h9 => h9) rfl dX10_put_38 ?_
      refine lv_iload_n hx hb dX10_put_41 rfl (lv_at hl 2 rfl) ?_
      refine lv_iload_n hx hb dX10_put_42 rfl (lv_at hl 3 rfl) ?_
      refine va_iast hx hb hK.1 hP hD hS 2 0 rfl rfl (vp_in_iff.mpr (by have t_b5 := b5; have t_b9 := b9; have tnb_ := nib3 tn2090_ tn2091_ tn2092_; constructor <;> omega)) dX10_put_43 (fun H locs hP hD hS => ?_)
      refine lv_iload_n hx hb dX10_put_44 rfl (lv_at hl 0 rfl) ?_
      have hpost : (f3 i.toNatClampNeg : Int32) = if ((0 ≤ i.toInt ∧ i.toInt < ((N : Nat) : Int)) ∧ (0 ≤ k.toInt ∧ k.toInt < ((B : Nat) : Int))) then f3 i.toNatClampNeg else -1 := by
        have t_b5 := b5
        have t_b9 := b9
        have t_n0 : (nI N).toInt = (N : Int) := tn2090_ ()
        have t_n1 : (nI B).toInt = (B : Int) := tn2091_ ()
        have t_n2 : (nI D).toInt = (D : Int) := tn2092_ ()
        have z0 : (0 : Int32).toInt = 0 := qI_0
        have z1 : (1 : Int32).toInt = 1 := qI_1
        have z2 : (2 : Int32).toInt = 2 := qI_2
        have z3 : (3 : Int32).toInt = 3 := qI_3
        have z5 : (5 : Int32).toInt = 5 := qI_5
        have z9 : (9 : Int32).toInt = 9 := qI_9
        have z20 : (20 : Int32).toInt = 20 := qI_20
        have z4 : (-4 : Int32).toInt = -4 := (by decide)
        have z10 : (10 : Int32).toInt = 10 := qI_10
        first | (rw [if_neg (by omega)]; done) | (rw [if_pos (by omega)]; done)
      obtain ⟨hP9, hD9⟩ := va_sub2 (ws' := [(h0, .inr (10, [.ref rd, .ref wy, .ref tr, .ref im, .ref kp, .ref od, .ref ch, .ref cr, .ref le, .ref mk, .ref tl, .ref sh, .int tf, .int rf])), (wy, .inr (9, [.int (nI N), .int (nI B), .int (nI D), .ref a1, .ref a2, .ref a3, .ref a4, .ref a5, .ref a6])), (a3, .inl (G 0, 10, .inl (upd f3 i.toNatClampNeg k)))]) hP hD [0, 1, 2] (by decide +kernel) rfl
      refine W.widen (k := 0) (n := 0) (Nat.le_of_ble_eq_true rfl) (Nat.le_of_ble_eq_true rfl) ?_
      exact W.iret (v := f3 i.toNatClampNeg) hx hb hr (fun t ht hW => ⟨⟨f3 i.toNatClampNeg, (upd f3 i.toNatClampNeg k), rfl, ⟨hpost, (by have t_b5 := b5; have t_b9 := b9; have tnb_ := nib3 tn2090_ tn2091_ tn2092_; have tqz_ := qz46_; have z4 : (-4 : Int32).toInt = -4 := (by decide); have z10 : (10 : Int32).toInt = 10 := qI_10; first | (rw [if_neg (by omega)]; done) | (rw [if_pos (by omega)]; done))⟩, ⟨by rw [ht]; exact hP9, hD9⟩⟩, hS.F ht⟩) hS.2.2 dX10_put_45
    · skip
      have b10 := if10_n c8
      refine lv_iconst (v := (-1)) hx hb dX10_put_22 rfl ?_
      have hpost : ((-1) : Int32) = if ((0 ≤ i.toInt ∧ i.toInt < ((N : Nat) : Int)) ∧ (0 ≤ k.toInt ∧ k.toInt < ((B : Nat) : Int))) then f3 i.toNatClampNeg else -1 := by
        have t_b5 := b5
        have t_b10 := b10
        have t_n0 : (nI N).toInt = (N : Int) := tn2090_ ()
        have t_n1 : (nI B).toInt = (B : Int) := tn2091_ ()
        have t_n2 : (nI D).toInt = (D : Int) := tn2092_ ()
        have z0 : (0 : Int32).toInt = 0 := qI_0
        have z1 : (1 : Int32).toInt = 1 := qI_1
        have z2 : (2 : Int32).toInt = 2 := qI_2
        have z3 : (3 : Int32).toInt = 3 := qI_3
        have z5 : (5 : Int32).toInt = 5 := qI_5
        have z9 : (9 : Int32).toInt = 9 := qI_9
        have z20 : (20 : Int32).toInt = 20 := qI_20
        have z4 : (-4 : Int32).toInt = -4 := (by decide)
        have z10 : (10 : Int32).toInt = 10 := qI_10
        first | (rw [if_neg (by omega)]; done) | (rw [if_pos (by omega)]; done)
      obtain ⟨hP9, hD9⟩ := va_sub2 (ws' := [(h0, .inr (10, [.ref rd, .ref wy, .ref tr, .ref im, .ref kp, .ref od, .ref ch, .ref cr, .ref le, .ref mk, .ref tl, .ref sh, .int tf, .int rf])), (wy, .inr (9, [.int (nI N), .int (nI B), .int (nI D), .ref a1, .ref a2, .ref a3, .ref a4, .ref a5, .ref a6])), (a3, .inl (G 0, 10, .inl f3))]) hP hD [0, 1, 2] (by decide +kernel) rfl
      refine W.widen (k := 0) (n := 0) (Nat.le_of_ble_eq_true rfl) (Nat.le_of_ble_eq_true rfl) ?_
      exact W.iret (v := (-1)) hx hb hr (fun t ht hW => ⟨⟨(-1), f3, rfl, ⟨hpost, (by have t_b5 := b5; have t_b10 := b10; have tnb_ := nib3 tn2090_ tn2091_ tn2092_; have tqz_ := qz46_; have z4 : (-4 : Int32).toInt = -4 := (by decide); have z10 : (10 : Int32).toInt = 10 := qI_10; first | (rw [if_neg (by omega)]; done) | (rw [if_pos (by omega)]; done))⟩, ⟨by rw [ht]; exact hP9, hD9⟩⟩, hS.F ht⟩) hS.2.2 dX10_put_23

set_option maxHeartbeats 4000000 in
set_option maxRecDepth 100000 in
theorem c_X10_readE (l : Launch) (dC : Nat → ClassId) (dI : Nat → Nat → Nat) (G : Nat → ClassId) (sz : Nat) (h0 rd wy tr im kp od ch cr le mk tl sh a1 a2 a3 a4 a5 a6 N B D la si ce fi se : Nat) (tf rf k lane x1 n x8 x9 : Int32) (f3 fl fz f1 f2 : Nat → Int32) (rc : Nat → Nat) (F : Nat → Nat → Int32) (hN_N : N ≤ 10) (hB_B : B ≤ 6) (hD_D : 1 ≤ D ∧ D ≤ 9) (hz : ∀ q : Nat, q < 4 → 0 ≤ (fz q).toInt ∧ (fz q).toInt ≤ 40) : Met l yX10_read (Cond.code yX10_read cX10_read 6 (some .int) :: GT) ({ frames := 2, cells := 0, slots := 0, locals := 50 } : Room) (PcW [.ref h0, .int k, .int lane, .int x1, .int n] dC dI G (([(h0, .inr (10, [.ref rd, .ref wy, .ref tr, .ref im, .ref kp, .ref od, .ref ch, .ref cr, .ref le, .ref mk, .ref tl, .ref sh, .int tf, .int rf])), (wy, .inr (9, [.int (nI N), .int (nI B), .int (nI D), .ref a1, .ref a2, .ref a3, .ref a4, .ref a5, .ref a6])), (a3, .inl (G 0, 10, .inl f3)), (sh, .inr (6, [.ref la, .ref si, .ref ce, .int x8, .int x9, .ref fi, .ref se])), (la, .inl (G 0, 4, .inl fl)), (si, .inl (G 0, 4, .inl fz)), (ce, .inl (G 4, 4, .inr (.inr (.inr (.inr (fun ir => if ir < 4 then some (rc ir) else none)))))), (fi, .inl (G 0, 20, .inl f1)), (se, .inl (G 0, 20, .inl f2))] : va_W) ++ ((((List.range 4).map (fun iq => (rc iq, .inl (G 0, 40, .inl (F iq))))) : va_W) ++ [])) sz) (va_Qi (fun (r : Int32) (u : Int32 × Int32 × (Nat → Int32) × (Nat → Int32) × (Nat → Int32) × Int32) => match u with | (u0, u1, u2, u3, u4, u5) => (r = if ((0 ≤ k.toInt ∧ k.toInt < 4) ∧ (0 ≤ lane.toInt ∧ lane.toInt ≤ 2) ∧ 0 ≤ n.toInt ∧ n.toInt ≤ 20) then rdR N B (fun q8 : Nat => F k.toNatClampNeg (x1.toInt + 2 * (q8 : Int) + 0).toNat) (fun q8 : Nat => F k.toNatClampNeg (x1.toInt + 2 * (q8 : Int) + 1).toNat) (tpK (fl k.toNatClampNeg) lane (fz k.toNatClampNeg).toInt x1.toInt n.toNatClampNeg) else -1) ∧ u4 = (if ((0 ≤ k.toInt ∧ k.toInt < 4) ∧ (0 ≤ lane.toInt ∧ lane.toInt ≤ 2) ∧ 0 ≤ n.toInt ∧ n.toInt ≤ 20) then rdF N B (fun q8 : Nat => F k.toNatClampNeg (x1.toInt + 2 * (q8 : Int) + 0).toNat) (fun q8 : Nat => F k.toNatClampNeg (x1.toInt + 2 * (q8 : Int) + 1).toNat) (tpK (fl k.toNatClampNeg) lane (fz k.toNatClampNeg).toInt x1.toInt n.toNatClampNeg) f3 else f3)) (fun (u : Int32 × Int32 × (Nat → Int32) × (Nat → Int32) × (Nat → Int32) × Int32) (t : State) => match u with | (u0, u1, u2, u3, u4, u5) => va_P (dC, dI) vwCl (([(h0, .inr (10, [.ref rd, .ref wy, .ref tr, .ref im, .ref kp, .ref od, .ref ch, .ref cr, .ref le, .ref mk, .ref tl, .ref sh, .int tf, .int u5])), (wy, .inr (9, [.int (nI N), .int (nI B), .int (nI D), .ref a1, .ref a2, .ref a3, .ref a4, .ref a5, .ref a6])), (a3, .inl (G 0, 10, .inl u4)), (sh, .inr (6, [.ref la, .ref si, .ref ce, .int u0, .int u1, .ref fi, .ref se])), (la, .inl (G 0, 4, .inl fl)), (si, .inl (G 0, 4, .inl fz)), (ce, .inl (G 4, 4, .inr (.inr (.inr (.inr (fun ir => if ir < 4 then some (rc ir) else none)))))), (fi, .inl (G 0, 20, .inl u2)), (se, .inl (G 0, 20, .inl u3))] : va_W) ++ ((((List.range 4).map (fun iq => (rc iq, .inl (G 0, 40, .inl (F iq))))) : va_W) ++ [])) t.heap ∧ va_D (va_A (([(h0, .inr (10, [.ref rd, .ref wy, .ref tr, .ref im, .ref kp, .ref od, .ref ch, .ref cr, .ref le, .ref mk, .ref tl, .ref sh, .int tf, .int rf])), (wy, .inr (9, [.int (nI N), .int (nI B), .int (nI D), .ref a1, .ref a2, .ref a3, .ref a4, .ref a5, .ref a6])), (a3, .inl (G 0, 10, .inl f3)), (sh, .inr (6, [.ref la, .ref si, .ref ce, .int x8, .int x9, .ref fi, .ref se])), (la, .inl (G 0, 4, .inl fl)), (si, .inl (G 0, 4, .inl fz)), (ce, .inl (G 4, 4, .inr (.inr (.inr (.inr (fun ir => if ir < 4 then some (rc ir) else none)))))), (fi, .inl (G 0, 20, .inl f1)), (se, .inl (G 0, 20, .inl f2))] : va_W) ++ ((((List.range 4).map (fun iq => (rc iq, .inl (G 0, 40, .inl (F iq))))) : va_W) ++ [])) sz) (([(h0, .inr (10, [.ref rd, .ref wy, .ref tr, .ref im, .ref kp, .ref od, .ref ch, .ref cr, .ref le, .ref mk, .ref tl, .ref sh, .int tf, .int u5])), (wy, .inr (9, [.int (nI N), .int (nI B), .int (nI D), .ref a1, .ref a2, .ref a3, .ref a4, .ref a5, .ref a6])), (a3, .inl (G 0, 10, .inl u4)), (sh, .inr (6, [.ref la, .ref si, .ref ce, .int u0, .int u1, .ref fi, .ref se])), (la, .inl (G 0, 4, .inl fl)), (si, .inl (G 0, 4, .inl fz)), (ce, .inl (G 4, 4, .inr (.inr (.inr (.inr (fun ir => if ir < 4 then some (rc ir) else none)))))), (fi, .inl (G 0, 20, .inl u2)), (se, .inl (G 0, 20, .inl u3))] : va_W) ++ ((((List.range 4).map (fun iq => (rc iq, .inl (G 0, 40, .inl (F iq))))) : va_W) ++ []))) (va_A (([(h0, .inr (10, [.ref rd, .ref wy, .ref tr, .ref im, .ref kp, .ref od, .ref ch, .ref cr, .ref le, .ref mk, .ref tl, .ref sh, .int tf, .int rf])), (wy, .inr (9, [.int (nI N), .int (nI B), .int (nI D), .ref a1, .ref a2, .ref a3, .ref a4, .ref a5, .ref a6])), (a3, .inl (G 0, 10, .inl f3)), (sh, .inr (6, [.ref la, .ref si, .ref ce, .int x8, .int x9, .ref fi, .ref se])), (la, .inl (G 0, 4, .inl fl)), (si, .inl (G 0, 4, .inl fz)), (ce, .inl (G 4, 4, .inr (.inr (.inr (.inr (fun ir => if ir < 4 then some (rc ir) else none)))))), (fi, .inl (G 0, 20, .inl f1)), (se, .inl (G 0, 20, .inl f2))] : va_W) ++ ((((List.range 4).map (fun iq => (rc iq, .inl (G 0, 40, .inl (F iq))))) : va_W) ++ [])) sz)) 0 0 (va_A (([(h0, .inr (10, [.ref rd, .ref wy, .ref tr, .ref im, .ref kp, .ref od, .ref ch, .ref cr, .ref le, .ref mk, .ref tl, .ref sh, .int tf, .int rf])), (wy, .inr (9, [.int (nI N), .int (nI B), .int (nI D), .ref a1, .ref a2, .ref a3, .ref a4, .ref a5, .ref a6])), (a3, .inl (G 0, 10, .inl f3)), (sh, .inr (6, [.ref la, .ref si, .ref ce, .int x8, .int x9, .ref fi, .ref se])), (la, .inl (G 0, 4, .inl fl)), (si, .inl (G 0, 4, .inl fz)), (ce, .inl (G 4, 4, .inr (.inr (.inr (.inr (fun ir => if ir < 4 then some (rc ir) else none)))))), (fi, .inl (G 0, 20, .inl f1)), (se, .inl (G 0, 20, .inl f2))] : va_W) ++ ((((List.range 4).map (fun iq => (rc iq, .inl (G 0, 40, .inl (F iq))))) : va_W) ++ [])) sz) := by
  have tn2093_ : nIT N := fun _ => nI_toInt (by omega)
  have tn2094_ : nIT B := fun _ => nI_toInt (by omega)
  have tn2095_ : nIT D := fun _ => nI_toInt (by omega)
  refine Met.ofW (cc := cX10_read) (maxL := 6) (ret := (some .int)) (by decide) rfl ?_
  intro p e s m args below meth c s₁ Bd hml hv
  obtain ⟨rfl, hsz, hP, hK, hD0⟩ := hv
  have hx := Bd.exec
  have hb := Bd.bytes
  have hr := Bd.returns
  have hg : ∀ w ∈ GT, w.before ([.ref h0, .int k, .int lane, .int x1, .int n] : List Value).toArray s = true := fun w h => atoms_spec (ws := Cond.code yX10_read cX10_read 6 (some .int) :: GT) Bd.pre w (List.mem_cons_of_mem _ h)
  have hown : s.vm.findClass RX10 = some m.cls := findClass_of_methodNamed Bd.named
  have hlocks := Bd.notSynchronized
  subst hsz
  have hD := hD0.self (sz := s.heap.size)
  generalize hAe : va_A (([(h0, .inr (10, [.ref rd, .ref wy, .ref tr, .ref im, .ref kp, .ref od, .ref ch, .ref cr, .ref le, .ref mk, .ref tl, .ref sh, .int tf, .int rf])), (wy, .inr (9, [.int (nI N), .int (nI B), .int (nI D), .ref a1, .ref a2, .ref a3, .ref a4, .ref a5, .ref a6])), (a3, .inl (G 0, 10, .inl f3)), (sh, .inr (6, [.ref la, .ref si, .ref ce, .int x8, .int x9, .ref fi, .ref se])), (la, .inl (G 0, 4, .inl fl)), (si, .inl (G 0, 4, .inl fz)), (ce, .inl (G 4, 4, .inr (.inr (.inr (.inr (fun ir => if ir < 4 then some (rc ir) else none)))))), (fi, .inl (G 0, 20, .inl f1)), (se, .inl (G 0, 20, .inl f2))] : va_W) ++ ((((List.range 4).map (fun iq => (rc iq, .inl (G 0, 40, .inl (F iq))))) : va_W) ++ [])) s.heap.size = A at hD ⊢
  have hA : ∀ q : Nat, s.heap.size ≤ q → A q := fun q h => by rw [← hAe]; exact Or.inr h
  have hS : va_S A s.heap s.heap [] := va_S.rf
  have hl := lv_entry ([.ref h0, .int k, .int lane, .int x1, .int n]) (n := 6) (Nat.le_of_ble_eq_true rfl)
  rw [lg_entry_eq]
  generalize (lg_sl ([.ref h0, .int k, .int lane, .int x1, .int n]) ++ List.replicate (6 - (lg_sl ([.ref h0, .int k, .int lane, .int x1, .int n])).length) Slot.unset).toArray = ls at hl ⊢
  have hl : lv_has ls 6 [(0, .ref h0), (1, .int k), (2, .int lane), (3, .int x1), (4, .int n)] := hl
  refine lv_iload_n hx hb dX10_read_0 rfl (lv_at hl 1 rfl) ?_
  have hPc := hP.sub (ws' := []) [] rfl
  refine va_calli (va_runSN (As := [.int k]) (rest := []) ⟨hx, hb, hml, hown, hg⟩ (c_X6_isSheet l dC dI G _ k) (kwSN hg hK mfX6_isSheet wn_823 ⟨Nat.le_of_ble_eq_true rfl, Nat.le_of_ble_eq_true rfl⟩) (preSR hK hPc) rfl rfl hl.1 rfl (lv_room (Nat.le_of_ble_eq_true rfl)) dX10_read_1 ⟨Nat.le_of_ble_eq_true rfl, Nat.le_of_ble_eq_true rfl⟩) hS (fun q h1 h2 => absurd h2 (Nat.not_le.mpr h1)) (fun q h => hA q (Nat.le_trans hS.1 h)) (fun r1 ur1 t H1 locs ht hvm w2 hB hz1 hk1 hS => ?_)
  have hP := keepR hP hk1
  obtain ⟨w2, w2x⟩ := w2
  try simp only [l_ii, show (0 : Int32).toInt = 0 from by decide, show (4 : Int32).toInt = 4 from by decide] at w2
  subst w2
  refine lv_if_eq (tgt := 26) hx hb dX10_read_4 rfl (fun c3 => ?_) (fun c3 => ?_)
  · skip
    have b4 := if10_n c3
    refine lv_iconst (v := (-1)) hx hb dX10_read_26 rfl ?_
    have hpost : ((-1) : Int32) = if ((0 ≤ k.toInt ∧ k.toInt < 4) ∧ (0 ≤ lane.toInt ∧ lane.toInt ≤ 2) ∧ 0 ≤ n.toInt ∧ n.toInt ≤ 20) then rdR N B (fun q8 : Nat => F k.toNatClampNeg (x1.toInt + 2 * (q8 : Int) + 0).toNat) (fun q8 : Nat => F k.toNatClampNeg (x1.toInt + 2 * (q8 : Int) + 1).toNat) (tpK (fl k.toNatClampNeg) lane (fz k.toNatClampNeg).toInt x1.toInt n.toNatClampNeg) else -1 := by
      have t_b4 := b4
      have t_n0 : (nI N).toInt = (N : Int) := tn2093_ ()
      have t_n1 : (nI B).toInt = (B : Int) := tn2094_ ()
      have t_n2 : (nI D).toInt = (D : Int) := tn2095_ ()
      have z0 : (0 : Int32).toInt = 0 := qI_0
      have z1 : (1 : Int32).toInt = 1 := qI_1
      have z2 : (2 : Int32).toInt = 2 := qI_2
      have z3 : (3 : Int32).toInt = 3 := qI_3
      have z5 : (5 : Int32).toInt = 5 := qI_5
      have z9 : (9 : Int32).toInt = 9 := qI_9
      have z20 : (20 : Int32).toInt = 20 := qI_20
      have z4 : (-4 : Int32).toInt = -4 := (by decide)
      have z10 : (10 : Int32).toInt = 10 := qI_10
      rw [if_neg (by omega)]
    obtain ⟨hP9, hD9⟩ := va_sub2 (ws' := (([(h0, .inr (10, [.ref rd, .ref wy, .ref tr, .ref im, .ref kp, .ref od, .ref ch, .ref cr, .ref le, .ref mk, .ref tl, .ref sh, .int tf, .int rf])), (wy, .inr (9, [.int (nI N), .int (nI B), .int (nI D), .ref a1, .ref a2, .ref a3, .ref a4, .ref a5, .ref a6])), (a3, .inl (G 0, 10, .inl f3)), (sh, .inr (6, [.ref la, .ref si, .ref ce, .int x8, .int x9, .ref fi, .ref se])), (la, .inl (G 0, 4, .inl fl)), (si, .inl (G 0, 4, .inl fz)), (ce, .inl (G 4, 4, .inr (.inr (.inr (.inr (fun ir => if ir < 4 then some (rc ir) else none)))))), (fi, .inl (G 0, 20, .inl f1)), (se, .inl (G 0, 20, .inl f2))] : va_W) ++ ((((List.range 4).map (fun iq => (rc iq, .inl (G 0, 40, .inl (F iq))))) : va_W) ++ []))) hP hD [0, 1, 2, 3, 4, 5, 6, 7, 8, 9, 10, 11, 12] (by decide +kernel) rfl
    refine W.widen (k := 0) (n := 0) (Nat.le_of_ble_eq_true rfl) (Nat.le_of_ble_eq_true rfl) ?_
    exact W.iret (v := (-1)) hx hb hr (fun t ht hW => ⟨⟨(-1), (x8, x9, f1, f2, f3, rf), rfl, ⟨hpost, (by have t_b4 := b4; have tnb_ := nib3 tn2093_ tn2094_ tn2095_; have tqz_ := qz46_; have z4 : (-4 : Int32).toInt = -4 := (by decide); have z10 : (10 : Int32).toInt = 10 := qI_10; rw [if_neg (by omega)])⟩, ⟨by rw [ht]; exact hP9, hD9⟩⟩, hS.F ht⟩) hS.2.2 dX10_read_27
  · skip
    have b5 := if10_p c3
    refine lv_iload_n hx hb dX10_read_7 rfl (lv_at hl 2 rfl) ?_
    have hPc := hP.sub (ws' := []) [] rfl
    refine va_calli (va_runSN (As := [.int lane]) (rest := []) ⟨hx, hb, hml, hown, hg⟩ (c_X6_isLane l dC dI G _ lane) (kwSN hg hK mfX6_isLane wn_826 ⟨Nat.le_of_ble_eq_true rfl, Nat.le_of_ble_eq_true rfl⟩) (preSR hK hPc) rfl rfl hl.1 rfl (lv_room (Nat.le_of_ble_eq_true rfl)) dX10_read_8 ⟨Nat.le_of_ble_eq_true rfl, Nat.le_of_ble_eq_true rfl⟩) hS (fun q h1 h2 => absurd h2 (Nat.not_le.mpr h1)) (fun q h => hA q (Nat.le_trans hS.1 h)) (fun r6 ur6 t H1 locs ht hvm w7 hB hz1 hk1 hS => ?_)
    have hP := keepR hP hk1
    obtain ⟨w7, w7x⟩ := w7
    try simp only [l_ii, show (0 : Int32).toInt = 0 from by decide, show (2 : Int32).toInt = 2 from by decide] at w7
    subst w7
    refine lv_if_eq (tgt := 26) hx hb dX10_read_11 rfl (fun c8 => ?_) (fun c8 => ?_)
    · skip
      have b9 := if10_n c8
      refine lv_iconst (v := (-1)) hx hb dX10_read_26 rfl ?_
      have hpost : ((-1) : Int32) = if ((0 ≤ k.toInt ∧ k.toInt < 4) ∧ (0 ≤ lane.toInt ∧ lane.toInt ≤ 2) ∧ 0 ≤ n.toInt ∧ n.toInt ≤ 20) then rdR N B (fun q8 : Nat => F k.toNatClampNeg (x1.toInt + 2 * (q8 : Int) + 0).toNat) (fun q8 : Nat => F k.toNatClampNeg (x1.toInt + 2 * (q8 : Int) + 1).toNat) (tpK (fl k.toNatClampNeg) lane (fz k.toNatClampNeg).toInt x1.toInt n.toNatClampNeg) else -1 := by
        have t_b5 := b5
        have t_b9 := b9
        have t_n0 : (nI N).toInt = (N : Int) := tn2093_ ()
        have t_n1 : (nI B).toInt = (B : Int) := tn2094_ ()
        have t_n2 : (nI D).toInt = (D : Int) := tn2095_ ()
        have z0 : (0 : Int32).toInt = 0 := qI_0
        have z1 : (1 : Int32).toInt = 1 := qI_1
        have z2 : (2 : Int32).toInt = 2 := qI_2
        have z3 : (3 : Int32).toInt = 3 := qI_3
        have z5 : (5 : Int32).toInt = 5 := qI_5
        have z9 : (9 : Int32).toInt = 9 := qI_9
        have z20 : (20 : Int32).toInt = 20 := qI_20
        have z4 : (-4 : Int32).toInt = -4 := (by decide)
        have z10 : (10 : Int32).toInt = 10 := qI_10
        rw [if_neg (by omega)]
      obtain ⟨hP9, hD9⟩ := va_sub2 (ws' := (([(h0, .inr (10, [.ref rd, .ref wy, .ref tr, .ref im, .ref kp, .ref od, .ref ch, .ref cr, .ref le, .ref mk, .ref tl, .ref sh, .int tf, .int rf])), (wy, .inr (9, [.int (nI N), .int (nI B), .int (nI D), .ref a1, .ref a2, .ref a3, .ref a4, .ref a5, .ref a6])), (a3, .inl (G 0, 10, .inl f3)), (sh, .inr (6, [.ref la, .ref si, .ref ce, .int x8, .int x9, .ref fi, .ref se])), (la, .inl (G 0, 4, .inl fl)), (si, .inl (G 0, 4, .inl fz)), (ce, .inl (G 4, 4, .inr (.inr (.inr (.inr (fun ir => if ir < 4 then some (rc ir) else none)))))), (fi, .inl (G 0, 20, .inl f1)), (se, .inl (G 0, 20, .inl f2))] : va_W) ++ ((((List.range 4).map (fun iq => (rc iq, .inl (G 0, 40, .inl (F iq))))) : va_W) ++ []))) hP hD [0, 1, 2, 3, 4, 5, 6, 7, 8, 9, 10, 11, 12] (by decide +kernel) rfl
      refine W.widen (k := 0) (n := 0) (Nat.le_of_ble_eq_true rfl) (Nat.le_of_ble_eq_true rfl) ?_
      exact W.iret (v := (-1)) hx hb hr (fun t ht hW => ⟨⟨(-1), (x8, x9, f1, f2, f3, rf), rfl, ⟨hpost, (by have t_b5 := b5; have t_b9 := b9; have tnb_ := nib3 tn2093_ tn2094_ tn2095_; have tqz_ := qz46_; have z4 : (-4 : Int32).toInt = -4 := (by decide); have z10 : (10 : Int32).toInt = 10 := qI_10; rw [if_neg (by omega)])⟩, ⟨by rw [ht]; exact hP9, hD9⟩⟩, hS.F ht⟩) hS.2.2 dX10_read_27
    · skip
      have b10 := if10_p c8
      refine lv_iload hx hb dX10_read_14 (lv_at hl 4 rfl) ?_
      refine lv_if_lt (tgt := 26) hx hb dX10_read_16 rfl (fun c11 => ?_) (fun c11 => ?_)
      · skip
        refine lv_iconst (v := (-1)) hx hb dX10_read_26 rfl ?_
        have hpost : ((-1) : Int32) = if ((0 ≤ k.toInt ∧ k.toInt < 4) ∧ (0 ≤ lane.toInt ∧ lane.toInt ≤ 2) ∧ 0 ≤ n.toInt ∧ n.toInt ≤ 20) then rdR N B (fun q8 : Nat => F k.toNatClampNeg (x1.toInt + 2 * (q8 : Int) + 0).toNat) (fun q8 : Nat => F k.toNatClampNeg (x1.toInt + 2 * (q8 : Int) + 1).toNat) (tpK (fl k.toNatClampNeg) lane (fz k.toNatClampNeg).toInt x1.toInt n.toNatClampNeg) else -1 := by
          have t_b5 := b5
          have t_b10 := b10
          have t_c11 := ltI c11
          have : (0 : Int32).toInt = 0 := qI_0
          have t_n0 : (nI N).toInt = (N : Int) := tn2093_ ()
          have t_n1 : (nI B).toInt = (B : Int) := tn2094_ ()
          have t_n2 : (nI D).toInt = (D : Int) := tn2095_ ()
          have z0 : (0 : Int32).toInt = 0 := qI_0
          have z1 : (1 : Int32).toInt = 1 := qI_1
          have z2 : (2 : Int32).toInt = 2 := qI_2
          have z3 : (3 : Int32).toInt = 3 := qI_3
          have z5 : (5 : Int32).toInt = 5 := qI_5
          have z9 : (9 : Int32).toInt = 9 := qI_9
          have z20 : (20 : Int32).toInt = 20 := qI_20
          have z4 : (-4 : Int32).toInt = -4 := (by decide)
          have z10 : (10 : Int32).toInt = 10 := qI_10
          rw [if_neg (by omega)]
        obtain ⟨hP9, hD9⟩ := va_sub2 (ws' := (([(h0, .inr (10, [.ref rd, .ref wy, .ref tr, .ref im, .ref kp, .ref od, .ref ch, .ref cr, .ref le, .ref mk, .ref tl, .ref sh, .int tf, .int rf])), (wy, .inr (9, [.int (nI N), .int (nI B), .int (nI D), .ref a1, .ref a2, .ref a3, .ref a4, .ref a5, .ref a6])), (a3, .inl (G 0, 10, .inl f3)), (sh, .inr (6, [.ref la, .ref si, .ref ce, .int x8, .int x9, .ref fi, .ref se])), (la, .inl (G 0, 4, .inl fl)), (si, .inl (G 0, 4, .inl fz)), (ce, .inl (G 4, 4, .inr (.inr (.inr (.inr (fun ir => if ir < 4 then some (rc ir) else none)))))), (fi, .inl (G 0, 20, .inl f1)), (se, .inl (G 0, 20, .inl f2))] : va_W) ++ ((((List.range 4).map (fun iq => (rc iq, .inl (G 0, 40, .inl (F iq))))) : va_W) ++ []))) hP hD [0, 1, 2, 3, 4, 5, 6, 7, 8, 9, 10, 11, 12] (by decide +kernel) rfl
        refine W.widen (k := 0) (n := 0) (Nat.le_of_ble_eq_true rfl) (Nat.le_of_ble_eq_true rfl) ?_
        exact W.iret (v := (-1)) hx hb hr (fun t ht hW => ⟨⟨(-1), (x8, x9, f1, f2, f3, rf), rfl, ⟨hpost, (by have t_b5 := b5; have t_b10 := b10; have t_c11 := ltI c11; have : (0 : Int32).toInt = 0 := qI_0; have tnb_ := nib3 tn2093_ tn2094_ tn2095_; have tqz_ := qz46_; have z4 : (-4 : Int32).toInt = -4 := (by decide); have z10 : (10 : Int32).toInt = 10 := qI_10; rw [if_neg (by omega)])⟩, ⟨by rw [ht]; exact hP9, hD9⟩⟩, hS.F ht⟩) hS.2.2 dX10_read_27
      · skip
        refine lv_iload hx hb dX10_read_19 (lv_at hl 4 rfl) ?_
        refine lv_bipush (v := 20) hx hb dX10_read_21 rfl ?_
        refine lv_icmp_le (tgt := 28) hx hb dX10_read_23 rfl (fun c12 => ?_) (fun c12 => ?_)
        · skip
          obtain ⟨kk, hkk, rfl⟩ : ∃ j : Nat, j < 4 ∧ k = nI j := by
            have t_b5 := b5
            have t_b10 := b10
            have t_c11 := nltI c11
            have t_c12 := leI c12
            have : (0 : Int32).toInt = 0 := qI_0
            have : (20 : Int32).toInt = 20 := qI_20
            have t_n0 : (nI N).toInt = (N : Int) := tn2093_ ()
            have t_n1 : (nI B).toInt = (B : Int) := tn2094_ ()
            have t_n2 : (nI D).toInt = (D : Int) := tn2095_ ()
            exact i32_nat (by omega) (by omega)
          obtain ⟨nn, hnn, rfl⟩ : ∃ j : Nat, j < 21 ∧ n = nI j := by
            have t_b5 := b5
            have t_b10 := b10
            have t_c11 := nltI c11
            have t_c12 := leI c12
            have t_hkk := hkk
            have : (0 : Int32).toInt = 0 := qI_0
            have : (20 : Int32).toInt = 20 := qI_20
            have t_n0 : (nI N).toInt = (N : Int) := tn2093_ ()
            have t_n1 : (nI B).toInt = (B : Int) := tn2094_ ()
            have t_n2 : (nI D).toInt = (D : Int) := tn2095_ ()
            have tn2096_ : nIT kk := fun _ => nI_toInt (by omega)
            have t_n3 : (nI kk).toInt = (kk : Int) := tn2096_ ()
            exact i32_nat (by omega) (by omega)
          refine lv_aload_n hx hb dX10_read_28 rfl (lv_at hl 0 rfl) ?_
          refine va_get (D := (dC, dI)) (ci := 10) (v := .ref sh) (C := RX10) (T := TX10) (N := 14) hx hb hg inG10 hown hK.1 hP 0 rfl rfl 11 (Nat.le_of_ble_eq_true rfl) (hg _ wt_313) (fun _ h9 => h9) rfl dX10_read_29 ?_
          refine lv_iload_n hx hb dX10_read_32 rfl (lv_at hl 1 rfl) ?_
          refine lv_iload_n hx hb dX10_read_33 rfl (lv_at hl 2 rfl) ?_
          refine lv_iload_n hx hb dX10_read_34 rfl (lv_at hl 3 rfl) ?_
          refine lv_iload hx hb dX10_read_35 (lv_at hl 4 rfl) ?_
          obtain ⟨hPc, hDc, hFc⟩ := va_sub3 (ws' := (([(sh, .inr (6, [.ref la, .ref si, .ref ce, .int x8, .int x9, .ref fi, .ref se])), (la, .inl (G 0, 4, .inl fl)), (si, .inl (G 0, 4, .inl fz)), (ce, .inl (G 4, 4, .inr (.inr (.inr (.inr (fun ir => if ir < 4 then some (rc ir) else none)))))), (fi, .inl (G 0, 20, .inl f1)), (se, .inl (G 0, 20, .inl f2))] : va_W) ++ ((((List.range 4).map (fun iq => (rc iq, .inl (G 0, 40, .inl (F iq))))) : va_W) ++ []))) hP hD hS hA [3, 4, 5, 6, 7, 8, 9, 10, 11, 12] (by decide +kernel) rfl
          have tn2097_ : nIT kk := fun _ => nI_toInt (by omega)
          have tn2098_ : nIT nn := fun _ => nI_toInt (by omega)
          refine va_callv (va_runVN (As := [.int (nI kk), .int lane, .int x1, .int (nI nn)]) (rest := []) ⟨hx, hb, hml, hown, hg⟩ (c_X6_takePairsE l dC dI G _ sh la si ce fi se kk nn x8 x9 lane x1 fl fz f1 f2 rc F (by omega) (by omega) hz (fun e9 => by have e8 := congrArg Int32.toInt e9; have t_b5 := b5; have t_b10 := b10; have t_c11 := nltI c11; have t_c12 := leI c12; have t_hkk := hkk; have t_hnn := hnn; have tqz_ := qz12_; have tnb_ := nib5 tn2093_ tn2094_ tn2095_ tn2097_ tn2098_; have m1 : (-1 : Int32).toInt = -1 := (by decide); omega)) (kwVN hg hK mfX6_takePairs wn_851 ⟨Nat.le_of_ble_eq_true rfl, Nat.le_of_ble_eq_true rfl⟩) (preVW hK hPc hDc (ci := 6) (r := (RX6, TX6, 7)) rfl rfl) rfl rfl hl.1 rfl (lv_room (Nat.le_of_ble_eq_true rfl)) dX10_read_37 ⟨Nat.le_of_ble_eq_true rfl, Nat.le_of_ble_eq_true rfl⟩) hS (fun q _ h => hFc q h) hFc (fun ur13 t H1 locs ht hvm w14 hB hz1 hk1 hS => ?_)
          obtain ⟨u15, u16, u17, u18⟩ := ur13
          obtain ⟨hP1, hD1⟩ := hB
          rw [ht] at hP1
          obtain ⟨hP, hD⟩ := va_join (wr := [(h0, .inr (10, [.ref rd, .ref wy, .ref tr, .ref im, .ref kp, .ref od, .ref ch, .ref cr, .ref le, .ref mk, .ref tl, .ref sh, .int tf, .int rf])), (wy, .inr (9, [.int (nI N), .int (nI B), .int (nI D), .ref a1, .ref a2, .ref a3, .ref a4, .ref a5, .ref a6])), (a3, .inl (G 0, 10, .inl f3))]) (w1 := (([(sh, .inr (6, [.ref la, .ref si, .ref ce, .int u15, .int (nI u16), .ref fi, .ref se])), (la, .inl (G 0, 4, .inl fl)), (si, .inl (G 0, 4, .inl fz)), (ce, .inl (G 4, 4, .inr (.inr (.inr (.inr (fun ir => if ir < 4 then some (rc ir) else none)))))), (fi, .inl (G 0, 20, .inl u17)), (se, .inl (G 0, 20, .inl u18))] : va_W) ++ ((((List.range 4).map (fun iq => (rc iq, .inl (G 0, 40, .inl (F iq))))) : va_W) ++ []))) hP hD [3, 4, 5, 6, 7, 8, 9, 10, 11, 12] [0, 1, 2] rfl rfl (by decide +kernel) (by decide +kernel) hk1 hFc hP1 hD1
          have w14 : u16 = tpK (fl kk) lane (fz kk).toInt x1.toInt nn ∧ (∀ q9 : Nat, q9 < u16 → u17 q9 = F kk (x1.toInt + 2 * (q9 : Int) + 0).toNat) ∧ (∀ q9 : Nat, q9 < u16 → u18 q9 = F kk (x1.toInt + 2 * (q9 : Int) + 1).toNat) ∧ u16 ≤ 20 := w14
          generalize H1 = H at hP hS ⊢
          refine lv_iconst (v := 0) hx hb dX10_read_40 rfl ?_
          refine lv_istore (lv' := [(5, .int 0), (0, .ref h0), (1, .int (nI kk)), (2, .int lane), (3, .int x1), (4, .int (nI nn))]) hx hb dX10_read_41 hl (by decide) rfl (fun ls hl => ?_)
          have loop43_20 : ∀ (nf j19 : Nat), u16 + 1 ≤ j19 + nf → j19 ≤ u16 → ∀ (H : Heap) (locs : List Loc), ((∀ q9 : Nat, q9 < j19 → 0 ≤ (u17 q9).toInt ∧ (u17 q9).toInt < ((N : Nat) : Int)) ∧ rdI N B u17 u18 (u16 - j19) j19 = rdI N B u17 u18 u16 0) → va_P (dC, dI) vwCl (([(h0, .inr (10, [.ref rd, .ref wy, .ref tr, .ref im, .ref kp, .ref od, .ref ch, .ref cr, .ref le, .ref mk, .ref tl, .ref sh, .int tf, .int rf])), (wy, .inr (9, [.int (nI N), .int (nI B), .int (nI D), .ref a1, .ref a2, .ref a3, .ref a4, .ref a5, .ref a6])), (a3, .inl (G 0, 10, .inl f3)), (sh, .inr (6, [.ref la, .ref si, .ref ce, .int u15, .int (nI u16), .ref fi, .ref se])), (la, .inl (G 0, 4, .inl fl)), (si, .inl (G 0, 4, .inl fz)), (ce, .inl (G 4, 4, .inr (.inr (.inr (.inr (fun ir => if ir < 4 then some (rc ir) else none)))))), (fi, .inl (G 0, 20, .inl u17)), (se, .inl (G 0, 20, .inl u18))] : va_W) ++ ((((List.range 4).map (fun iq => (rc iq, .inl (G 0, 40, .inl (F iq))))) : va_W) ++ [])) H → va_D A (([(h0, .inr (10, [.ref rd, .ref wy, .ref tr, .ref im, .ref kp, .ref od, .ref ch, .ref cr, .ref le, .ref mk, .ref tl, .ref sh, .int tf, .int rf])), (wy, .inr (9, [.int (nI N), .int (nI B), .int (nI D), .ref a1, .ref a2, .ref a3, .ref a4, .ref a5, .ref a6])), (a3, .inl (G 0, 10, .inl f3)), (sh, .inr (6, [.ref la, .ref si, .ref ce, .int u15, .int (nI u16), .ref fi, .ref se])), (la, .inl (G 0, 4, .inl fl)), (si, .inl (G 0, 4, .inl fz)), (ce, .inl (G 4, 4, .inr (.inr (.inr (.inr (fun ir => if ir < 4 then some (rc ir) else none)))))), (fi, .inl (G 0, 20, .inl u17)), (se, .inl (G 0, 20, .inl u18))] : va_W) ++ ((((List.range 4).map (fun iq => (rc iq, .inl (G 0, 40, .inl (F iq))))) : va_W) ++ [])) → va_S A s.heap H locs → ∀ (ls : Array Slot), lv_has ls 6 [(5, .int (nI j19)), (0, .ref h0), (1, .int (nI kk)), (2, .int lane), (3, .int x1), (4, .int (nI nn))] → W p l e (headSpec (Cond.code yX10_read cX10_read 6 (some .int) :: GT) ({ frames := 2, cells := 0, slots := 0, locals := 50 } : Room)).room s m ([.ref h0, .int (nI kk), .int lane, .int x1, .int (nI nn)] : List Value).toArray below meth c H locs 0 0 (MQ below (va_Qi (fun (r : Int32) (u : Int32 × Int32 × (Nat → Int32) × (Nat → Int32) × (Nat → Int32) × Int32) => match u with | (u0, u1, u2, u3, u4, u5) => (r = if ((0 ≤ (nI kk).toInt ∧ (nI kk).toInt < 4) ∧ (0 ≤ lane.toInt ∧ lane.toInt ≤ 2) ∧ 0 ≤ (nI nn).toInt ∧ (nI nn).toInt ≤ 20) then rdR N B (fun q8 : Nat => F (nI kk).toNatClampNeg (x1.toInt + 2 * (q8 : Int) + 0).toNat) (fun q8 : Nat => F (nI kk).toNatClampNeg (x1.toInt + 2 * (q8 : Int) + 1).toNat) (tpK (fl (nI kk).toNatClampNeg) lane (fz (nI kk).toNatClampNeg).toInt x1.toInt (nI nn).toNatClampNeg) else -1) ∧ u4 = (if ((0 ≤ (nI kk).toInt ∧ (nI kk).toInt < 4) ∧ (0 ≤ lane.toInt ∧ lane.toInt ≤ 2) ∧ 0 ≤ (nI nn).toInt ∧ (nI nn).toInt ≤ 20) then rdF N B (fun q8 : Nat => F (nI kk).toNatClampNeg (x1.toInt + 2 * (q8 : Int) + 0).toNat) (fun q8 : Nat => F (nI kk).toNatClampNeg (x1.toInt + 2 * (q8 : Int) + 1).toNat) (tpK (fl (nI kk).toNatClampNeg) lane (fz (nI kk).toNatClampNeg).toInt x1.toInt (nI nn).toNatClampNeg) f3 else f3)) (fun (u : Int32 × Int32 × (Nat → Int32) × (Nat → Int32) × (Nat → Int32) × Int32) (t : State) => match u with | (u0, u1, u2, u3, u4, u5) => va_P (dC, dI) vwCl (([(h0, .inr (10, [.ref rd, .ref wy, .ref tr, .ref im, .ref kp, .ref od, .ref ch, .ref cr, .ref le, .ref mk, .ref tl, .ref sh, .int tf, .int u5])), (wy, .inr (9, [.int (nI N), .int (nI B), .int (nI D), .ref a1, .ref a2, .ref a3, .ref a4, .ref a5, .ref a6])), (a3, .inl (G 0, 10, .inl u4)), (sh, .inr (6, [.ref la, .ref si, .ref ce, .int u0, .int u1, .ref fi, .ref se])), (la, .inl (G 0, 4, .inl fl)), (si, .inl (G 0, 4, .inl fz)), (ce, .inl (G 4, 4, .inr (.inr (.inr (.inr (fun ir => if ir < 4 then some (rc ir) else none)))))), (fi, .inl (G 0, 20, .inl u2)), (se, .inl (G 0, 20, .inl u3))] : va_W) ++ ((((List.range 4).map (fun iq => (rc iq, .inl (G 0, 40, .inl (F iq))))) : va_W) ++ [])) t.heap ∧ va_D A (([(h0, .inr (10, [.ref rd, .ref wy, .ref tr, .ref im, .ref kp, .ref od, .ref ch, .ref cr, .ref le, .ref mk, .ref tl, .ref sh, .int tf, .int u5])), (wy, .inr (9, [.int (nI N), .int (nI B), .int (nI D), .ref a1, .ref a2, .ref a3, .ref a4, .ref a5, .ref a6])), (a3, .inl (G 0, 10, .inl u4)), (sh, .inr (6, [.ref la, .ref si, .ref ce, .int u0, .int u1, .ref fi, .ref se])), (la, .inl (G 0, 4, .inl fl)), (si, .inl (G 0, 4, .inl fz)), (ce, .inl (G 4, 4, .inr (.inr (.inr (.inr (fun ir => if ir < 4 then some (rc ir) else none)))))), (fi, .inl (G 0, 20, .inl u2)), (se, .inl (G 0, 20, .inl u3))] : va_W) ++ ((((List.range 4).map (fun iq => (rc iq, .inl (G 0, 40, .inl (F iq))))) : va_W) ++ []))) A) ([.ref h0, .int (nI kk), .int lane, .int x1, .int (nI nn)] : List Value).toArray s 0 0 A) (F0 m 43 ls []) := by
            intro nf
            induction nf with
            | zero => intro j19 h1 h2; exact absurd h1 (by omega)
            | succ nf ih43_20 =>
              intro j19 hn21 hj22  H locs hinv hP hD hS ls hl
              refine lv_iload hx hb dX10_read_43 (lv_at hl 0 rfl) ?_
              refine lv_aload_n hx hb dX10_read_45 rfl (lv_at hl 1 rfl) ?_
              refine va_get (D := (dC, dI)) (ci := 10) (v := .ref sh) (C := RX10) (T := TX10) (N := 14) hx hb hg inG10 hown hK.1 hP 0 rfl rfl 11 (Nat.le_of_ble_eq_true rfl) (hg _ wt_313) (fun _ h9 => h9) rfl dX10_read_46 ?_
              refine va_getN (D := (dC, dI)) (ci := 6) (v := .int (nI u16)) (C := RX6) (T := TX6) (N := 7) hx hb hg inG6 hown hK.1 hP 3 rfl rfl 4 (Nat.le_of_ble_eq_true rfl) (hK.nest wn_282) (fun _ h9 => h9) rfl dX10_read_49 ?_
              refine lv_icmp_ge (tgt := 107) hx hb dX10_read_52 rfl (fun c23 => ?_) (fun c23 => ?_)
              · skip
                have tn2099_ : nIT j19 := fun _ => nI_toInt (by first | omega | (have t := leI c23; omega))
                have tn2100_ : nIT u16 := fun _ => nI_toInt (by omega)
                have n24 : u16 ≤ j19 := by have t := leI c23; rw [show (nI (j19)).toInt = ((j19 : Nat) : Int) from tn2099_ ()] at t; rw [show (nI (u16)).toInt = ((u16 : Nat) : Int) from tn2100_ ()] at t; omega
                have hchk := hinv
                have hall : rdI N B u17 u18 u16 0 = u16 := (by have t_b5 := b5; have t_b10 := b10; have t_c11 := nltI c11; have t_c12 := leI c12; have t_hkk := hkk; have t_hnn := hnn; have t_hj22 := hj22; have t_n24 := n24; have tqz_ := qz12_; have tnb_ := nib6 tn2093_ tn2094_ tn2095_ tn2097_ tn2098_ tn2099_; rw [← hinv.2, show j19 = u16 by omega, Nat.sub_self]; rfl)
                refine lv_iconst (v := 0) hx hb dX10_read_107 rfl ?_
                refine lv_istore (lv' := [(5, .int 0), (0, .ref h0), (1, .int (nI kk)), (2, .int lane), (3, .int x1), (4, .int (nI nn))]) hx hb dX10_read_108 hl (by decide) rfl (fun ls hl => ?_)
                have loop110_27 : ∀ (nf j25 : Nat), u16 + 1 ≤ j25 + nf → j25 ≤ u16 → ∀ (g26 : Nat → Int32) (H : Heap) (locs : List Loc), g26 = rdO u17 u18 f3 j25 → va_P (dC, dI) vwCl (([(h0, .inr (10, [.ref rd, .ref wy, .ref tr, .ref im, .ref kp, .ref od, .ref ch, .ref cr, .ref le, .ref mk, .ref tl, .ref sh, .int tf, .int rf])), (wy, .inr (9, [.int (nI N), .int (nI B), .int (nI D), .ref a1, .ref a2, .ref a3, .ref a4, .ref a5, .ref a6])), (a3, .inl (G 0, 10, .inl g26)), (sh, .inr (6, [.ref la, .ref si, .ref ce, .int u15, .int (nI u16), .ref fi, .ref se])), (la, .inl (G 0, 4, .inl fl)), (si, .inl (G 0, 4, .inl fz)), (ce, .inl (G 4, 4, .inr (.inr (.inr (.inr (fun ir => if ir < 4 then some (rc ir) else none)))))), (fi, .inl (G 0, 20, .inl u17)), (se, .inl (G 0, 20, .inl u18))] : va_W) ++ ((((List.range 4).map (fun iq => (rc iq, .inl (G 0, 40, .inl (F iq))))) : va_W) ++ [])) H → va_D A (([(h0, .inr (10, [.ref rd, .ref wy, .ref tr, .ref im, .ref kp, .ref od, .ref ch, .ref cr, .ref le, .ref mk, .ref tl, .ref sh, .int tf, .int rf])), (wy, .inr (9, [.int (nI N), .int (nI B), .int (nI D), .ref a1, .ref a2, .ref a3, .ref a4, .ref a5, .ref a6])), (a3, .inl (G 0, 10, .inl g26)), (sh, .inr (6, [.ref la, .ref si, .ref ce, .int u15, .int (nI u16), .ref fi, .ref se])), (la, .inl (G 0, 4, .inl fl)), (si, .inl (G 0, 4, .inl fz)), (ce, .inl (G 4, 4, .inr (.inr (.inr (.inr (fun ir => if ir < 4 then some (rc ir) else none)))))), (fi, .inl (G 0, 20, .inl u17)), (se, .inl (G 0, 20, .inl u18))] : va_W) ++ ((((List.range 4).map (fun iq => (rc iq, .inl (G 0, 40, .inl (F iq))))) : va_W) ++ [])) → va_S A s.heap H locs → ∀ (ls : Array Slot), lv_has ls 6 [(5, .int (nI j25)), (0, .ref h0), (1, .int (nI kk)), (2, .int lane), (3, .int x1), (4, .int (nI nn))] → W p l e (headSpec (Cond.code yX10_read cX10_read 6 (some .int) :: GT) ({ frames := 2, cells := 0, slots := 0, locals := 50 } : Room)).room s m ([.ref h0, .int (nI kk), .int lane, .int x1, .int (nI nn)] : List Value).toArray below meth c H locs 0 0 (MQ below (va_Qi (fun (r : Int32) (u : Int32 × Int32 × (Nat → Int32) × (Nat → Int32) × (Nat → Int32) × Int32) => match u with | (u0, u1, u2, u3, u4, u5) => (r = if ((0 ≤ (nI kk).toInt ∧ (nI kk).toInt < 4) ∧ (0 ≤ lane.toInt ∧ lane.toInt ≤ 2) ∧ 0 ≤ (nI nn).toInt ∧ (nI nn).toInt ≤ 20) then rdR N B (fun q8 : Nat => F (nI kk).toNatClampNeg (x1.toInt + 2 * (q8 : Int) + 0).toNat) (fun q8 : Nat => F (nI kk).toNatClampNeg (x1.toInt + 2 * (q8 : Int) + 1).toNat) (tpK (fl (nI kk).toNatClampNeg) lane (fz (nI kk).toNatClampNeg).toInt x1.toInt (nI nn).toNatClampNeg) else -1) ∧ u4 = (if ((0 ≤ (nI kk).toInt ∧ (nI kk).toInt < 4) ∧ (0 ≤ lane.toInt ∧ lane.toInt ≤ 2) ∧ 0 ≤ (nI nn).toInt ∧ (nI nn).toInt ≤ 20) then rdF N B (fun q8 : Nat => F (nI kk).toNatClampNeg (x1.toInt + 2 * (q8 : Int) + 0).toNat) (fun q8 : Nat => F (nI kk).toNatClampNeg (x1.toInt + 2 * (q8 : Int) + 1).toNat) (tpK (fl (nI kk).toNatClampNeg) lane (fz (nI kk).toNatClampNeg).toInt x1.toInt (nI nn).toNatClampNeg) f3 else f3)) (fun (u : Int32 × Int32 × (Nat → Int32) × (Nat → Int32) × (Nat → Int32) × Int32) (t : State) => match u with | (u0, u1, u2, u3, u4, u5) => va_P (dC, dI) vwCl (([(h0, .inr (10, [.ref rd, .ref wy, .ref tr, .ref im, .ref kp, .ref od, .ref ch, .ref cr, .ref le, .ref mk, .ref tl, .ref sh, .int tf, .int u5])), (wy, .inr (9, [.int (nI N), .int (nI B), .int (nI D), .ref a1, .ref a2, .ref a3, .ref a4, .ref a5, .ref a6])), (a3, .inl (G 0, 10, .inl u4)), (sh, .inr (6, [.ref la, .ref si, .ref ce, .int u0, .int u1, .ref fi, .ref se])), (la, .inl (G 0, 4, .inl fl)), (si, .inl (G 0, 4, .inl fz)), (ce, .inl (G 4, 4, .inr (.inr (.inr (.inr (fun ir => if ir < 4 then some (rc ir) else none)))))), (fi, .inl (G 0, 20, .inl u2)), (se, .inl (G 0, 20, .inl u3))] : va_W) ++ ((((List.range 4).map (fun iq => (rc iq, .inl (G 0, 40, .inl (F iq))))) : va_W) ++ [])) t.heap ∧ va_D A (([(h0, .inr (10, [.ref rd, .ref wy, .ref tr, .ref im, .ref kp, .ref od, .ref ch, .ref cr, .ref le, .ref mk, .ref tl, .ref sh, .int tf, .int u5])), (wy, .inr (9, [.int (nI N), .int (nI B), .int (nI D), .ref a1, .ref a2, .ref a3, .ref a4, .ref a5, .ref a6])), (a3, .inl (G 0, 10, .inl u4)), (sh, .inr (6, [.ref la, .ref si, .ref ce, .int u0, .int u1, .ref fi, .ref se])), (la, .inl (G 0, 4, .inl fl)), (si, .inl (G 0, 4, .inl fz)), (ce, .inl (G 4, 4, .inr (.inr (.inr (.inr (fun ir => if ir < 4 then some (rc ir) else none)))))), (fi, .inl (G 0, 20, .inl u2)), (se, .inl (G 0, 20, .inl u3))] : va_W) ++ ((((List.range 4).map (fun iq => (rc iq, .inl (G 0, 40, .inl (F iq))))) : va_W) ++ []))) A) ([.ref h0, .int (nI kk), .int lane, .int x1, .int (nI nn)] : List Value).toArray s 0 0 A) (F0 m 110 ls []) := by
                  intro nf
                  induction nf with
                  | zero => intro j25 h1 h2; exact absurd h1 (by omega)
                  | succ nf ih110_27 =>
                    intro j25 hn28 hj29 g26 H locs hinv hP hD hS ls hl
                    refine lv_iload hx hb dX10_read_110 (lv_at hl 0 rfl) ?_
                    refine lv_aload_n hx hb dX10_read_112 rfl (lv_at hl 1 rfl) ?_
                    refine va_get (D := (dC, dI)) (ci := 10) (v := .ref sh) (C := RX10) (T := TX10) (N := 14) hx hb hg inG10 hown hK.1 hP 0 rfl rfl 11 (Nat.le_of_ble_eq_true rfl) (hg _ wt_313) (fun _ h9 => h9) rfl dX10_read_113 ?_
                    refine va_getN (D := (dC, dI)) (ci := 6) (v := .int (nI u16)) (C := RX6) (T := TX6) (N := 7) hx hb hg inG6 hown hK.1 hP 3 rfl rfl 4 (Nat.le_of_ble_eq_true rfl) (hK.nest wn_282) (fun _ h9 => h9) rfl dX10_read_116 ?_
                    refine lv_icmp_ge (tgt := 156) hx hb dX10_read_119 rfl (fun c30 => ?_) (fun c30 => ?_)
                    · skip
                      have tn2101_ : nIT j25 := fun _ => nI_toInt (by first | omega | (have t := leI c30; omega))
                      have n31 : u16 ≤ j25 := by have t := leI c30; rw [show (nI (j25)).toInt = ((j25 : Nat) : Int) from tn2101_ ()] at t; rw [show (nI (u16)).toInt = ((u16 : Nat) : Int) from tn2100_ ()] at t; omega
                      refine lv_aload_n hx hb dX10_read_156 rfl (lv_at hl 1 rfl) ?_
                      refine lv_aload_n hx hb dX10_read_157 rfl (lv_at hl 1 rfl) ?_
                      refine va_get (D := (dC, dI)) (ci := 10) (v := .ref sh) (C := RX10) (T := TX10) (N := 14) hx hb hg inG10 hown hK.1 hP 0 rfl rfl 11 (Nat.le_of_ble_eq_true rfl) (hg _ wt_313) (fun _ h9 => h9) rfl dX10_read_158 ?_
                      refine va_getN (D := (dC, dI)) (ci := 6) (v := .int u15) (C := RX6) (T := TX6) (N := 7) hx hb hg inG6 hown hK.1 hP 3 rfl rfl 3 (Nat.le_of_ble_eq_true rfl) (hK.nest wn_280) (fun _ h9 => h9) rfl dX10_read_161 ?_
                      refine va_put (D := (dC, dI)) (ci := 10) (v := .int u15) (ty := .int) (C := RX10) (T := TX10) (N := 14) hx hb hg inG10 tyX10 tyX10_ok nmX10 hown hK.1 hP hD hS 0 rfl rfl 13 (Nat.le_of_ble_eq_true rfl) (hg _ wt_315) (fun _ h9 => h9) rfl (by decide +kernel) rfl rfl (Nat.le_of_ble_eq_true rfl) dX10_read_164 (fun H locs hP hD hS => ?_)
                      refine lv_aload_n hx hb dX10_read_167 rfl (lv_at hl 1 rfl) ?_
                      refine va_get (D := (dC, dI)) (ci := 10) (v := .ref sh) (C := RX10) (T := TX10) (N := 14) hx hb hg inG10 hown hK.1 hP 0 rfl rfl 11 (Nat.le_of_ble_eq_true rfl) (hg _ wt_313) (fun _ h9 => h9) rfl dX10_read_168 ?_
                      refine va_getN (D := (dC, dI)) (ci := 6) (v := .int (nI u16)) (C := RX6) (T := TX6) (N := 7) hx hb hg inG6 hown hK.1 hP 3 rfl rfl 4 (Nat.le_of_ble_eq_true rfl) (hK.nest wn_282) (fun _ h9 => h9) rfl dX10_read_171 ?_
                      have hpost : (nI u16 : Int32) = if ((0 ≤ (nI kk).toInt ∧ (nI kk).toInt < 4) ∧ (0 ≤ lane.toInt ∧ lane.toInt ≤ 2) ∧ 0 ≤ (nI nn).toInt ∧ (nI nn).toInt ≤ 20) then rdR N B (fun q8 : Nat => F (nI kk).toNatClampNeg (x1.toInt + 2 * (q8 : Int) + 0).toNat) (fun q8 : Nat => F (nI kk).toNatClampNeg (x1.toInt + 2 * (q8 : Int) + 1).toNat) (tpK (fl (nI kk).toNatClampNeg) lane (fz (nI kk).toNatClampNeg).toInt x1.toInt (nI nn).toNatClampNeg) else -1 := by
                        have t_b5 := b5
                        have t_b10 := b10
                        have t_c11 := nltI c11
                        have t_c12 := leI c12
                        have t_hkk := hkk
                        have t_hnn := hnn
                        have t_hj22 := hj22
                        have t_n24 := n24
                        have t_hj29 := hj29
                        have t_n31 := n31
                        have : (0 : Int32).toInt = 0 := qI_0
                        have : (20 : Int32).toInt = 20 := qI_20
                        have t_n0 : (nI N).toInt = (N : Int) := tn2093_ ()
                        have t_n1 : (nI B).toInt = (B : Int) := tn2094_ ()
                        have t_n2 : (nI D).toInt = (D : Int) := tn2095_ ()
                        have t_n3 : (nI kk).toInt = (kk : Int) := tn2097_ ()
                        have t_n4 : (nI nn).toInt = (nn : Int) := tn2098_ ()
                        have t_n5 : (nI j19).toInt = (j19 : Int) := tn2099_ ()
                        have t_n6 : (nI j25).toInt = (j25 : Int) := tn2101_ ()
                        have z0 : (0 : Int32).toInt = 0 := qI_0
                        have z1 : (1 : Int32).toInt = 1 := qI_1
                        have z2 : (2 : Int32).toInt = 2 := qI_2
                        have z3 : (3 : Int32).toInt = 3 := qI_3
                        have z5 : (5 : Int32).toInt = 5 := qI_5
                        have z9 : (9 : Int32).toInt = 9 := qI_9
                        have z20 : (20 : Int32).toInt = 20 := qI_20
                        have z4 : (-4 : Int32).toInt = -4 := (by decide)
                        have z10 : (10 : Int32).toInt = 10 := qI_10
                        have hm9 := w14.1
                        have hI9 := rdI_cg (N := N) (B := B) (m := u16) w14.2.1 w14.2.2.1 u16 0 (by omega)
                        have hO9 := rdO_cg (o := f3) (m := u16) w14.2.1 w14.2.2.1 u16 (Nat.le_refl _)
                        rw [if_pos (by omega), nI_clamp (by omega), nI_clamp (by omega)]
                        unfold rdR
                        rw [← hm9, ← hI9]
                        rw [hall, if_neg (by omega)]
                      obtain ⟨hP9, hD9⟩ := va_sub2 (ws' := (([(h0, .inr (10, [.ref rd, .ref wy, .ref tr, .ref im, .ref kp, .ref od, .ref ch, .ref cr, .ref le, .ref mk, .ref tl, .ref sh, .int tf, .int u15])), (wy, .inr (9, [.int (nI N), .int (nI B), .int (nI D), .ref a1, .ref a2, .ref a3, .ref a4, .ref a5, .ref a6])), (a3, .inl (G 0, 10, .inl g26)), (sh, .inr (6, [.ref la, .ref si, .ref ce, .int u15, .int (nI u16), .ref fi, .ref se])), (la, .inl (G 0, 4, .inl fl)), (si, .inl (G 0, 4, .inl fz)), (ce, .inl (G 4, 4, .inr (.inr (.inr (.inr (fun ir => if ir < 4 then some (rc ir) else none)))))), (fi, .inl (G 0, 20, .inl u17)), (se, .inl (G 0, 20, .inl u18))] : va_W) ++ ((((List.range 4).map (fun iq => (rc iq, .inl (G 0, 40, .inl (F iq))))) : va_W) ++ []))) hP hD [0, 1, 2, 3, 4, 5, 6, 7, 8, 9, 10, 11, 12] (by decide +kernel) rfl
                      refine W.widen (k := 0) (n := 0) (Nat.le_of_ble_eq_true rfl) (Nat.le_of_ble_eq_true rfl) ?_
                      exact W.iret (v := nI u16) hx hb hr (fun t ht hW => ⟨⟨nI u16, (u15, (nI u16), u17, u18, g26, u15), rfl, ⟨hpost, (by clear hpost; have t_b5 := b5; have t_b10 := b10; have t_c11 := nltI c11; have t_c12 := leI c12; have t_hkk := hkk; have t_hnn := hnn; have t_hj22 := hj22; have t_n24 := n24; have t_hj29 := hj29; have t_n31 := n31; have tqz_ := qz12_; have tnb_ := nib7 tn2093_ tn2094_ tn2095_ tn2097_ tn2098_ tn2099_ tn2101_; have tqz_ := qz46_; have z4 : (-4 : Int32).toInt = -4 := (by decide); have z10 : (10 : Int32).toInt = 10 := qI_10; have hm9 := w14.1; have hI9 := rdI_cg (N := N) (B := B) (m := u16) w14.2.1 w14.2.2.1 u16 0 (by omega); have hO9 := rdO_cg (o := f3) (m := u16) w14.2.1 w14.2.2.1 u16 (Nat.le_refl _); rw [if_pos (by omega), nI_clamp (by omega), nI_clamp (by omega)]; unfold rdF; rw [← hm9, ← hI9]; rw [hall, if_neg (by omega), ← hO9]; rw [hinv, show j25 = u16 by omega])⟩, ⟨by rw [ht]; exact hP9, hD9⟩⟩, hS.F ht⟩) hS.2.2 dX10_read_174
                    · skip
                      have tn2102_ : nIT j25 := fun _ => nI_toInt (by first | omega | (have t := nleI c30; omega))
                      have n32 : j25 < u16 := by have t := nleI c30; rw [show (nI (j25)).toInt = ((j25 : Nat) : Int) from tn2102_ ()] at t; rw [show (nI (u16)).toInt = ((u16 : Nat) : Int) from tn2100_ ()] at t; omega
                      refine lv_aload_n hx hb dX10_read_122 rfl (lv_at hl 1 rfl) ?_
                      refine va_get (D := (dC, dI)) (ci := 10) (v := .ref wy) (C := RX10) (T := TX10) (N := 14) hx hb hg inG10 hown hK.1 hP 0 rfl rfl 1 (Nat.le_of_ble_eq_true rfl) (hg _ wt_303) (fun _ h9 => h9) rfl dX10_read_123 ?_
                      refine va_getN (D := (dC, dI)) (ci := 9) (v := .ref a3) (C := RX9) (T := TX9) (N := 9) hx hb hg inG9 hown hK.1 hP 1 rfl rfl 5 (Nat.le_of_ble_eq_true rfl) (hK.nest wn_78) (fun _ h9 => h9) rfl dX10_read_126 ?_
                      refine lv_aload_n hx hb dX10_read_129 rfl (lv_at hl 1 rfl) ?_
                      refine va_get (D := (dC, dI)) (ci := 10) (v := .ref sh) (C := RX10) (T := TX10) (N := 14) hx hb hg inG10 hown hK.1 hP 0 rfl rfl 11 (Nat.le_of_ble_eq_true rfl) (hg _ wt_313) (fun _ h9 => h9) rfl dX10_read_130 ?_
                      refine va_getN (D := (dC, dI)) (ci := 6) (v := .ref fi) (C := RX6) (T := TX6) (N := 7) hx hb hg inG6 hown hK.1 hP 3 rfl rfl 5 (Nat.le_of_ble_eq_true rfl) (hK.nest wn_284) (fun _ h9 => h9) rfl dX10_read_133 ?_
                      refine lv_iload hx hb dX10_read_136 (lv_at hl 0 rfl) ?_
                      refine va_iald hx hb hK.1 hP 7 0 rfl rfl (vp_in_nI (by first | omega | (have t_b5 := b5; have t_b10 := b10; have t_c11 := nltI c11; have t_c12 := leI c12; have t_hkk := hkk; have t_hnn := hnn; have t_hj22 := hj22; have t_n24 := n24; have t_hj29 := hj29; have t_n32 := n32; have tqz_ := qz12_; have tnb_ := nib7 tn2093_ tn2094_ tn2095_ tn2097_ tn2098_ tn2099_ tn2102_; omega)) (by decide)) dX10_read_138 ?_
                      refine lv_cg (y := u17 j25) (by rw [nI_clamp (by omega)]) ?_
                      refine lv_aload_n hx hb dX10_read_139 rfl (lv_at hl 1 rfl) ?_
                      refine va_get (D := (dC, dI)) (ci := 10) (v := .ref sh) (C := RX10) (T := TX10) (N := 14) hx hb hg inG10 hown hK.1 hP 0 rfl rfl 11 (Nat.le_of_ble_eq_true rfl) (hg _ wt_313) (fun _ h9 => h9) rfl dX10_read_140 ?_
                      refine va_getN (D := (dC, dI)) (ci := 6) (v := .ref se) (C := RX6) (T := TX6) (N := 7) hx hb hg inG6 hown hK.1 hP 3 rfl rfl 6 (Nat.le_of_ble_eq_true rfl) (hK.nest wn_286) (fun _ h9 => h9) rfl dX10_read_143 ?_
                      refine lv_iload hx hb dX10_read_146 (lv_at hl 0 rfl) ?_
                      refine va_iald hx hb hK.1 hP 8 0 rfl rfl (vp_in_nI (by first | omega | (have t_b5 := b5; have t_b10 := b10; have t_c11 := nltI c11; have t_c12 := leI c12; have t_hkk := hkk; have t_hnn := hnn; have t_hj22 := hj22; have t_n24 := n24; have t_hj29 := hj29; have t_n32 := n32; have tqz_ := qz12_; have tnb_ := nib7 tn2093_ tn2094_ tn2095_ tn2097_ tn2098_ tn2099_ tn2102_; omega)) (by decide)) dX10_read_148 ?_
                      refine lv_cg (y := u18 j25) (by rw [nI_clamp (by omega)]) ?_
                      have hq33 := hchk.1 j25 (by omega)
                      refine va_iast hx hb hK.1 hP hD hS 2 0 rfl rfl (vp_in_iff.mpr (by have t_b5 := b5; have t_b10 := b10; have t_c11 := nltI c11; have t_c12 := leI c12; have t_hkk := hkk; have t_hnn := hnn; have t_hj22 := hj22; have t_n24 := n24; have t_hj29 := hj29; have t_n32 := n32; have t_hq33 := hq33; have tqz_ := qz12_; have tnb_ := nib7 tn2093_ tn2094_ tn2095_ tn2097_ tn2098_ tn2099_ tn2102_; constructor <;> omega)) dX10_read_149 (fun H locs hP hD hS => ?_)
                      refine lv_iinc (v := nI (j25 + 1)) (lv' := [(5, .int (nI (j25 + 1))), (0, .ref h0), (1, .int (nI kk)), (2, .int lane), (3, .int x1), (4, .int (nI nn))]) hx hb dX10_read_150 hl (k := 0) rfl (by rw [show Int32.ofInt 1 = nI 1 from by decide]; exact nI_add _ _) (by decide) rfl (fun ls hl => ?_)
                      refine lv_goto (tgt := 110) hx hb dX10_read_153 rfl ?_
                      exact ih110_27 (j25 + 1) (by omega) (by omega) (upd g26 (u17 j25).toNatClampNeg (u18 j25)) _ _ (by rw [hinv]; rfl) hP hD hS ls (lv_sub hl [0, 1, 2, 3, 4, 5] rfl)
                exact loop110_27 (u16 + 1) 0 (by omega) (by omega) f3 _ _ rfl hP hD hS ls (lv_sub hl [0, 1, 2, 3, 4, 5] rfl)
              · skip
                have tn2103_ : nIT j19 := fun _ => nI_toInt (by first | omega | (have t := nleI c23; omega))
                have tn2104_ : nIT u16 := fun _ => nI_toInt (by omega)
                have n34 : j19 < u16 := by have t := nleI c23; rw [show (nI (j19)).toInt = ((j19 : Nat) : Int) from tn2103_ ()] at t; rw [show (nI (u16)).toInt = ((u16 : Nat) : Int) from tn2104_ ()] at t; omega
                refine lv_aload_n hx hb dX10_read_55 rfl (lv_at hl 1 rfl) ?_
                refine va_get (D := (dC, dI)) (ci := 10) (v := .ref wy) (C := RX10) (T := TX10) (N := 14) hx hb hg inG10 hown hK.1 hP 0 rfl rfl 1 (Nat.le_of_ble_eq_true rfl) (hg _ wt_303) (fun _ h9 => h9) rfl dX10_read_56 ?_
                refine lv_aload_n hx hb dX10_read_59 rfl (lv_at hl 1 rfl) ?_
                refine va_get (D := (dC, dI)) (ci := 10) (v := .ref sh) (C := RX10) (T := TX10) (N := 14) hx hb hg inG10 hown hK.1 hP 0 rfl rfl 11 (Nat.le_of_ble_eq_true rfl) (hg _ wt_313) (fun _ h9 => h9) rfl dX10_read_60 ?_
                refine va_getN (D := (dC, dI)) (ci := 6) (v := .ref fi) (C := RX6) (T := TX6) (N := 7) hx hb hg inG6 hown hK.1 hP 3 rfl rfl 5 (Nat.le_of_ble_eq_true rfl) (hK.nest wn_284) (fun _ h9 => h9) rfl dX10_read_63 ?_
                refine lv_iload hx hb dX10_read_66 (lv_at hl 0 rfl) ?_
                refine va_iald hx hb hK.1 hP 7 0 rfl rfl (vp_in_nI (by first | omega | (have t_b5 := b5; have t_b10 := b10; have t_c11 := nltI c11; have t_c12 := leI c12; have t_hkk := hkk; have t_hnn := hnn; have t_hj22 := hj22; have t_n34 := n34; have tqz_ := qz12_; have tnb_ := nib6 tn2093_ tn2094_ tn2095_ tn2097_ tn2098_ tn2103_; omega)) (by decide)) dX10_read_68 ?_
                refine lv_cg (y := u17 j19) (by rw [nI_clamp (by omega)]) ?_
                have hPc := hP.sub (ws' := [(wy, .inr (9, [.int (nI N), .int (nI B), .int (nI D), .ref a1, .ref a2, .ref a3, .ref a4, .ref a5, .ref a6]))]) [1] rfl
                refine va_calli (va_runVN (As := [.int (u17 j19)]) (rest := []) ⟨hx, hb, hml, hown, hg⟩ (c_X9_hasStretch l dC dI G _ wy a1 a2 a3 a4 a5 a6 N B D (u17 j19) hN_N hB_B hD_D) (kwVN hg hK mfX9_hasStretch wn_527 ⟨Nat.le_of_ble_eq_true rfl, Nat.le_of_ble_eq_true rfl⟩) (preVR hK hPc (ci := 9) (r := (RX9, TX9, 9)) rfl rfl) rfl rfl hl.1 rfl (lv_room (Nat.le_of_ble_eq_true rfl)) dX10_read_69 ⟨Nat.le_of_ble_eq_true rfl, Nat.le_of_ble_eq_true rfl⟩) hS (fun q h1 h2 => absurd h2 (Nat.not_le.mpr h1)) (fun q h => hA q (Nat.le_trans hS.1 h)) (fun r35 ur35 t H1 locs ht hvm w36 hB hz1 hk1 hS => ?_)
                have hP := keepR hP hk1
                obtain ⟨w36, w36x⟩ := w36
                try simp only [l_ii, show (0 : Int32).toInt = 0 from by decide] at w36
                try rw [show (nI (N)).toInt = ((N : Nat) : Int) from tn2093_ ()] at w36
                subst w36
                refine lv_if_eq (tgt := 95) hx hb dX10_read_72 rfl (fun c37 => ?_) (fun c37 => ?_)
                · skip
                  have b38 := if10_n c37
                  refine lv_bipush (v := (-20)) hx hb dX10_read_95 rfl ?_
                  refine lv_iload hx hb dX10_read_97 (lv_at hl 0 rfl) ?_
                  refine lv_isub hx hb dX10_read_99 ?_
                  have hpost : ((-20) - (nI j19) : Int32) = if ((0 ≤ (nI kk).toInt ∧ (nI kk).toInt < 4) ∧ (0 ≤ lane.toInt ∧ lane.toInt ≤ 2) ∧ 0 ≤ (nI nn).toInt ∧ (nI nn).toInt ≤ 20) then rdR N B (fun q8 : Nat => F (nI kk).toNatClampNeg (x1.toInt + 2 * (q8 : Int) + 0).toNat) (fun q8 : Nat => F (nI kk).toNatClampNeg (x1.toInt + 2 * (q8 : Int) + 1).toNat) (tpK (fl (nI kk).toNatClampNeg) lane (fz (nI kk).toNatClampNeg).toInt x1.toInt (nI nn).toNatClampNeg) else -1 := by
                    have t_b5 := b5
                    have t_b10 := b10
                    have t_c11 := nltI c11
                    have t_c12 := leI c12
                    have t_hkk := hkk
                    have t_hnn := hnn
                    have t_hj22 := hj22
                    have t_n34 := n34
                    have t_b38 := b38
                    have : (0 : Int32).toInt = 0 := qI_0
                    have : (20 : Int32).toInt = 20 := qI_20
                    have t_n0 : (nI N).toInt = (N : Int) := tn2093_ ()
                    have t_n1 : (nI B).toInt = (B : Int) := tn2094_ ()
                    have t_n2 : (nI D).toInt = (D : Int) := tn2095_ ()
                    have t_n3 : (nI kk).toInt = (kk : Int) := tn2097_ ()
                    have t_n4 : (nI nn).toInt = (nn : Int) := tn2098_ ()
                    have t_n5 : (nI j19).toInt = (j19 : Int) := tn2103_ ()
                    have z0 : (0 : Int32).toInt = 0 := qI_0
                    have z1 : (1 : Int32).toInt = 1 := qI_1
                    have z2 : (2 : Int32).toInt = 2 := qI_2
                    have z3 : (3 : Int32).toInt = 3 := qI_3
                    have z5 : (5 : Int32).toInt = 5 := qI_5
                    have z9 : (9 : Int32).toInt = 9 := qI_9
                    have z20 : (20 : Int32).toInt = 20 := qI_20
                    have z4 : (-4 : Int32).toInt = -4 := (by decide)
                    have z10 : (10 : Int32).toInt = 10 := qI_10
                    have hm9 := w14.1
                    have hI9 := rdI_cg (N := N) (B := B) (m := u16) w14.2.1 w14.2.2.1 u16 0 (by omega)
                    have hO9 := rdO_cg (o := f3) (m := u16) w14.2.1 w14.2.2.1 u16 (Nat.le_refl _)
                    rw [if_pos (by omega), nI_clamp (by omega), nI_clamp (by omega)]
                    unfold rdR
                    rw [← hm9, ← hI9]
                    have hj9 : rdI N B u17 u18 u16 0 = j19 := (by rw [← hinv.2]; exact rdI_no (by omega))
                    rw [hj9, if_pos (by omega)]
                  obtain ⟨hP9, hD9⟩ := va_sub2 (ws' := (([(h0, .inr (10, [.ref rd, .ref wy, .ref tr, .ref im, .ref kp, .ref od, .ref ch, .ref cr, .ref le, .ref mk, .ref tl, .ref sh, .int tf, .int rf])), (wy, .inr (9, [.int (nI N), .int (nI B), .int (nI D), .ref a1, .ref a2, .ref a3, .ref a4, .ref a5, .ref a6])), (a3, .inl (G 0, 10, .inl f3)), (sh, .inr (6, [.ref la, .ref si, .ref ce, .int u15, .int (nI u16), .ref fi, .ref se])), (la, .inl (G 0, 4, .inl fl)), (si, .inl (G 0, 4, .inl fz)), (ce, .inl (G 4, 4, .inr (.inr (.inr (.inr (fun ir => if ir < 4 then some (rc ir) else none)))))), (fi, .inl (G 0, 20, .inl u17)), (se, .inl (G 0, 20, .inl u18))] : va_W) ++ ((((List.range 4).map (fun iq => (rc iq, .inl (G 0, 40, .inl (F iq))))) : va_W) ++ []))) hP hD [0, 1, 2, 3, 4, 5, 6, 7, 8, 9, 10, 11, 12] (by decide +kernel) rfl
                  refine W.widen (k := 0) (n := 0) (Nat.le_of_ble_eq_true rfl) (Nat.le_of_ble_eq_true rfl) ?_
                  exact W.iret (v := (-20) - (nI j19)) hx hb hr (fun t ht hW => ⟨⟨(-20) - (nI j19), (u15, (nI u16), u17, u18, f3, rf), rfl, ⟨hpost, (by clear hpost; have t_b5 := b5; have t_b10 := b10; have t_c11 := nltI c11; have t_c12 := leI c12; have t_hkk := hkk; have t_hnn := hnn; have t_hj22 := hj22; have t_n34 := n34; have t_b38 := b38; have tqz_ := qz12_; have tnb_ := nib6 tn2093_ tn2094_ tn2095_ tn2097_ tn2098_ tn2103_; have tqz_ := qz46_; have z4 : (-4 : Int32).toInt = -4 := (by decide); have z10 : (10 : Int32).toInt = 10 := qI_10; have hm9 := w14.1; have hI9 := rdI_cg (N := N) (B := B) (m := u16) w14.2.1 w14.2.2.1 u16 0 (by omega); have hO9 := rdO_cg (o := f3) (m := u16) w14.2.1 w14.2.2.1 u16 (Nat.le_refl _); rw [if_pos (by omega), nI_clamp (by omega), nI_clamp (by omega)]; unfold rdF; rw [← hm9, ← hI9]; first | (have hj9 : rdI N B u17 u18 u16 0 = j19 := (by rw [← hinv.2]; exact rdI_no (by omega)); rw [hj9, if_pos (by omega)]; done) | (rw [hall, if_neg (by omega)]; rfl))⟩, ⟨by rw [ht]; exact hP9, hD9⟩⟩, hS.F ht⟩) hS.2.2 dX10_read_100
                · skip
                  have b39 := if10_p c37
                  refine lv_aload_n hx hb dX10_read_75 rfl (lv_at hl 1 rfl) ?_
                  refine va_get (D := (dC, dI)) (ci := 10) (v := .ref wy) (C := RX10) (T := TX10) (N := 14) hx hb hg inG10 hown hK.1 hP 0 rfl rfl 1 (Nat.le_of_ble_eq_true rfl) (hg _ wt_303) (fun _ h9 => h9) rfl dX10_read_76 ?_
                  refine lv_aload_n hx hb dX10_read_79 rfl (lv_at hl 1 rfl) ?_
                  refine va_get (D := (dC, dI)) (ci := 10) (v := .ref sh) (C := RX10) (T := TX10) (N := 14) hx hb hg inG10 hown hK.1 hP 0 rfl rfl 11 (Nat.le_of_ble_eq_true rfl) (hg _ wt_313) (fun _ h9 => h9) rfl dX10_read_80 ?_
                  refine va_getN (D := (dC, dI)) (ci := 6) (v := .ref se) (C := RX6) (T := TX6) (N := 7) hx hb hg inG6 hown hK.1 hP 3 rfl rfl 6 (Nat.le_of_ble_eq_true rfl) (hK.nest wn_286) (fun _ h9 => h9) rfl dX10_read_83 ?_
                  refine lv_iload hx hb dX10_read_86 (lv_at hl 0 rfl) ?_
                  refine va_iald hx hb hK.1 hP 8 0 rfl rfl (vp_in_nI (by first | omega | (have t_b5 := b5; have t_b10 := b10; have t_c11 := nltI c11; have t_c12 := leI c12; have t_hkk := hkk; have t_hnn := hnn; have t_hj22 := hj22; have t_n34 := n34; have t_b39 := b39; have tqz_ := qz12_; have tnb_ := nib6 tn2093_ tn2094_ tn2095_ tn2097_ tn2098_ tn2103_; omega)) (by decide)) dX10_read_88 ?_
                  refine lv_cg (y := u18 j19) (by rw [nI_clamp (by omega)]) ?_
                  have hPc := hP.sub (ws' := [(wy, .inr (9, [.int (nI N), .int (nI B), .int (nI D), .ref a1, .ref a2, .ref a3, .ref a4, .ref a5, .ref a6]))]) [1] rfl
                  refine va_calli (va_runVN (As := [.int (u18 j19)]) (rest := []) ⟨hx, hb, hml, hown, hg⟩ (c_X9_hasBearer l dC dI G _ wy a1 a2 a3 a4 a5 a6 N B D (u18 j19) hN_N hB_B hD_D) (kwVN hg hK mfX9_hasBearer wn_535 ⟨Nat.le_of_ble_eq_true rfl, Nat.le_of_ble_eq_true rfl⟩) (preVR hK hPc (ci := 9) (r := (RX9, TX9, 9)) rfl rfl) rfl rfl hl.1 rfl (lv_room (Nat.le_of_ble_eq_true rfl)) dX10_read_89 ⟨Nat.le_of_ble_eq_true rfl, Nat.le_of_ble_eq_true rfl⟩) hS (fun q h1 h2 => absurd h2 (Nat.not_le.mpr h1)) (fun q h => hA q (Nat.le_trans hS.1 h)) (fun r40 ur40 t H1 locs ht hvm w41 hB hz1 hk1 hS => ?_)
                  have hP := keepR hP hk1
                  obtain ⟨w41, w41x⟩ := w41
                  try simp only [l_ii, show (0 : Int32).toInt = 0 from by decide] at w41
                  try rw [show (nI (B)).toInt = ((B : Nat) : Int) from tn2094_ ()] at w41
                  subst w41
                  refine lv_if_ne (tgt := 101) hx hb dX10_read_92 rfl (fun c42 => ?_) (fun c42 => ?_)
                  · skip
                    have b43 := if10_p c42
                    refine lv_iinc (v := nI (j19 + 1)) (lv' := [(5, .int (nI (j19 + 1))), (0, .ref h0), (1, .int (nI kk)), (2, .int lane), (3, .int x1), (4, .int (nI nn))]) hx hb dX10_read_101 hl (k := 0) rfl (by rw [show Int32.ofInt 1 = nI 1 from by decide]; exact nI_add _ _) (by decide) rfl (fun ls hl => ?_)
                    refine lv_goto (tgt := 43) hx hb dX10_read_104 rfl ?_
                    exact ih43_20 (j19 + 1) (by omega) (by omega)  _ _ ⟨(fun q9 hq9 => by rcases Nat.lt_or_eq_of_le (Nat.le_of_lt_succ hq9) with h9 | h9; exact hinv.1 q9 h9; rw [h9]; have t_b5 := b5; have t_b10 := b10; have t_c11 := nltI c11; have t_c12 := leI c12; have t_hkk := hkk; have t_hnn := hnn; have t_hj22 := hj22; have t_n34 := n34; have t_b39 := b39; have t_b43 := b43; have tqz_ := qz12_; have tnb_ := nib6 tn2093_ tn2094_ tn2095_ tn2097_ tn2098_ tn2103_; exact ⟨by omega, by omega⟩), (by have t_b5 := b5; have t_b10 := b10; have t_c11 := nltI c11; have t_c12 := leI c12; have t_hkk := hkk; have t_hnn := hnn; have t_hj22 := hj22; have t_n34 := n34; have t_b39 := b39; have t_b43 := b43; have tqz_ := qz12_; have tnb_ := nib6 tn2093_ tn2094_ tn2095_ tn2097_ tn2098_ tn2103_; rw [← rdI_go (by omega) ⟨⟨by omega, by omega⟩, ⟨by omega, by omega⟩⟩]; exact hinv.2)⟩ hP hD hS ls (lv_sub hl [0, 1, 2, 3, 4, 5] rfl)
                  · skip
                    have b44 := if10_n c42
                    refine lv_bipush (v := (-20)) hx hb dX10_read_95 rfl ?_
                    refine lv_iload hx hb dX10_read_97 (lv_at hl 0 rfl) ?_
                    refine lv_isub hx hb dX10_read_99 ?_
                    have hpost : ((-20) - (nI j19) : Int32) = if ((0 ≤ (nI kk).toInt ∧ (nI kk).toInt < 4) ∧ (0 ≤ lane.toInt ∧ lane.toInt ≤ 2) ∧ 0 ≤ (nI nn).toInt ∧ (nI nn).toInt ≤ 20) then rdR N B (fun q8 : Nat => F (nI kk).toNatClampNeg (x1.toInt + 2 * (q8 : Int) + 0).toNat) (fun q8 : Nat => F (nI kk).toNatClampNeg (x1.toInt + 2 * (q8 : Int) + 1).toNat) (tpK (fl (nI kk).toNatClampNeg) lane (fz (nI kk).toNatClampNeg).toInt x1.toInt (nI nn).toNatClampNeg) else -1 := by
                      have t_b5 := b5
                      have t_b10 := b10
                      have t_c11 := nltI c11
                      have t_c12 := leI c12
                      have t_hkk := hkk
                      have t_hnn := hnn
                      have t_hj22 := hj22
                      have t_n34 := n34
                      have t_b39 := b39
                      have t_b44 := b44
                      have : (0 : Int32).toInt = 0 := qI_0
                      have : (20 : Int32).toInt = 20 := qI_20
                      have t_n0 : (nI N).toInt = (N : Int) := tn2093_ ()
                      have t_n1 : (nI B).toInt = (B : Int) := tn2094_ ()
                      have t_n2 : (nI D).toInt = (D : Int) := tn2095_ ()
                      have t_n3 : (nI kk).toInt = (kk : Int) := tn2097_ ()
                      have t_n4 : (nI nn).toInt = (nn : Int) := tn2098_ ()
                      have t_n5 : (nI j19).toInt = (j19 : Int) := tn2103_ ()
                      have z0 : (0 : Int32).toInt = 0 := qI_0
                      have z1 : (1 : Int32).toInt = 1 := qI_1
                      have z2 : (2 : Int32).toInt = 2 := qI_2
                      have z3 : (3 : Int32).toInt = 3 := qI_3
                      have z5 : (5 : Int32).toInt = 5 := qI_5
                      have z9 : (9 : Int32).toInt = 9 := qI_9
                      have z20 : (20 : Int32).toInt = 20 := qI_20
                      have z4 : (-4 : Int32).toInt = -4 := (by decide)
                      have z10 : (10 : Int32).toInt = 10 := qI_10
                      have hm9 := w14.1
                      have hI9 := rdI_cg (N := N) (B := B) (m := u16) w14.2.1 w14.2.2.1 u16 0 (by omega)
                      have hO9 := rdO_cg (o := f3) (m := u16) w14.2.1 w14.2.2.1 u16 (Nat.le_refl _)
                      rw [if_pos (by omega), nI_clamp (by omega), nI_clamp (by omega)]
                      unfold rdR
                      rw [← hm9, ← hI9]
                      have hj9 : rdI N B u17 u18 u16 0 = j19 := (by rw [← hinv.2]; exact rdI_no (by omega))
                      rw [hj9, if_pos (by omega)]
                    obtain ⟨hP9, hD9⟩ := va_sub2 (ws' := (([(h0, .inr (10, [.ref rd, .ref wy, .ref tr, .ref im, .ref kp, .ref od, .ref ch, .ref cr, .ref le, .ref mk, .ref tl, .ref sh, .int tf, .int rf])), (wy, .inr (9, [.int (nI N), .int (nI B), .int (nI D), .ref a1, .ref a2, .ref a3, .ref a4, .ref a5, .ref a6])), (a3, .inl (G 0, 10, .inl f3)), (sh, .inr (6, [.ref la, .ref si, .ref ce, .int u15, .int (nI u16), .ref fi, .ref se])), (la, .inl (G 0, 4, .inl fl)), (si, .inl (G 0, 4, .inl fz)), (ce, .inl (G 4, 4, .inr (.inr (.inr (.inr (fun ir => if ir < 4 then some (rc ir) else none)))))), (fi, .inl (G 0, 20, .inl u17)), (se, .inl (G 0, 20, .inl u18))] : va_W) ++ ((((List.range 4).map (fun iq => (rc iq, .inl (G 0, 40, .inl (F iq))))) : va_W) ++ []))) hP hD [0, 1, 2, 3, 4, 5, 6, 7, 8, 9, 10, 11, 12] (by decide +kernel) rfl
                    refine W.widen (k := 0) (n := 0) (Nat.le_of_ble_eq_true rfl) (Nat.le_of_ble_eq_true rfl) ?_
                    exact W.iret (v := (-20) - (nI j19)) hx hb hr (fun t ht hW => ⟨⟨(-20) - (nI j19), (u15, (nI u16), u17, u18, f3, rf), rfl, ⟨hpost, (by clear hpost; have t_b5 := b5; have t_b10 := b10; have t_c11 := nltI c11; have t_c12 := leI c12; have t_hkk := hkk; have t_hnn := hnn; have t_hj22 := hj22; have t_n34 := n34; have t_b39 := b39; have t_b44 := b44; have tqz_ := qz12_; have tnb_ := nib6 tn2093_ tn2094_ tn2095_ tn2097_ tn2098_ tn2103_; have tqz_ := qz46_; have z4 : (-4 : Int32).toInt = -4 := (by decide); have z10 : (10 : Int32).toInt = 10 := qI_10; have hm9 := w14.1; have hI9 := rdI_cg (N := N) (B := B) (m := u16) w14.2.1 w14.2.2.1 u16 0 (by omega); have hO9 := rdO_cg (o := f3) (m := u16) w14.2.1 w14.2.2.1 u16 (Nat.le_refl _); rw [if_pos (by omega), nI_clamp (by omega), nI_clamp (by omega)]; unfold rdF; rw [← hm9, ← hI9]; first | (have hj9 : rdI N B u17 u18 u16 0 = j19 := (by rw [← hinv.2]; exact rdI_no (by omega)); rw [hj9, if_pos (by omega)]; done) | (rw [hall, if_neg (by omega)]; rfl))⟩, ⟨by rw [ht]; exact hP9, hD9⟩⟩, hS.F ht⟩) hS.2.2 dX10_read_100
          exact loop43_20 (u16 + 1) 0 (by omega) (by omega)  _ _ ⟨(fun q9 h9 => absurd h9 (Nat.not_lt_zero _)), rfl⟩ hP hD hS ls (lv_sub hl [0, 1, 2, 3, 4, 5] rfl)
        · skip
          refine lv_iconst (v := (-1)) hx hb dX10_read_26 rfl ?_
          have hpost : ((-1) : Int32) = if ((0 ≤ k.toInt ∧ k.toInt < 4) ∧ (0 ≤ lane.toInt ∧ lane.toInt ≤ 2) ∧ 0 ≤ n.toInt ∧ n.toInt ≤ 20) then rdR N B (fun q8 : Nat => F k.toNatClampNeg (x1.toInt + 2 * (q8 : Int) + 0).toNat) (fun q8 : Nat => F k.toNatClampNeg (x1.toInt + 2 * (q8 : Int) + 1).toNat) (tpK (fl k.toNatClampNeg) lane (fz k.toNatClampNeg).toInt x1.toInt n.toNatClampNeg) else -1 := by
            have t_b5 := b5
            have t_b10 := b10
            have t_c11 := nltI c11
            have t_c12 := nleI c12
            have : (0 : Int32).toInt = 0 := qI_0
            have : (20 : Int32).toInt = 20 := qI_20
            have t_n0 : (nI N).toInt = (N : Int) := tn2093_ ()
            have t_n1 : (nI B).toInt = (B : Int) := tn2094_ ()
            have t_n2 : (nI D).toInt = (D : Int) := tn2095_ ()
            have z0 : (0 : Int32).toInt = 0 := qI_0
            have z1 : (1 : Int32).toInt = 1 := qI_1
            have z2 : (2 : Int32).toInt = 2 := qI_2
            have z3 : (3 : Int32).toInt = 3 := qI_3
            have z5 : (5 : Int32).toInt = 5 := qI_5
            have z9 : (9 : Int32).toInt = 9 := qI_9
            have z20 : (20 : Int32).toInt = 20 := qI_20
            have z4 : (-4 : Int32).toInt = -4 := (by decide)
            have z10 : (10 : Int32).toInt = 10 := qI_10
            rw [if_neg (by omega)]
          obtain ⟨hP9, hD9⟩ := va_sub2 (ws' := (([(h0, .inr (10, [.ref rd, .ref wy, .ref tr, .ref im, .ref kp, .ref od, .ref ch, .ref cr, .ref le, .ref mk, .ref tl, .ref sh, .int tf, .int rf])), (wy, .inr (9, [.int (nI N), .int (nI B), .int (nI D), .ref a1, .ref a2, .ref a3, .ref a4, .ref a5, .ref a6])), (a3, .inl (G 0, 10, .inl f3)), (sh, .inr (6, [.ref la, .ref si, .ref ce, .int x8, .int x9, .ref fi, .ref se])), (la, .inl (G 0, 4, .inl fl)), (si, .inl (G 0, 4, .inl fz)), (ce, .inl (G 4, 4, .inr (.inr (.inr (.inr (fun ir => if ir < 4 then some (rc ir) else none)))))), (fi, .inl (G 0, 20, .inl f1)), (se, .inl (G 0, 20, .inl f2))] : va_W) ++ ((((List.range 4).map (fun iq => (rc iq, .inl (G 0, 40, .inl (F iq))))) : va_W) ++ []))) hP hD [0, 1, 2, 3, 4, 5, 6, 7, 8, 9, 10, 11, 12] (by decide +kernel) rfl
          refine W.widen (k := 0) (n := 0) (Nat.le_of_ble_eq_true rfl) (Nat.le_of_ble_eq_true rfl) ?_
          exact W.iret (v := (-1)) hx hb hr (fun t ht hW => ⟨⟨(-1), (x8, x9, f1, f2, f3, rf), rfl, ⟨hpost, (by have t_b5 := b5; have t_b10 := b10; have t_c11 := nltI c11; have t_c12 := nleI c12; have tqz_ := qz12_; have tnb_ := nib3 tn2093_ tn2094_ tn2095_; have tqz_ := qz46_; have z4 : (-4 : Int32).toInt = -4 := (by decide); have z10 : (10 : Int32).toInt = 10 := qI_10; rw [if_neg (by omega)])⟩, ⟨by rw [ht]; exact hP9, hD9⟩⟩, hS.F ht⟩) hS.2.2 dX10_read_27

set_option maxHeartbeats 1000000 in
set_option maxRecDepth 100000 in
theorem c_X11_putsO (l : Launch) (dC : Nat → ClassId) (dI : Nat → Nat → Nat) (G : Nat → ClassId) (sz : Nat) (h0 st N B rp tp T cu lt od th be ln S ma M ah bh ik la lg ce : Nat) (i v vrs vrb vhs vca vxs vxb vfa vbr vba vsp vhe vtk vva vto : Int32) (fst : Nat → Int32) (hN : N ≤ 10) (hB : B ≤ 6) (hT : T ≤ 320) (hS0 : S ≤ 8) (hM : M ≤ 6) (hst : OKS fst) : Met l yX11_puts (Cond.code yX11_puts cX11_puts 3 (some .int) :: GT) ({ frames := 2, cells := 0, slots := 0, locals := 46 } : Room) (PcW [.ref h0, .int i, .int v] dC dI G [(h0, .inr (11, [.ref st, .int (nI N), .int (nI B), .ref rp, .int vrs, .int vrb, .int vhs, .int vca, .int vxs, .int vxb, .ref tp, .int (nI T), .int vfa, .int vbr, .int vba, .int vsp, .int vhe, .int vtk, .int vva, .ref cu, .ref lt, .ref od, .ref th, .ref be, .ref ln, .int (nI S), .ref ma, .int (nI M), .ref ah, .ref bh, .ref ik, .ref la, .ref lg, .ref ce, .int vto])), (st, .inl (G 0, 196, .inl fst))] sz) (va_Qi (fun (r : Int32) (u : (Nat → Int32)) => match u with | ost => (r = if ((0 ≤ i.toInt ∧ i.toInt < ((N : Nat) : Int)) ∧ (0 ≤ v.toInt ∧ v.toInt < ((B : Nat) : Int))) then fst (38 + i.toNatClampNeg) else -1) ∧ OKS ost ∧ ost = (if ((0 ≤ i.toInt ∧ i.toInt < ((N : Nat) : Int)) ∧ (0 ≤ v.toInt ∧ v.toInt < ((B : Nat) : Int))) then upd fst (38 + i.toNatClampNeg) v else fst)) (fun (u : (Nat → Int32)) (t : State) => match u with | ost => va_P (dC, dI) vwCl [(h0, .inr (11, [.ref st, .int (nI N), .int (nI B), .ref rp, .int vrs, .int vrb, .int vhs, .int vca, .int vxs, .int vxb, .ref tp, .int (nI T), .int vfa, .int vbr, .int vba, .int vsp, .int vhe, .int vtk, .int vva, .ref cu, .ref lt, .ref od, .ref th, .ref be, .ref ln, .int (nI S), .ref ma, .int (nI M), .ref ah, .ref bh, .ref ik, .ref la, .ref lg, .ref ce, .int vto])), (st, .inl (G 0, 196, .inl ost))] t.heap ∧ va_D (va_A [(h0, .inr (11, [.ref st, .int (nI N), .int (nI B), .ref rp, .int vrs, .int vrb, .int vhs, .int vca, .int vxs, .int vxb, .ref tp, .int (nI T), .int vfa, .int vbr, .int vba, .int vsp, .int vhe, .int vtk, .int vva, .ref cu, .ref lt, .ref od, .ref th, .ref be, .ref ln, .int (nI S), .ref ma, .int (nI M), .ref ah, .ref bh, .ref ik, .ref la, .ref lg, .ref ce, .int vto])), (st, .inl (G 0, 196, .inl fst))] sz) [(h0, .inr (11, [.ref st, .int (nI N), .int (nI B), .ref rp, .int vrs, .int vrb, .int vhs, .int vca, .int vxs, .int vxb, .ref tp, .int (nI T), .int vfa, .int vbr, .int vba, .int vsp, .int vhe, .int vtk, .int vva, .ref cu, .ref lt, .ref od, .ref th, .ref be, .ref ln, .int (nI S), .ref ma, .int (nI M), .ref ah, .ref bh, .ref ik, .ref la, .ref lg, .ref ce, .int vto])), (st, .inl (G 0, 196, .inl ost))]) (va_A [(h0, .inr (11, [.ref st, .int (nI N), .int (nI B), .ref rp, .int vrs, .int vrb, .int vhs, .int vca, .int vxs, .int vxb, .ref tp, .int (nI T), .int vfa, .int vbr, .int vba, .int vsp, .int vhe, .int vtk, .int vva, .ref cu, .ref lt, .ref od, .ref th, .ref be, .ref ln, .int (nI S), .ref ma, .int (nI M), .ref ah, .ref bh, .ref ik, .ref la, .ref lg, .ref ce, .int vto])), (st, .inl (G 0, 196, .inl fst))] sz)) 0 0 (va_A [(h0, .inr (11, [.ref st, .int (nI N), .int (nI B), .ref rp, .int vrs, .int vrb, .int vhs, .int vca, .int vxs, .int vxb, .ref tp, .int (nI T), .int vfa, .int vbr, .int vba, .int vsp, .int vhe, .int vtk, .int vva, .ref cu, .ref lt, .ref od, .ref th, .ref be, .ref ln, .int (nI S), .ref ma, .int (nI M), .ref ah, .ref bh, .ref ik, .ref la, .ref lg, .ref ce, .int vto])), (st, .inl (G 0, 196, .inl fst))] sz) := by
  have hB_ := hB
  have hM_ := hM
  have hT_ := hT
  have tn2105_ : nIT N := fun _ => nI_toInt (by omega)
  have tn2106_ : nIT B := fun _ => nI_toInt (by omega)
  have tn2107_ : nIT T := fun _ => nI_toInt (by omega)
  have tn2108_ : nIT S := fun _ => nI_toInt (by omega)
  have tn2109_ : nIT M := fun _ => nI_toInt (by omega)
  refine Met.ofW (cc := cX11_puts) (maxL := 3) (ret := (some .int)) (by decide) rfl ?_
  intro p e s m args below meth c s₁ Bd hml hv
  obtain ⟨rfl, hsz, hP, hK, hD0⟩ := hv
  have hx := Bd.exec
  have hb := Bd.bytes
  have hr := Bd.returns
  have hg : ∀ w ∈ GT, w.before ([.ref h0, .int i, .int v] : List Value).toArray s = true := fun w h => atoms_spec (ws := Cond.code yX11_puts cX11_puts 3 (some .int) :: GT) Bd.pre w (List.mem_cons_of_mem _ h)
  have hown : s.vm.findClass RX11 = some m.cls := findClass_of_methodNamed Bd.named
  have hlocks := Bd.notSynchronized
  subst hsz
  have hD := hD0.self (sz := s.heap.size)
  generalize hAe : va_A [(h0, .inr (11, [.ref st, .int (nI N), .int (nI B), .ref rp, .int vrs, .int vrb, .int vhs, .int vca, .int vxs, .int vxb, .ref tp, .int (nI T), .int vfa, .int vbr, .int vba, .int vsp, .int vhe, .int vtk, .int vva, .ref cu, .ref lt, .ref od, .ref th, .ref be, .ref ln, .int (nI S), .ref ma, .int (nI M), .ref ah, .ref bh, .ref ik, .ref la, .ref lg, .ref ce, .int vto])), (st, .inl (G 0, 196, .inl fst))] s.heap.size = A at hD ⊢
  have hA : ∀ q : Nat, s.heap.size ≤ q → A q := fun q h => by rw [← hAe]; exact Or.inr h
  have hS : va_S A s.heap s.heap [] := va_S.rf
  have hl := lv_entry ([.ref h0, .int i, .int v]) (n := 3) (Nat.le_of_ble_eq_true rfl)
  rw [lg_entry_eq]
  generalize (lg_sl ([.ref h0, .int i, .int v]) ++ List.replicate (3 - (lg_sl ([.ref h0, .int i, .int v])).length) Slot.unset).toArray = ls at hl ⊢
  have hl : lv_has ls 3 [(0, .ref h0), (1, .int i), (2, .int v)] := hl
  refine lv_aload_n hx hb dX11_puts_0 rfl (lv_at hl 0 rfl) ?_
  refine lv_aload_n hx hb dX11_puts_1 rfl (lv_at hl 0 rfl) ?_
  refine lv_iload_n hx hb dX11_puts_2 rfl (lv_at hl 1 rfl) ?_
  have hPc := hP.sub (ws' := [(h0, .inr (11, [.ref st, .int (nI N), .int (nI B), .ref rp, .int vrs, .int vrb, .int vhs, .int vca, .int vxs, .int vxb, .ref tp, .int (nI T), .int vfa, .int vbr, .int vba, .int vsp, .int vhe, .int vtk, .int vva, .ref cu, .ref lt, .ref od, .ref th, .ref be, .ref ln, .int (nI S), .ref ma, .int (nI M), .ref ah, .ref bh, .ref ik, .ref la, .ref lg, .ref ce, .int vto]))]) [0] rfl
  refine va_calli (va_runV (As := [.int i]) (rest := [.ref h0]) ⟨hx, hb, hml, hown, hg⟩ (c_X11_isStretch l dC dI G _ h0 st N B rp tp T cu lt od th be ln S ma M ah bh ik la lg ce i vrs vrb vhs vca vxs vxb vfa vbr vba vsp vhe vtk vva vto hN hB_ hT_ hS0 hM_) (kwV hg mfX11_isStretch wt_1052 ⟨Nat.le_of_ble_eq_true rfl, Nat.le_of_ble_eq_true rfl⟩) (preVR hK hPc (ci := 11) (r := (RX11, TX11, 35)) rfl rfl) rfl rfl hl.1 rfl (lv_room (Nat.le_of_ble_eq_true rfl)) dX11_puts_3 ⟨Nat.le_of_ble_eq_true rfl, Nat.le_of_ble_eq_true rfl⟩) hS (fun q h1 h2 => absurd h2 (Nat.not_le.mpr h1)) (fun q h => hA q (Nat.le_trans hS.1 h)) (fun r1 ur1 t H1 locs ht hvm w2 hB hz1 hk1 hS => ?_)
  have hP := keepR hP hk1
  obtain ⟨w2, w2x⟩ := w2
  try simp only [l_ii, show (0 : Int32).toInt = 0 from by decide] at w2
  try rw [show (nI (N)).toInt = ((N : Nat) : Int) from tn2105_ ()] at w2
  subst w2
  refine lv_if_eq (tgt := 21) hx hb dX11_puts_6 rfl (fun c3 => ?_) (fun c3 => ?_)
  · skip
    have b4 := if10_n c3
    refine lv_iconst (v := 0) hx hb dX11_puts_21 rfl ?_
    refine lv_bipush (v := 38) hx hb dX11_puts_22 rfl ?_
    refine lv_iload_n hx hb dX11_puts_24 rfl (lv_at hl 1 rfl) ?_
    refine lv_iadd hx hb dX11_puts_25 ?_
    refine lv_iload_n hx hb dX11_puts_26 rfl (lv_at hl 2 rfl) ?_
    obtain ⟨hPc, hDc, hFc⟩ := va_sub3 (ws' := [(h0, .inr (11, [.ref st, .int (nI N), .int (nI B), .ref rp, .int vrs, .int vrb, .int vhs, .int vca, .int vxs, .int vxb, .ref tp, .int (nI T), .int vfa, .int vbr, .int vba, .int vsp, .int vhe, .int vtk, .int vva, .ref cu, .ref lt, .ref od, .ref th, .ref be, .ref ln, .int (nI S), .ref ma, .int (nI M), .ref ah, .ref bh, .ref ik, .ref la, .ref lg, .ref ce, .int vto])), (st, .inl (G 0, 196, .inl fst))]) hP hD hS hA [0, 1] (by decide +kernel) rfl
    refine va_calli (va_runV (As := [.int 0, .int (38 + i), .int v]) (rest := []) ⟨hx, hb, hml, hown, hg⟩ (c_X11_sets0E l dC dI G _ h0 st N B rp tp T cu lt od th be ln S ma M ah bh ik la lg ce (38 + i) v vrs vrb vhs vca vxs vxb vfa vbr vba vsp vhe vtk vva vto fst hN hB_ hT_ hS0 hM_ hst) (kwV hg mfX11_sets wt_1070 ⟨Nat.le_of_ble_eq_true rfl, Nat.le_of_ble_eq_true rfl⟩) (preVW hK hPc hDc (ci := 11) (r := (RX11, TX11, 35)) rfl rfl) rfl rfl hl.1 rfl (lv_room (Nat.le_of_ble_eq_true rfl)) dX11_puts_27 ⟨Nat.le_of_ble_eq_true rfl, Nat.le_of_ble_eq_true rfl⟩) hS (fun q _ h => hFc q h) hFc (fun r5 ur5 t H1 locs ht hvm w6 hB hz1 hk1 hS => ?_)
    obtain ⟨u7, rfl⟩ : ∃ z, z = ur5 := ⟨_, rfl⟩
    obtain ⟨hP1, hD1⟩ := hB
    rw [ht] at hP1
    obtain ⟨hP, hD⟩ := va_join (wr := []) (w1 := [(h0, .inr (11, [.ref st, .int (nI N), .int (nI B), .ref rp, .int vrs, .int vrb, .int vhs, .int vca, .int vxs, .int vxb, .ref tp, .int (nI T), .int vfa, .int vbr, .int vba, .int vsp, .int vhe, .int vtk, .int vva, .ref cu, .ref lt, .ref od, .ref th, .ref be, .ref ln, .int (nI S), .ref ma, .int (nI M), .ref ah, .ref bh, .ref ik, .ref la, .ref lg, .ref ce, .int vto])), (st, .inl (G 0, 196, .inl u7))]) hP hD [0, 1] [] rfl rfl (by decide +kernel) (by decide +kernel) hk1 hFc hP1 hD1
    generalize H1 = H at hP hS ⊢
    obtain ⟨w6, w6x⟩ := w6
    have hpost : (r5 : Int32) = if ((0 ≤ i.toInt ∧ i.toInt < ((N : Nat) : Int)) ∧ (0 ≤ v.toInt ∧ v.toInt < ((B : Nat) : Int))) then fst (38 + i.toNatClampNeg) else -1 := by
      have t_b4 := b4
      have t_n0 : (nI N).toInt = (N : Int) := tn2105_ ()
      have t_n1 : (nI B).toInt = (B : Int) := tn2106_ ()
      have t_n2 : (nI T).toInt = (T : Int) := tn2107_ ()
      have t_n3 : (nI S).toInt = (S : Int) := tn2108_ ()
      have t_n4 : (nI M).toInt = (M : Int) := tn2109_ ()
      have z0 : (0 : Int32).toInt = 0 := qI_0
      have z1 : (1 : Int32).toInt = 1 := qI_1
      have z2 : (2 : Int32).toInt = 2 := qI_2
      have z3 : (3 : Int32).toInt = 3 := qI_3
      have z5 : (5 : Int32).toInt = 5 := qI_5
      have z9 : (9 : Int32).toInt = 9 := qI_9
      have z20 : (20 : Int32).toInt = 20 := qI_20
      have z4 : (-4 : Int32).toInt = -4 := (by decide)
      have z10 : (10 : Int32).toInt = 10 := qI_10
      rw [if_neg (by omega)]
      exact w6
    obtain ⟨hP9, hD9⟩ := va_sub2 (ws' := [(h0, .inr (11, [.ref st, .int (nI N), .int (nI B), .ref rp, .int vrs, .int vrb, .int vhs, .int vca, .int vxs, .int vxb, .ref tp, .int (nI T), .int vfa, .int vbr, .int vba, .int vsp, .int vhe, .int vtk, .int vva, .ref cu, .ref lt, .ref od, .ref th, .ref be, .ref ln, .int (nI S), .ref ma, .int (nI M), .ref ah, .ref bh, .ref ik, .ref la, .ref lg, .ref ce, .int vto])), (st, .inl (G 0, 196, .inl u7))]) hP hD [0, 1] (by decide +kernel) rfl
    refine W.widen (k := 0) (n := 0) (Nat.le_of_ble_eq_true rfl) (Nat.le_of_ble_eq_true rfl) ?_
    exact W.iret (v := r5) hx hb hr (fun t ht hW => ⟨⟨r5, u7, rfl, ⟨hpost, ⟨w6x.1, (by have t_b4 := b4; have tnb_ := nib5 tn2105_ tn2106_ tn2107_ tn2108_ tn2109_; have tqz_ := qz46_; have z4 : (-4 : Int32).toInt = -4 := (by decide); have z10 : (10 : Int32).toInt = 10 := qI_10; rw [if_neg (by omega)]; exact w6x.2)⟩⟩, ⟨by rw [ht]; exact hP9, hD9⟩⟩, hS.F ht⟩) hS.2.2 dX11_puts_30
  · skip
    have b8 := if10_p c3
    refine lv_aload_n hx hb dX11_puts_9 rfl (lv_at hl 0 rfl) ?_
    refine lv_iload_n hx hb dX11_puts_10 rfl (lv_at hl 2 rfl) ?_
    have hPc := hP.sub (ws' := [(h0, .inr (11, [.ref st, .int (nI N), .int (nI B), .ref rp, .int vrs, .int vrb, .int vhs, .int vca, .int vxs, .int vxb, .ref tp, .int (nI T), .int vfa, .int vbr, .int vba, .int vsp, .int vhe, .int vtk, .int vva, .ref cu, .ref lt, .ref od, .ref th, .ref be, .ref ln, .int (nI S), .ref ma, .int (nI M), .ref ah, .ref bh, .ref ik, .ref la, .ref lg, .ref ce, .int vto]))]) [0] rfl
    refine va_calli (va_runV (As := [.int v]) (rest := [.ref h0]) ⟨hx, hb, hml, hown, hg⟩ (c_X11_isBearer l dC dI G _ h0 st N B rp tp T cu lt od th be ln S ma M ah bh ik la lg ce v vrs vrb vhs vca vxs vxb vfa vbr vba vsp vhe vtk vva vto hN hB_ hT_ hS0 hM_) (kwV hg mfX11_isBearer wt_1061 ⟨Nat.le_of_ble_eq_true rfl, Nat.le_of_ble_eq_true rfl⟩) (preVR hK hPc (ci := 11) (r := (RX11, TX11, 35)) rfl rfl) rfl rfl hl.1 rfl (lv_room (Nat.le_of_ble_eq_true rfl)) dX11_puts_11 ⟨Nat.le_of_ble_eq_true rfl, Nat.le_of_ble_eq_true rfl⟩) hS (fun q h1 h2 => absurd h2 (Nat.not_le.mpr h1)) (fun q h => hA q (Nat.le_trans hS.1 h)) (fun r9 ur9 t H1 locs ht hvm w10 hB hz1 hk1 hS => ?_)
    have hP := keepR hP hk1
    obtain ⟨w10, w10x⟩ := w10
    try simp only [l_ii, show (0 : Int32).toInt = 0 from by decide] at w10
    try rw [show (nI (B)).toInt = ((B : Nat) : Int) from tn2106_ ()] at w10
    subst w10
    refine lv_if_eq (tgt := 21) hx hb dX11_puts_14 rfl (fun c11 => ?_) (fun c11 => ?_)
    · skip
      have b12 := if10_n c11
      refine lv_iconst (v := 0) hx hb dX11_puts_21 rfl ?_
      refine lv_bipush (v := 38) hx hb dX11_puts_22 rfl ?_
      refine lv_iload_n hx hb dX11_puts_24 rfl (lv_at hl 1 rfl) ?_
      refine lv_iadd hx hb dX11_puts_25 ?_
      refine lv_iload_n hx hb dX11_puts_26 rfl (lv_at hl 2 rfl) ?_
      obtain ⟨hPc, hDc, hFc⟩ := va_sub3 (ws' := [(h0, .inr (11, [.ref st, .int (nI N), .int (nI B), .ref rp, .int vrs, .int vrb, .int vhs, .int vca, .int vxs, .int vxb, .ref tp, .int (nI T), .int vfa, .int vbr, .int vba, .int vsp, .int vhe, .int vtk, .int vva, .ref cu, .ref lt, .ref od, .ref th, .ref be, .ref ln, .int (nI S), .ref ma, .int (nI M), .ref ah, .ref bh, .ref ik, .ref la, .ref lg, .ref ce, .int vto])), (st, .inl (G 0, 196, .inl fst))]) hP hD hS hA [0, 1] (by decide +kernel) rfl
      refine va_calli (va_runV (As := [.int 0, .int (38 + i), .int v]) (rest := []) ⟨hx, hb, hml, hown, hg⟩ (c_X11_sets0E l dC dI G _ h0 st N B rp tp T cu lt od th be ln S ma M ah bh ik la lg ce (38 + i) v vrs vrb vhs vca vxs vxb vfa vbr vba vsp vhe vtk vva vto fst hN hB_ hT_ hS0 hM_ hst) (kwV hg mfX11_sets wt_1070 ⟨Nat.le_of_ble_eq_true rfl, Nat.le_of_ble_eq_true rfl⟩) (preVW hK hPc hDc (ci := 11) (r := (RX11, TX11, 35)) rfl rfl) rfl rfl hl.1 rfl (lv_room (Nat.le_of_ble_eq_true rfl)) dX11_puts_27 ⟨Nat.le_of_ble_eq_true rfl, Nat.le_of_ble_eq_true rfl⟩) hS (fun q _ h => hFc q h) hFc (fun r13 ur13 t H1 locs ht hvm w14 hB hz1 hk1 hS => ?_)
      obtain ⟨u15, rfl⟩ : ∃ z, z = ur13 := ⟨_, rfl⟩
      obtain ⟨hP1, hD1⟩ := hB
      rw [ht] at hP1
      obtain ⟨hP, hD⟩ := va_join (wr := []) (w1 := [(h0, .inr (11, [.ref st, .int (nI N), .int (nI B), .ref rp, .int vrs, .int vrb, .int vhs, .int vca, .int vxs, .int vxb, .ref tp, .int (nI T), .int vfa, .int vbr, .int vba, .int vsp, .int vhe, .int vtk, .int vva, .ref cu, .ref lt, .ref od, .ref th, .ref be, .ref ln, .int (nI S), .ref ma, .int (nI M), .ref ah, .ref bh, .ref ik, .ref la, .ref lg, .ref ce, .int vto])), (st, .inl (G 0, 196, .inl u15))]) hP hD [0, 1] [] rfl rfl (by decide +kernel) (by decide +kernel) hk1 hFc hP1 hD1
      generalize H1 = H at hP hS ⊢
      obtain ⟨w14, w14x⟩ := w14
      have hpost : (r13 : Int32) = if ((0 ≤ i.toInt ∧ i.toInt < ((N : Nat) : Int)) ∧ (0 ≤ v.toInt ∧ v.toInt < ((B : Nat) : Int))) then fst (38 + i.toNatClampNeg) else -1 := by
        have t_b8 := b8
        have t_b12 := b12
        have t_n0 : (nI N).toInt = (N : Int) := tn2105_ ()
        have t_n1 : (nI B).toInt = (B : Int) := tn2106_ ()
        have t_n2 : (nI T).toInt = (T : Int) := tn2107_ ()
        have t_n3 : (nI S).toInt = (S : Int) := tn2108_ ()
        have t_n4 : (nI M).toInt = (M : Int) := tn2109_ ()
        have z0 : (0 : Int32).toInt = 0 := qI_0
        have z1 : (1 : Int32).toInt = 1 := qI_1
        have z2 : (2 : Int32).toInt = 2 := qI_2
        have z3 : (3 : Int32).toInt = 3 := qI_3
        have z5 : (5 : Int32).toInt = 5 := qI_5
        have z9 : (9 : Int32).toInt = 9 := qI_9
        have z20 : (20 : Int32).toInt = 20 := qI_20
        have z4 : (-4 : Int32).toInt = -4 := (by decide)
        have z10 : (10 : Int32).toInt = 10 := qI_10
        rw [if_neg (by omega)]
        exact w14
      obtain ⟨hP9, hD9⟩ := va_sub2 (ws' := [(h0, .inr (11, [.ref st, .int (nI N), .int (nI B), .ref rp, .int vrs, .int vrb, .int vhs, .int vca, .int vxs, .int vxb, .ref tp, .int (nI T), .int vfa, .int vbr, .int vba, .int vsp, .int vhe, .int vtk, .int vva, .ref cu, .ref lt, .ref od, .ref th, .ref be, .ref ln, .int (nI S), .ref ma, .int (nI M), .ref ah, .ref bh, .ref ik, .ref la, .ref lg, .ref ce, .int vto])), (st, .inl (G 0, 196, .inl u15))]) hP hD [0, 1] (by decide +kernel) rfl
      refine W.widen (k := 0) (n := 0) (Nat.le_of_ble_eq_true rfl) (Nat.le_of_ble_eq_true rfl) ?_
      exact W.iret (v := r13) hx hb hr (fun t ht hW => ⟨⟨r13, u15, rfl, ⟨hpost, ⟨w14x.1, (by have t_b8 := b8; have t_b12 := b12; have tnb_ := nib5 tn2105_ tn2106_ tn2107_ tn2108_ tn2109_; have tqz_ := qz46_; have z4 : (-4 : Int32).toInt = -4 := (by decide); have z10 : (10 : Int32).toInt = 10 := qI_10; rw [if_neg (by omega)]; exact w14x.2)⟩⟩, ⟨by rw [ht]; exact hP9, hD9⟩⟩, hS.F ht⟩) hS.2.2 dX11_puts_30
    · skip
      have b16 := if10_p c11
      obtain ⟨ii, hii, rfl⟩ : ∃ j : Nat, j < 10 ∧ i = nI j := by
        have t_b8 := b8
        have t_b16 := b16
        have t_n0 : (nI N).toInt = (N : Int) := tn2105_ ()
        have t_n1 : (nI B).toInt = (B : Int) := tn2106_ ()
        have t_n2 : (nI T).toInt = (T : Int) := tn2107_ ()
        have t_n3 : (nI S).toInt = (S : Int) := tn2108_ ()
        have t_n4 : (nI M).toInt = (M : Int) := tn2109_ ()
        exact i32_nat (by omega) (by omega)
      refine lv_iconst (v := 1) hx hb dX11_puts_17 rfl ?_
      refine lv_goto (tgt := 22) hx hb dX11_puts_18 rfl ?_
      refine lv_bipush (v := 38) hx hb dX11_puts_22 rfl ?_
      refine lv_iload_n hx hb dX11_puts_24 rfl (lv_at hl 1 rfl) ?_
      refine lv_iadd hx hb dX11_puts_25 ?_
      refine lv_cg (y := nI (38 + ii)) (by rw [show (38 : Int32) = nI 38 from rfl]; exact nI_add _ _) ?_
      refine lv_iload_n hx hb dX11_puts_26 rfl (lv_at hl 2 rfl) ?_
      obtain ⟨hPc, hDc, hFc⟩ := va_sub3 (ws' := [(h0, .inr (11, [.ref st, .int (nI N), .int (nI B), .ref rp, .int vrs, .int vrb, .int vhs, .int vca, .int vxs, .int vxb, .ref tp, .int (nI T), .int vfa, .int vbr, .int vba, .int vsp, .int vhe, .int vtk, .int vva, .ref cu, .ref lt, .ref od, .ref th, .ref be, .ref ln, .int (nI S), .ref ma, .int (nI M), .ref ah, .ref bh, .ref ik, .ref la, .ref lg, .ref ce, .int vto])), (st, .inl (G 0, 196, .inl fst))]) hP hD hS hA [0, 1] (by decide +kernel) rfl
      have tn2110_ : nIT ii := fun _ => nI_toInt (by first | omega | (have t_b8 := b8; have t_b16 := b16; have t_hii := hii; omega))
      refine va_calli (va_runV (As := [.int 1, .int (nI (38 + ii)), .int v]) (rest := []) ⟨hx, hb, hml, hown, hg⟩ (c_X11_sets1E l dC dI G _ h0 (38 + ii) st N B rp tp T cu lt od th be ln S ma M ah bh ik la lg ce v vrs vrb vhs vca vxs vxb vfa vbr vba vsp vhe vtk vva vto fst hN hB_ hT_ hS0 hM_ hst (by first | omega | (have t_b8 := b8; have t_b16 := b16; have t_hii := hii; have tnb_ := nib6 tn2105_ tn2106_ tn2107_ tn2108_ tn2109_ tn2110_; omega)) (okS_or (by have t_b8 := b8; have t_b16 := b16; have t_hii := hii; have tnb_ := nib6 tn2105_ tn2106_ tn2107_ tn2108_ tn2109_ tn2110_; omega) (by have t_b8 := b8; have t_b16 := b16; have t_hii := hii; have tnb_ := nib6 tn2105_ tn2106_ tn2107_ tn2108_ tn2109_ tn2110_; omega) (by have t_b8 := b8; have t_b16 := b16; have t_hii := hii; have tnb_ := nib6 tn2105_ tn2106_ tn2107_ tn2108_ tn2109_ tn2110_; omega) (by have t_b8 := b8; have t_b16 := b16; have t_hii := hii; have tnb_ := nib6 tn2105_ tn2106_ tn2107_ tn2108_ tn2109_ tn2110_; omega))) (kwV hg mfX11_sets wt_1070 ⟨Nat.le_of_ble_eq_true rfl, Nat.le_of_ble_eq_true rfl⟩) (preVW hK hPc hDc (ci := 11) (r := (RX11, TX11, 35)) rfl rfl) rfl rfl hl.1 rfl (lv_room (Nat.le_of_ble_eq_true rfl)) dX11_puts_27 ⟨Nat.le_of_ble_eq_true rfl, Nat.le_of_ble_eq_true rfl⟩) hS (fun q _ h => hFc q h) hFc (fun r17 ur17 t H1 locs ht hvm w18 hB hz1 hk1 hS => ?_)
      obtain ⟨u19, rfl⟩ : ∃ z, z = ur17 := ⟨_, rfl⟩
      obtain ⟨hP1, hD1⟩ := hB
      rw [ht] at hP1
      obtain ⟨hP, hD⟩ := va_join (wr := []) (w1 := [(h0, .inr (11, [.ref st, .int (nI N), .int (nI B), .ref rp, .int vrs, .int vrb, .int vhs, .int vca, .int vxs, .int vxb, .ref tp, .int (nI T), .int vfa, .int vbr, .int vba, .int vsp, .int vhe, .int vtk, .int vva, .ref cu, .ref lt, .ref od, .ref th, .ref be, .ref ln, .int (nI S), .ref ma, .int (nI M), .ref ah, .ref bh, .ref ik, .ref la, .ref lg, .ref ce, .int vto])), (st, .inl (G 0, 196, .inl u19))]) hP hD [0, 1] [] rfl rfl (by decide +kernel) (by decide +kernel) hk1 hFc hP1 hD1
      generalize H1 = H at hP hS ⊢
      obtain ⟨w18, w18x⟩ := w18
      have hpost : (r17 : Int32) = if ((0 ≤ (nI ii).toInt ∧ (nI ii).toInt < ((N : Nat) : Int)) ∧ (0 ≤ v.toInt ∧ v.toInt < ((B : Nat) : Int))) then fst (38 + (nI ii).toNatClampNeg) else -1 := by
        have t_b8 := b8
        have t_b16 := b16
        have t_hii := hii
        have t_n0 : (nI N).toInt = (N : Int) := tn2105_ ()
        have t_n1 : (nI B).toInt = (B : Int) := tn2106_ ()
        have t_n2 : (nI T).toInt = (T : Int) := tn2107_ ()
        have t_n3 : (nI S).toInt = (S : Int) := tn2108_ ()
        have t_n4 : (nI M).toInt = (M : Int) := tn2109_ ()
        have t_n5 : (nI ii).toInt = (ii : Int) := tn2110_ ()
        have z0 : (0 : Int32).toInt = 0 := qI_0
        have z1 : (1 : Int32).toInt = 1 := qI_1
        have z2 : (2 : Int32).toInt = 2 := qI_2
        have z3 : (3 : Int32).toInt = 3 := qI_3
        have z5 : (5 : Int32).toInt = 5 := qI_5
        have z9 : (9 : Int32).toInt = 9 := qI_9
        have z20 : (20 : Int32).toInt = 20 := qI_20
        have z4 : (-4 : Int32).toInt = -4 := (by decide)
        have z10 : (10 : Int32).toInt = 10 := qI_10
        rw [if_pos (by omega)]
        (try rw [nI_clamp (by omega)])
        exact w18
      obtain ⟨hP9, hD9⟩ := va_sub2 (ws' := [(h0, .inr (11, [.ref st, .int (nI N), .int (nI B), .ref rp, .int vrs, .int vrb, .int vhs, .int vca, .int vxs, .int vxb, .ref tp, .int (nI T), .int vfa, .int vbr, .int vba, .int vsp, .int vhe, .int vtk, .int vva, .ref cu, .ref lt, .ref od, .ref th, .ref be, .ref ln, .int (nI S), .ref ma, .int (nI M), .ref ah, .ref bh, .ref ik, .ref la, .ref lg, .ref ce, .int vto])), (st, .inl (G 0, 196, .inl u19))]) hP hD [0, 1] (by decide +kernel) rfl
      refine W.widen (k := 0) (n := 0) (Nat.le_of_ble_eq_true rfl) (Nat.le_of_ble_eq_true rfl) ?_
      exact W.iret (v := r17) hx hb hr (fun t ht hW => ⟨⟨r17, u19, rfl, ⟨hpost, ⟨w18x.1, (by have t_b8 := b8; have t_b16 := b16; have t_hii := hii; have tnb_ := nib6 tn2105_ tn2106_ tn2107_ tn2108_ tn2109_ tn2110_; have tqz_ := qz46_; have z4 : (-4 : Int32).toInt = -4 := (by decide); have z10 : (10 : Int32).toInt = 10 := qI_10; rw [if_pos (by omega)]; (try rw [nI_clamp (by omega)]); exact w18x.2)⟩⟩, ⟨by rw [ht]; exact hP9, hD9⟩⟩, hS.F ht⟩) hS.2.2 dX11_puts_30

set_option maxHeartbeats 1000000 in
set_option maxRecDepth 100000 in
theorem c_X11_putO (l : Launch) (dC : Nat → ClassId) (dI : Nat → Nat → Nat) (G : Nat → ClassId) (sz : Nat) (h0 st N B rp tp T cu lt od th be ln S ma M ah bh ik la lg ce : Nat) (i k vrs vrb vhs vca vxs vxb vfa vbr vba vsp vhe vtk vva vto : Int32) (fst : Nat → Int32) (hN : N ≤ 10) (hB : B ≤ 6) (hT : T ≤ 320) (hS0 : S ≤ 8) (hM : M ≤ 6) (hst : OKS fst) : Met l yX11_put (Cond.code yX11_put cX11_put 3 (some .int) :: GT) ({ frames := 3, cells := 0, slots := 0, locals := 68 } : Room) (PcW [.ref h0, .int i, .int k] dC dI G [(h0, .inr (11, [.ref st, .int (nI N), .int (nI B), .ref rp, .int vrs, .int vrb, .int vhs, .int vca, .int vxs, .int vxb, .ref tp, .int (nI T), .int vfa, .int vbr, .int vba, .int vsp, .int vhe, .int vtk, .int vva, .ref cu, .ref lt, .ref od, .ref th, .ref be, .ref ln, .int (nI S), .ref ma, .int (nI M), .ref ah, .ref bh, .ref ik, .ref la, .ref lg, .ref ce, .int vto])), (st, .inl (G 0, 196, .inl fst))] sz) (va_Qi (fun (r : Int32) (u : (Nat → Int32)) => match u with | ost => (r = if ((0 ≤ i.toInt ∧ i.toInt < ((N : Nat) : Int)) ∧ (0 ≤ k.toInt ∧ k.toInt < ((B : Nat) : Int))) then fst (38 + i.toNatClampNeg) else -1) ∧ OKS ost ∧ ost = (if ((0 ≤ i.toInt ∧ i.toInt < ((N : Nat) : Int)) ∧ (0 ≤ k.toInt ∧ k.toInt < ((B : Nat) : Int))) then upd fst (38 + i.toNatClampNeg) k else fst)) (fun (u : (Nat → Int32)) (t : State) => match u with | ost => va_P (dC, dI) vwCl [(h0, .inr (11, [.ref st, .int (nI N), .int (nI B), .ref rp, .int vrs, .int vrb, .int vhs, .int vca, .int vxs, .int vxb, .ref tp, .int (nI T), .int vfa, .int vbr, .int vba, .int vsp, .int vhe, .int vtk, .int vva, .ref cu, .ref lt, .ref od, .ref th, .ref be, .ref ln, .int (nI S), .ref ma, .int (nI M), .ref ah, .ref bh, .ref ik, .ref la, .ref lg, .ref ce, .int vto])), (st, .inl (G 0, 196, .inl ost))] t.heap ∧ va_D (va_A [(h0, .inr (11, [.ref st, .int (nI N), .int (nI B), .ref rp, .int vrs, .int vrb, .int vhs, .int vca, .int vxs, .int vxb, .ref tp, .int (nI T), .int vfa, .int vbr, .int vba, .int vsp, .int vhe, .int vtk, .int vva, .ref cu, .ref lt, .ref od, .ref th, .ref be, .ref ln, .int (nI S), .ref ma, .int (nI M), .ref ah, .ref bh, .ref ik, .ref la, .ref lg, .ref ce, .int vto])), (st, .inl (G 0, 196, .inl fst))] sz) [(h0, .inr (11, [.ref st, .int (nI N), .int (nI B), .ref rp, .int vrs, .int vrb, .int vhs, .int vca, .int vxs, .int vxb, .ref tp, .int (nI T), .int vfa, .int vbr, .int vba, .int vsp, .int vhe, .int vtk, .int vva, .ref cu, .ref lt, .ref od, .ref th, .ref be, .ref ln, .int (nI S), .ref ma, .int (nI M), .ref ah, .ref bh, .ref ik, .ref la, .ref lg, .ref ce, .int vto])), (st, .inl (G 0, 196, .inl ost))]) (va_A [(h0, .inr (11, [.ref st, .int (nI N), .int (nI B), .ref rp, .int vrs, .int vrb, .int vhs, .int vca, .int vxs, .int vxb, .ref tp, .int (nI T), .int vfa, .int vbr, .int vba, .int vsp, .int vhe, .int vtk, .int vva, .ref cu, .ref lt, .ref od, .ref th, .ref be, .ref ln, .int (nI S), .ref ma, .int (nI M), .ref ah, .ref bh, .ref ik, .ref la, .ref lg, .ref ce, .int vto])), (st, .inl (G 0, 196, .inl fst))] sz)) 0 0 (va_A [(h0, .inr (11, [.ref st, .int (nI N), .int (nI B), .ref rp, .int vrs, .int vrb, .int vhs, .int vca, .int vxs, .int vxb, .ref tp, .int (nI T), .int vfa, .int vbr, .int vba, .int vsp, .int vhe, .int vtk, .int vva, .ref cu, .ref lt, .ref od, .ref th, .ref be, .ref ln, .int (nI S), .ref ma, .int (nI M), .ref ah, .ref bh, .ref ik, .ref la, .ref lg, .ref ce, .int vto])), (st, .inl (G 0, 196, .inl fst))] sz) := by
  have hB_ := hB
  have hM_ := hM
  have hT_ := hT
  have tn2111_ : nIT N := fun _ => nI_toInt (by omega)
  have tn2112_ : nIT B := fun _ => nI_toInt (by omega)
  have tn2113_ : nIT T := fun _ => nI_toInt (by omega)
  have tn2114_ : nIT S := fun _ => nI_toInt (by omega)
  have tn2115_ : nIT M := fun _ => nI_toInt (by omega)
  refine Met.ofW (cc := cX11_put) (maxL := 3) (ret := (some .int)) (by decide) rfl ?_
  intro p e s m args below meth c s₁ Bd hml hv
  obtain ⟨rfl, hsz, hP, hK, hD0⟩ := hv
  have hx := Bd.exec
  have hb := Bd.bytes
  have hr := Bd.returns
  have hg : ∀ w ∈ GT, w.before ([.ref h0, .int i, .int k] : List Value).toArray s = true := fun w h => atoms_spec (ws := Cond.code yX11_put cX11_put 3 (some .int) :: GT) Bd.pre w (List.mem_cons_of_mem _ h)
  have hown : s.vm.findClass RX11 = some m.cls := findClass_of_methodNamed Bd.named
  have hlocks := Bd.notSynchronized
  subst hsz
  have hD := hD0.self (sz := s.heap.size)
  generalize hAe : va_A [(h0, .inr (11, [.ref st, .int (nI N), .int (nI B), .ref rp, .int vrs, .int vrb, .int vhs, .int vca, .int vxs, .int vxb, .ref tp, .int (nI T), .int vfa, .int vbr, .int vba, .int vsp, .int vhe, .int vtk, .int vva, .ref cu, .ref lt, .ref od, .ref th, .ref be, .ref ln, .int (nI S), .ref ma, .int (nI M), .ref ah, .ref bh, .ref ik, .ref la, .ref lg, .ref ce, .int vto])), (st, .inl (G 0, 196, .inl fst))] s.heap.size = A at hD ⊢
  have hA : ∀ q : Nat, s.heap.size ≤ q → A q := fun q h => by rw [← hAe]; exact Or.inr h
  have hS : va_S A s.heap s.heap [] := va_S.rf
  have hl := lv_entry ([.ref h0, .int i, .int k]) (n := 3) (Nat.le_of_ble_eq_true rfl)
  rw [lg_entry_eq]
  generalize (lg_sl ([.ref h0, .int i, .int k]) ++ List.replicate (3 - (lg_sl ([.ref h0, .int i, .int k])).length) Slot.unset).toArray = ls at hl ⊢
  have hl : lv_has ls 3 [(0, .ref h0), (1, .int i), (2, .int k)] := hl
  refine lv_aload_n hx hb dX11_put_0 rfl (lv_at hl 0 rfl) ?_
  refine lv_iload_n hx hb dX11_put_1 rfl (lv_at hl 1 rfl) ?_
  refine lv_iload_n hx hb dX11_put_2 rfl (lv_at hl 2 rfl) ?_
  obtain ⟨hPc, hDc, hFc⟩ := va_sub3 (ws' := [(h0, .inr (11, [.ref st, .int (nI N), .int (nI B), .ref rp, .int vrs, .int vrb, .int vhs, .int vca, .int vxs, .int vxb, .ref tp, .int (nI T), .int vfa, .int vbr, .int vba, .int vsp, .int vhe, .int vtk, .int vva, .ref cu, .ref lt, .ref od, .ref th, .ref be, .ref ln, .int (nI S), .ref ma, .int (nI M), .ref ah, .ref bh, .ref ik, .ref la, .ref lg, .ref ce, .int vto])), (st, .inl (G 0, 196, .inl fst))]) hP hD hS hA [0, 1] (by decide +kernel) rfl
  refine va_calli (va_runV (As := [.int i, .int k]) (rest := []) ⟨hx, hb, hml, hown, hg⟩ (c_X11_putsO l dC dI G _ h0 st N B rp tp T cu lt od th be ln S ma M ah bh ik la lg ce i k vrs vrb vhs vca vxs vxb vfa vbr vba vsp vhe vtk vva vto fst hN hB_ hT_ hS0 hM_ hst) (kwV hg mfX11_puts wt_1094 ⟨Nat.le_of_ble_eq_true rfl, Nat.le_of_ble_eq_true rfl⟩) (preVW hK hPc hDc (ci := 11) (r := (RX11, TX11, 35)) rfl rfl) rfl rfl hl.1 rfl (lv_room (Nat.le_of_ble_eq_true rfl)) dX11_put_3 ⟨Nat.le_of_ble_eq_true rfl, Nat.le_of_ble_eq_true rfl⟩) hS (fun q _ h => hFc q h) hFc (fun r1 ur1 t H1 locs ht hvm w2 hB hz1 hk1 hS => ?_)
  obtain ⟨u3, rfl⟩ : ∃ z, z = ur1 := ⟨_, rfl⟩
  obtain ⟨hP1, hD1⟩ := hB
  rw [ht] at hP1
  obtain ⟨hP, hD⟩ := va_join (wr := []) (w1 := [(h0, .inr (11, [.ref st, .int (nI N), .int (nI B), .ref rp, .int vrs, .int vrb, .int vhs, .int vca, .int vxs, .int vxb, .ref tp, .int (nI T), .int vfa, .int vbr, .int vba, .int vsp, .int vhe, .int vtk, .int vva, .ref cu, .ref lt, .ref od, .ref th, .ref be, .ref ln, .int (nI S), .ref ma, .int (nI M), .ref ah, .ref bh, .ref ik, .ref la, .ref lg, .ref ce, .int vto])), (st, .inl (G 0, 196, .inl u3))]) hP hD [0, 1] [] rfl rfl (by decide +kernel) (by decide +kernel) hk1 hFc hP1 hD1
  generalize H1 = H at hP hS ⊢
  obtain ⟨w2, w2x⟩ := w2
  have hpost : (r1 : Int32) = if ((0 ≤ i.toInt ∧ i.toInt < ((N : Nat) : Int)) ∧ (0 ≤ k.toInt ∧ k.toInt < ((B : Nat) : Int))) then fst (38 + i.toNatClampNeg) else -1 := by
    exact w2
  obtain ⟨hP9, hD9⟩ := va_sub2 (ws' := [(h0, .inr (11, [.ref st, .int (nI N), .int (nI B), .ref rp, .int vrs, .int vrb, .int vhs, .int vca, .int vxs, .int vxb, .ref tp, .int (nI T), .int vfa, .int vbr, .int vba, .int vsp, .int vhe, .int vtk, .int vva, .ref cu, .ref lt, .ref od, .ref th, .ref be, .ref ln, .int (nI S), .ref ma, .int (nI M), .ref ah, .ref bh, .ref ik, .ref la, .ref lg, .ref ce, .int vto])), (st, .inl (G 0, 196, .inl u3))]) hP hD [0, 1] (by decide +kernel) rfl
  refine W.widen (k := 0) (n := 0) (Nat.le_of_ble_eq_true rfl) (Nat.le_of_ble_eq_true rfl) ?_
  exact W.iret (v := r1) hx hb hr (fun t ht hW => ⟨⟨r1, u3, rfl, ⟨hpost, w2x⟩, ⟨by rw [ht]; exact hP9, hD9⟩⟩, hS.F ht⟩) hS.2.2 dX11_put_6


set_option maxHeartbeats 8000000 in
set_option maxRecDepth 100000 in
theorem c_X11_readO (l : Launch) (dC : Nat → ClassId) (dI : Nat → Nat → Nat) (G : Nat → ClassId) (sz : Nat) (h0 st N B rp tp T cu lt od th be ln S ma M ah bh ik la lg ce : Nat) (k lane x1 n vrs vrb vhs vca vxs vxb vfa vbr vba vsp vhe vtk vva vto : Int32) (fst : Nat → Int32) (fla : Nat → Int32) (flg : Nat → Int32) (fce : Nat → Int32) (hN : N ≤ 10) (hB : B ≤ 6) (hT : T ≤ 320) (hS0 : S ≤ 8) (hM : M ≤ 6) (hst : OKS fst) (hz : ∀ q : Nat, q < 4 → 0 ≤ (flg q).toInt ∧ (flg q).toInt ≤ 40) : Met l yX11_read (Cond.code yX11_read cX11_read 9 (some .int) :: GT) ({ frames := 3, cells := 0, slots := 0, locals := 68 } : Room) (PcW [.ref h0, .int k, .int lane, .int x1, .int n] dC dI G [(h0, .inr (11, [.ref st, .int (nI N), .int (nI B), .ref rp, .int vrs, .int vrb, .int vhs, .int vca, .int vxs, .int vxb, .ref tp, .int (nI T), .int vfa, .int vbr, .int vba, .int vsp, .int vhe, .int vtk, .int vva, .ref cu, .ref lt, .ref od, .ref th, .ref be, .ref ln, .int (nI S), .ref ma, .int (nI M), .ref ah, .ref bh, .ref ik, .ref la, .ref lg, .ref ce, .int vto])), (st, .inl (G 0, 196, .inl fst)), (la, .inl (G 0, 4, .inl fla)), (lg, .inl (G 0, 4, .inl flg)), (ce, .inl (G 0, 160, .inl fce))] sz) (va_Qi (fun (r : Int32) (u : (Nat → Int32) × Int32) => match u with | (ost, oto) => (r = if ((0 ≤ k.toInt ∧ k.toInt < 4) ∧ (0 ≤ lane.toInt ∧ lane.toInt ≤ 2) ∧ 0 ≤ n.toInt ∧ n.toInt ≤ 20) then rdR N B (fun q8 : Nat => fce (40 * k.toNatClampNeg + (x1.toInt + 2 * (q8 : Int) + 0).toNat)) (fun q8 : Nat => fce (40 * k.toNatClampNeg + (x1.toInt + 2 * (q8 : Int) + 1).toNat)) (tpK (fla k.toNatClampNeg) lane (flg k.toNatClampNeg).toInt x1.toInt n.toNatClampNeg) else -1) ∧ OKS ost ∧ NO3 fst ost ∧ ∀ x9 : Nat, x9 < 10 → ost (38 + x9) = (if ((0 ≤ k.toInt ∧ k.toInt < 4) ∧ (0 ≤ lane.toInt ∧ lane.toInt ≤ 2) ∧ 0 ≤ n.toInt ∧ n.toInt ≤ 20) then rdF N B (fun q8 : Nat => fce (40 * k.toNatClampNeg + (x1.toInt + 2 * (q8 : Int) + 0).toNat)) (fun q8 : Nat => fce (40 * k.toNatClampNeg + (x1.toInt + 2 * (q8 : Int) + 1).toNat)) (tpK (fla k.toNatClampNeg) lane (flg k.toNatClampNeg).toInt x1.toInt n.toNatClampNeg) (fun i9 => fst (38 + i9)) else (fun i9 => fst (38 + i9))) x9) (fun (u : (Nat → Int32) × Int32) (t : State) => match u with | (ost, oto) => va_P (dC, dI) vwCl [(h0, .inr (11, [.ref st, .int (nI N), .int (nI B), .ref rp, .int vrs, .int vrb, .int vhs, .int vca, .int vxs, .int vxb, .ref tp, .int (nI T), .int vfa, .int vbr, .int vba, .int vsp, .int vhe, .int vtk, .int vva, .ref cu, .ref lt, .ref od, .ref th, .ref be, .ref ln, .int (nI S), .ref ma, .int (nI M), .ref ah, .ref bh, .ref ik, .ref la, .ref lg, .ref ce, .int oto])), (st, .inl (G 0, 196, .inl ost)), (la, .inl (G 0, 4, .inl fla)), (lg, .inl (G 0, 4, .inl flg)), (ce, .inl (G 0, 160, .inl fce))] t.heap ∧ va_D (va_A [(h0, .inr (11, [.ref st, .int (nI N), .int (nI B), .ref rp, .int vrs, .int vrb, .int vhs, .int vca, .int vxs, .int vxb, .ref tp, .int (nI T), .int vfa, .int vbr, .int vba, .int vsp, .int vhe, .int vtk, .int vva, .ref cu, .ref lt, .ref od, .ref th, .ref be, .ref ln, .int (nI S), .ref ma, .int (nI M), .ref ah, .ref bh, .ref ik, .ref la, .ref lg, .ref ce, .int vto])), (st, .inl (G 0, 196, .inl fst)), (la, .inl (G 0, 4, .inl fla)), (lg, .inl (G 0, 4, .inl flg)), (ce, .inl (G 0, 160, .inl fce))] sz) [(h0, .inr (11, [.ref st, .int (nI N), .int (nI B), .ref rp, .int vrs, .int vrb, .int vhs, .int vca, .int vxs, .int vxb, .ref tp, .int (nI T), .int vfa, .int vbr, .int vba, .int vsp, .int vhe, .int vtk, .int vva, .ref cu, .ref lt, .ref od, .ref th, .ref be, .ref ln, .int (nI S), .ref ma, .int (nI M), .ref ah, .ref bh, .ref ik, .ref la, .ref lg, .ref ce, .int oto])), (st, .inl (G 0, 196, .inl ost)), (la, .inl (G 0, 4, .inl fla)), (lg, .inl (G 0, 4, .inl flg)), (ce, .inl (G 0, 160, .inl fce))]) (va_A [(h0, .inr (11, [.ref st, .int (nI N), .int (nI B), .ref rp, .int vrs, .int vrb, .int vhs, .int vca, .int vxs, .int vxb, .ref tp, .int (nI T), .int vfa, .int vbr, .int vba, .int vsp, .int vhe, .int vtk, .int vva, .ref cu, .ref lt, .ref od, .ref th, .ref be, .ref ln, .int (nI S), .ref ma, .int (nI M), .ref ah, .ref bh, .ref ik, .ref la, .ref lg, .ref ce, .int vto])), (st, .inl (G 0, 196, .inl fst)), (la, .inl (G 0, 4, .inl fla)), (lg, .inl (G 0, 4, .inl flg)), (ce, .inl (G 0, 160, .inl fce))] sz)) 0 0 (va_A [(h0, .inr (11, [.ref st, .int (nI N), .int (nI B), .ref rp, .int vrs, .int vrb, .int vhs, .int vca, .int vxs, .int vxb, .ref tp, .int (nI T), .int vfa, .int vbr, .int vba, .int vsp, .int vhe, .int vtk, .int vva, .ref cu, .ref lt, .ref od, .ref th, .ref be, .ref ln, .int (nI S), .ref ma, .int (nI M), .ref ah, .ref bh, .ref ik, .ref la, .ref lg, .ref ce, .int vto])), (st, .inl (G 0, 196, .inl fst)), (la, .inl (G 0, 4, .inl fla)), (lg, .inl (G 0, 4, .inl flg)), (ce, .inl (G 0, 160, .inl fce))] sz) := by
  have hB_ := hB
  have hM_ := hM
  have hT_ := hT
  have tn2126_ : nIT N := fun _ => nI_toInt (by omega)
  have tn2127_ : nIT B := fun _ => nI_toInt (by omega)
  have tn2128_ : nIT T := fun _ => nI_toInt (by omega)
  have tn2129_ : nIT S := fun _ => nI_toInt (by omega)
  have tn2130_ : nIT M := fun _ => nI_toInt (by omega)
  refine Met.ofW (cc := cX11_read) (maxL := 9) (ret := (some .int)) (by decide) rfl ?_
  intro p e s m args below meth c s₁ Bd hml hv
  obtain ⟨rfl, hsz, hP, hK, hD0⟩ := hv
  have hx := Bd.exec
  have hb := Bd.bytes
  have hr := Bd.returns
  have hg : ∀ w ∈ GT, w.before ([.ref h0, .int k, .int lane, .int x1, .int n] : List Value).toArray s = true := fun w h => atoms_spec (ws := Cond.code yX11_read cX11_read 9 (some .int) :: GT) Bd.pre w (List.mem_cons_of_mem _ h)
  have hown : s.vm.findClass RX11 = some m.cls := findClass_of_methodNamed Bd.named
  have hlocks := Bd.notSynchronized
  subst hsz
  have hD := hD0.self (sz := s.heap.size)
  generalize hAe : va_A [(h0, .inr (11, [.ref st, .int (nI N), .int (nI B), .ref rp, .int vrs, .int vrb, .int vhs, .int vca, .int vxs, .int vxb, .ref tp, .int (nI T), .int vfa, .int vbr, .int vba, .int vsp, .int vhe, .int vtk, .int vva, .ref cu, .ref lt, .ref od, .ref th, .ref be, .ref ln, .int (nI S), .ref ma, .int (nI M), .ref ah, .ref bh, .ref ik, .ref la, .ref lg, .ref ce, .int vto])), (st, .inl (G 0, 196, .inl fst)), (la, .inl (G 0, 4, .inl fla)), (lg, .inl (G 0, 4, .inl flg)), (ce, .inl (G 0, 160, .inl fce))] s.heap.size = A at hD ⊢
  have hA : ∀ q : Nat, s.heap.size ≤ q → A q := fun q h => by rw [← hAe]; exact Or.inr h
  have hS : va_S A s.heap s.heap [] := va_S.rf
  have hl := lv_entry ([.ref h0, .int k, .int lane, .int x1, .int n]) (n := 9) (Nat.le_of_ble_eq_true rfl)
  rw [lg_entry_eq]
  generalize (lg_sl ([.ref h0, .int k, .int lane, .int x1, .int n]) ++ List.replicate (9 - (lg_sl ([.ref h0, .int k, .int lane, .int x1, .int n])).length) Slot.unset).toArray = ls at hl ⊢
  have hl : lv_has ls 9 [(0, .ref h0), (1, .int k), (2, .int lane), (3, .int x1), (4, .int n)] := hl
  refine lv_iload_n hx hb dX11_read_0 rfl (lv_at hl 1 rfl) ?_
  refine lv_i2l (v := k.toInt64) hx hb dX11_read_1 rfl ?_
  refine lv_lconst (v := 0) hx hb dX11_read_2 (by decide) ?_
  refine lv_ldc2 (v := 3) hx hb hown (hg _ wt_1023) dX11_read_3 ?_
  have hPc := hP.sub (ws' := []) [] rfl
  refine va_calli (va_runS (As := [.long k.toInt64, .long 0, .long 3]) (rest := []) ⟨hx, hb, hml, hown, hg⟩ (c_X11_in l dC dI G _ k.toInt64 0 3) (kwS hg mfX11_in wt_992 ⟨Nat.le_of_ble_eq_true rfl, Nat.le_of_ble_eq_true rfl⟩) (preSR hK hPc) rfl rfl hl.1 rfl (lv_room (Nat.le_of_ble_eq_true rfl)) dX11_read_6 ⟨Nat.le_of_ble_eq_true rfl, Nat.le_of_ble_eq_true rfl⟩) hS (fun q h1 h2 => absurd h2 (Nat.not_le.mpr h1)) (fun q h => hA q (Nat.le_trans hS.1 h)) (fun r1 ur1 t H1 locs ht hvm w2 hB hz1 hk1 hS => ?_)
  have hP := keepR hP hk1
  obtain ⟨w2, w2x⟩ := w2
  try simp only [l_ii, show (0 : Int64).toInt = 0 from by decide, show (3 : Int64).toInt = 3 from by decide] at w2
  subst w2
  refine lv_if_eq (tgt := 37) hx hb dX11_read_9 rfl (fun c3 => ?_) (fun c3 => ?_)
  · skip
    have b4 := if10_n c3
    refine lv_iconst (v := (-1)) hx hb dX11_read_37 rfl ?_
    have hpost : ((-1) : Int32) = if ((0 ≤ k.toInt ∧ k.toInt < 4) ∧ (0 ≤ lane.toInt ∧ lane.toInt ≤ 2) ∧ 0 ≤ n.toInt ∧ n.toInt ≤ 20) then rdR N B (fun q8 : Nat => fce (40 * k.toNatClampNeg + (x1.toInt + 2 * (q8 : Int) + 0).toNat)) (fun q8 : Nat => fce (40 * k.toNatClampNeg + (x1.toInt + 2 * (q8 : Int) + 1).toNat)) (tpK (fla k.toNatClampNeg) lane (flg k.toNatClampNeg).toInt x1.toInt n.toNatClampNeg) else -1 := by
      have t_b4 := b4
      have t_n0 : (nI N).toInt = (N : Int) := tn2126_ ()
      have t_n1 : (nI B).toInt = (B : Int) := tn2127_ ()
      have t_n2 : (nI T).toInt = (T : Int) := tn2128_ ()
      have t_n3 : (nI S).toInt = (S : Int) := tn2129_ ()
      have t_n4 : (nI M).toInt = (M : Int) := tn2130_ ()
      have z0 : (0 : Int32).toInt = 0 := qI_0
      have z1 : (1 : Int32).toInt = 1 := qI_1
      have z2 : (2 : Int32).toInt = 2 := qI_2
      have z3 : (3 : Int32).toInt = 3 := qI_3
      have z5 : (5 : Int32).toInt = 5 := qI_5
      have z9 : (9 : Int32).toInt = 9 := qI_9
      have z20 : (20 : Int32).toInt = 20 := qI_20
      have z4 : (-4 : Int32).toInt = -4 := (by decide)
      have z10 : (10 : Int32).toInt = 10 := qI_10
      rw [if_neg (by omega)]
    obtain ⟨hP9, hD9⟩ := va_sub2 (ws' := [(h0, .inr (11, [.ref st, .int (nI N), .int (nI B), .ref rp, .int vrs, .int vrb, .int vhs, .int vca, .int vxs, .int vxb, .ref tp, .int (nI T), .int vfa, .int vbr, .int vba, .int vsp, .int vhe, .int vtk, .int vva, .ref cu, .ref lt, .ref od, .ref th, .ref be, .ref ln, .int (nI S), .ref ma, .int (nI M), .ref ah, .ref bh, .ref ik, .ref la, .ref lg, .ref ce, .int vto])), (st, .inl (G 0, 196, .inl fst)), (la, .inl (G 0, 4, .inl fla)), (lg, .inl (G 0, 4, .inl flg)), (ce, .inl (G 0, 160, .inl fce))]) hP hD [0, 1, 2, 3, 4] (by decide +kernel) rfl
    refine W.widen (k := 0) (n := 0) (Nat.le_of_ble_eq_true rfl) (Nat.le_of_ble_eq_true rfl) ?_
    exact W.iret (v := (-1)) hx hb hr (fun t ht hW => ⟨⟨(-1), (fst, vto), rfl, ⟨hpost, ⟨hst, NO.rf.n3, (by have t_b4 := b4; have tnb_ := nib5 tn2126_ tn2127_ tn2128_ tn2129_ tn2130_; have tqz_ := qz46_; have z4 : (-4 : Int32).toInt = -4 := (by decide); have z10 : (10 : Int32).toInt = 10 := qI_10; intro x9 h9; rw [if_neg (by omega)])⟩⟩, ⟨by rw [ht]; exact hP9, hD9⟩⟩, hS.F ht⟩) hS.2.2 dX11_read_38
  · skip
    have b5 := if10_p c3
    refine lv_iload_n hx hb dX11_read_12 rfl (lv_at hl 2 rfl) ?_
    refine lv_i2l (v := lane.toInt64) hx hb dX11_read_13 rfl ?_
    refine lv_lconst (v := 0) hx hb dX11_read_14 (by decide) ?_
    refine lv_ldc2 (v := 2) hx hb hown (hg _ wt_1056) dX11_read_15 ?_
    have hPc := hP.sub (ws' := []) [] rfl
    refine va_calli (va_runS (As := [.long lane.toInt64, .long 0, .long 2]) (rest := []) ⟨hx, hb, hml, hown, hg⟩ (c_X11_in l dC dI G _ lane.toInt64 0 2) (kwS hg mfX11_in wt_992 ⟨Nat.le_of_ble_eq_true rfl, Nat.le_of_ble_eq_true rfl⟩) (preSR hK hPc) rfl rfl hl.1 rfl (lv_room (Nat.le_of_ble_eq_true rfl)) dX11_read_18 ⟨Nat.le_of_ble_eq_true rfl, Nat.le_of_ble_eq_true rfl⟩) hS (fun q h1 h2 => absurd h2 (Nat.not_le.mpr h1)) (fun q h => hA q (Nat.le_trans hS.1 h)) (fun r6 ur6 t H1 locs ht hvm w7 hB hz1 hk1 hS => ?_)
    have hP := keepR hP hk1
    obtain ⟨w7, w7x⟩ := w7
    try simp only [l_ii, show (0 : Int64).toInt = 0 from by decide, show (2 : Int64).toInt = 2 from by decide] at w7
    subst w7
    refine lv_if_eq (tgt := 37) hx hb dX11_read_21 rfl (fun c8 => ?_) (fun c8 => ?_)
    · skip
      have b9 := if10_n c8
      refine lv_iconst (v := (-1)) hx hb dX11_read_37 rfl ?_
      have hpost : ((-1) : Int32) = if ((0 ≤ k.toInt ∧ k.toInt < 4) ∧ (0 ≤ lane.toInt ∧ lane.toInt ≤ 2) ∧ 0 ≤ n.toInt ∧ n.toInt ≤ 20) then rdR N B (fun q8 : Nat => fce (40 * k.toNatClampNeg + (x1.toInt + 2 * (q8 : Int) + 0).toNat)) (fun q8 : Nat => fce (40 * k.toNatClampNeg + (x1.toInt + 2 * (q8 : Int) + 1).toNat)) (tpK (fla k.toNatClampNeg) lane (flg k.toNatClampNeg).toInt x1.toInt n.toNatClampNeg) else -1 := by
        have t_b5 := b5
        have t_b9 := b9
        have t_n0 : (nI N).toInt = (N : Int) := tn2126_ ()
        have t_n1 : (nI B).toInt = (B : Int) := tn2127_ ()
        have t_n2 : (nI T).toInt = (T : Int) := tn2128_ ()
        have t_n3 : (nI S).toInt = (S : Int) := tn2129_ ()
        have t_n4 : (nI M).toInt = (M : Int) := tn2130_ ()
        have z0 : (0 : Int32).toInt = 0 := qI_0
        have z1 : (1 : Int32).toInt = 1 := qI_1
        have z2 : (2 : Int32).toInt = 2 := qI_2
        have z3 : (3 : Int32).toInt = 3 := qI_3
        have z5 : (5 : Int32).toInt = 5 := qI_5
        have z9 : (9 : Int32).toInt = 9 := qI_9
        have z20 : (20 : Int32).toInt = 20 := qI_20
        have z4 : (-4 : Int32).toInt = -4 := (by decide)
        have z10 : (10 : Int32).toInt = 10 := qI_10
        rw [if_neg (by omega)]
      obtain ⟨hP9, hD9⟩ := va_sub2 (ws' := [(h0, .inr (11, [.ref st, .int (nI N), .int (nI B), .ref rp, .int vrs, .int vrb, .int vhs, .int vca, .int vxs, .int vxb, .ref tp, .int (nI T), .int vfa, .int vbr, .int vba, .int vsp, .int vhe, .int vtk, .int vva, .ref cu, .ref lt, .ref od, .ref th, .ref be, .ref ln, .int (nI S), .ref ma, .int (nI M), .ref ah, .ref bh, .ref ik, .ref la, .ref lg, .ref ce, .int vto])), (st, .inl (G 0, 196, .inl fst)), (la, .inl (G 0, 4, .inl fla)), (lg, .inl (G 0, 4, .inl flg)), (ce, .inl (G 0, 160, .inl fce))]) hP hD [0, 1, 2, 3, 4] (by decide +kernel) rfl
      refine W.widen (k := 0) (n := 0) (Nat.le_of_ble_eq_true rfl) (Nat.le_of_ble_eq_true rfl) ?_
      exact W.iret (v := (-1)) hx hb hr (fun t ht hW => ⟨⟨(-1), (fst, vto), rfl, ⟨hpost, ⟨hst, NO.rf.n3, (by have t_b5 := b5; have t_b9 := b9; have tnb_ := nib5 tn2126_ tn2127_ tn2128_ tn2129_ tn2130_; have tqz_ := qz46_; have z4 : (-4 : Int32).toInt = -4 := (by decide); have z10 : (10 : Int32).toInt = 10 := qI_10; intro x9 h9; rw [if_neg (by omega)])⟩⟩, ⟨by rw [ht]; exact hP9, hD9⟩⟩, hS.F ht⟩) hS.2.2 dX11_read_38
    · skip
      have b10 := if10_p c8
      refine lv_iload hx hb dX11_read_24 (lv_at hl 4 rfl) ?_
      refine lv_i2l (v := n.toInt64) hx hb dX11_read_26 rfl ?_
      refine lv_lconst (v := 0) hx hb dX11_read_27 (by decide) ?_
      refine lv_ldc2 (v := 20) hx hb hown (hg _ wt_1127) dX11_read_28 ?_
      have hPc := hP.sub (ws' := []) [] rfl
      refine va_calli (va_runS (As := [.long n.toInt64, .long 0, .long 20]) (rest := []) ⟨hx, hb, hml, hown, hg⟩ (c_X11_in l dC dI G _ n.toInt64 0 20) (kwS hg mfX11_in wt_992 ⟨Nat.le_of_ble_eq_true rfl, Nat.le_of_ble_eq_true rfl⟩) (preSR hK hPc) rfl rfl hl.1 rfl (lv_room (Nat.le_of_ble_eq_true rfl)) dX11_read_31 ⟨Nat.le_of_ble_eq_true rfl, Nat.le_of_ble_eq_true rfl⟩) hS (fun q h1 h2 => absurd h2 (Nat.not_le.mpr h1)) (fun q h => hA q (Nat.le_trans hS.1 h)) (fun r11 ur11 t H1 locs ht hvm w12 hB hz1 hk1 hS => ?_)
      have hP := keepR hP hk1
      obtain ⟨w12, w12x⟩ := w12
      try simp only [l_ii, show (0 : Int64).toInt = 0 from by decide, show (20 : Int64).toInt = 20 from by decide] at w12
      subst w12
      refine lv_if_ne (tgt := 39) hx hb dX11_read_34 rfl (fun c13 => ?_) (fun c13 => ?_)
      · skip
        have b14 := if10_p c13
        obtain ⟨kk, hkk, rfl⟩ : ∃ j : Nat, j < 4 ∧ k = nI j := by
          have t_b5 := b5
          have t_b10 := b10
          have t_b14 := b14
          have t_n0 : (nI N).toInt = (N : Int) := tn2126_ ()
          have t_n1 : (nI B).toInt = (B : Int) := tn2127_ ()
          have t_n2 : (nI T).toInt = (T : Int) := tn2128_ ()
          have t_n3 : (nI S).toInt = (S : Int) := tn2129_ ()
          have t_n4 : (nI M).toInt = (M : Int) := tn2130_ ()
          exact i32_nat (by omega) (by omega)
        obtain ⟨nn, hnn, rfl⟩ : ∃ j : Nat, j < 21 ∧ n = nI j := by
          have t_b5 := b5
          have t_b10 := b10
          have t_b14 := b14
          have t_hkk := hkk
          have t_n0 : (nI N).toInt = (N : Int) := tn2126_ ()
          have t_n1 : (nI B).toInt = (B : Int) := tn2127_ ()
          have t_n2 : (nI T).toInt = (T : Int) := tn2128_ ()
          have t_n3 : (nI S).toInt = (S : Int) := tn2129_ ()
          have t_n4 : (nI M).toInt = (M : Int) := tn2130_ ()
          have tn2131_ : nIT kk := fun _ => nI_toInt (by omega)
          have t_n5 : (nI kk).toInt = (kk : Int) := tn2131_ ()
          exact i32_nat (by omega) (by omega)
        refine lv_aload_n hx hb dX11_read_39 rfl (lv_at hl 0 rfl) ?_
        refine lv_iconst (v := 0) hx hb dX11_read_40 rfl ?_
        refine lv_sipush (v := 147) hx hb dX11_read_41 rfl ?_
        obtain ⟨hPc, hDc, hFc⟩ := va_sub3 (ws' := [(h0, .inr (11, [.ref st, .int (nI N), .int (nI B), .ref rp, .int vrs, .int vrb, .int vhs, .int vca, .int vxs, .int vxb, .ref tp, .int (nI T), .int vfa, .int vbr, .int vba, .int vsp, .int vhe, .int vtk, .int vva, .ref cu, .ref lt, .ref od, .ref th, .ref be, .ref ln, .int (nI S), .ref ma, .int (nI M), .ref ah, .ref bh, .ref ik, .ref la, .ref lg, .ref ce, .int vto])), (st, .inl (G 0, 196, .inl fst))]) hP hD hS hA [0, 1] (by decide +kernel) rfl
        have tn2132_ : nIT kk := fun _ => nI_toInt (by first | omega | (have t_b5 := b5; have t_b10 := b10; have t_b14 := b14; have t_hkk := hkk; have t_hnn := hnn; omega))
        have tn2133_ : nIT nn := fun _ => nI_toInt (by first | omega | (have t_b5 := b5; have t_b10 := b10; have t_b14 := b14; have t_hkk := hkk; have t_hnn := hnn; omega))
        refine va_callv (va_runV (As := [.int 0, .int 147]) (rest := []) ⟨hx, hb, hml, hown, hg⟩ (c_X11_copiesW l dC dI G _ h0 0 147 st N B rp tp T cu lt od th be ln S ma M ah bh ik la lg ce vrs vrb vhs vca vxs vxb vfa vbr vba vsp vhe vtk vva vto fst hN hB_ hT_ hS0 hM_ hst (by first | omega | (have t_b5 := b5; have t_b10 := b10; have t_b14 := b14; have t_hkk := hkk; have t_hnn := hnn; have tnb_ := nib7 tn2126_ tn2127_ tn2128_ tn2129_ tn2130_ tn2132_ tn2133_; omega)) (by first | omega | (have t_b5 := b5; have t_b10 := b10; have t_b14 := b14; have t_hkk := hkk; have t_hnn := hnn; have tnb_ := nib7 tn2126_ tn2127_ tn2128_ tn2129_ tn2130_ tn2132_ tn2133_; omega)) (by first | omega | (have t_b5 := b5; have t_b10 := b10; have t_b14 := b14; have t_hkk := hkk; have t_hnn := hnn; have tnb_ := nib7 tn2126_ tn2127_ tn2128_ tn2129_ tn2130_ tn2132_ tn2133_; omega))) (kwV hg mfX11_copies wt_1248 ⟨Nat.le_of_ble_eq_true rfl, Nat.le_of_ble_eq_true rfl⟩) (preVW hK hPc hDc (ci := 11) (r := (RX11, TX11, 35)) rfl rfl) rfl rfl hl.1 rfl (lv_room (Nat.le_of_ble_eq_true rfl)) dX11_read_44 ⟨Nat.le_of_ble_eq_true rfl, Nat.le_of_ble_eq_true rfl⟩) hS (fun q _ h => hFc q h) hFc (fun ur15 t H1 locs ht hvm w16 hB hz1 hk1 hS => ?_)
        obtain ⟨u17, rfl⟩ : ∃ z, z = ur15 := ⟨_, rfl⟩
        obtain ⟨hP1, hD1⟩ := hB
        rw [ht] at hP1
        obtain ⟨hP, hD⟩ := va_join (wr := [(la, .inl (G 0, 4, .inl fla)), (lg, .inl (G 0, 4, .inl flg)), (ce, .inl (G 0, 160, .inl fce))]) (w1 := [(h0, .inr (11, [.ref st, .int (nI N), .int (nI B), .ref rp, .int vrs, .int vrb, .int vhs, .int vca, .int vxs, .int vxb, .ref tp, .int (nI T), .int vfa, .int vbr, .int vba, .int vsp, .int vhe, .int vtk, .int vva, .ref cu, .ref lt, .ref od, .ref th, .ref be, .ref ln, .int (nI S), .ref ma, .int (nI M), .ref ah, .ref bh, .ref ik, .ref la, .ref lg, .ref ce, .int vto])), (st, .inl (G 0, 196, .inl u17))]) hP hD [0, 1] [2, 3, 4] rfl rfl (by decide +kernel) (by decide +kernel) hk1 hFc hP1 hD1
        have w16 : OKS u17 ∧ u17 = cpj 0 147 49 fst := w16
        generalize H1 = H at hP hS ⊢
        refine lv_iconst (v := 0) hx hb dX11_read_47 rfl ?_
        refine lv_istore (lv' := [(5, .int 0), (0, .ref h0), (1, .int (nI kk)), (2, .int lane), (3, .int x1), (4, .int (nI nn))]) hx hb dX11_read_48 hl (by decide) rfl (fun ls hl => ?_)
        refine lv_iconst (v := 0) hx hb dX11_read_50 rfl ?_
        refine lv_istore (lv' := [(6, .int 0), (5, .int 0), (0, .ref h0), (1, .int (nI kk)), (2, .int lane), (3, .int x1), (4, .int (nI nn))]) hx hb dX11_read_51 hl (by decide) rfl (fun ls hl => ?_)
        refine lv_iconst (v := 0) hx hb dX11_read_53 rfl ?_
        refine lv_istore (lv' := [(7, .int 0), (6, .int 0), (5, .int 0), (0, .ref h0), (1, .int (nI kk)), (2, .int lane), (3, .int x1), (4, .int (nI nn))]) hx hb dX11_read_54 hl (by decide) rfl (fun ls hl => ?_)
        have loop56_22 : ∀ (nf j18 : Nat), (2 * nn) + 1 ≤ j18 + nf → j18 ≤ (2 * nn) → ∀ (y19 : Int32) (y20 : Int32) (g21 : Nat → Int32) (H : Heap) (locs : List Loc), ((y20.toInt = 0 ∧ y19 = nI (j18 / 2) ∧ (j18 = 0 ∨ (fla kk = lane ∧ 0 ≤ x1.toInt ∧ x1.toInt + (j18 : Int) ≤ (flg kk).toInt)) ∧ (∀ q9 : Nat, q9 < (j18 / 2) → (0 ≤ ((fun q8 : Nat => fce (40 * kk + (x1.toInt + 2 * (q8 : Int) + 0).toNat)) q9).toInt ∧ ((fun q8 : Nat => fce (40 * kk + (x1.toInt + 2 * (q8 : Int) + 0).toNat)) q9).toInt < ((N : Nat) : Int)) ∧ (0 ≤ ((fun q8 : Nat => fce (40 * kk + (x1.toInt + 2 * (q8 : Int) + 1).toNat)) q9).toInt ∧ ((fun q8 : Nat => fce (40 * kk + (x1.toInt + 2 * (q8 : Int) + 1).toNat)) q9).toInt < ((B : Nat) : Int))) ∧ OKS g21 ∧ RDJ fst g21 (fun q8 : Nat => fce (40 * kk + (x1.toInt + 2 * (q8 : Int) + 0).toNat)) (fun q8 : Nat => fce (40 * kk + (x1.toInt + 2 * (q8 : Int) + 1).toNat)) (j18 / 2)) ∨ (y20.toInt ≠ 0 ∧ y19 = nI (tpK (fla kk) lane (flg kk).toInt x1.toInt nn) ∧ (tpK (fla kk) lane (flg kk).toInt x1.toInt nn) ≤ 20 ∧ (∀ q9 : Nat, q9 < (tpK (fla kk) lane (flg kk).toInt x1.toInt nn) → (0 ≤ ((fun q8 : Nat => fce (40 * kk + (x1.toInt + 2 * (q8 : Int) + 0).toNat)) q9).toInt ∧ ((fun q8 : Nat => fce (40 * kk + (x1.toInt + 2 * (q8 : Int) + 0).toNat)) q9).toInt < ((N : Nat) : Int)) ∧ (0 ≤ ((fun q8 : Nat => fce (40 * kk + (x1.toInt + 2 * (q8 : Int) + 1).toNat)) q9).toInt ∧ ((fun q8 : Nat => fce (40 * kk + (x1.toInt + 2 * (q8 : Int) + 1).toNat)) q9).toInt < ((B : Nat) : Int))) ∧ OKS g21 ∧ RDJ fst g21 (fun q8 : Nat => fce (40 * kk + (x1.toInt + 2 * (q8 : Int) + 0).toNat)) (fun q8 : Nat => fce (40 * kk + (x1.toInt + 2 * (q8 : Int) + 1).toNat)) (tpK (fla kk) lane (flg kk).toInt x1.toInt nn))) → va_P (dC, dI) vwCl [(la, .inl (G 0, 4, .inl fla)), (lg, .inl (G 0, 4, .inl flg)), (ce, .inl (G 0, 160, .inl fce)), (h0, .inr (11, [.ref st, .int (nI N), .int (nI B), .ref rp, .int vrs, .int vrb, .int vhs, .int vca, .int vxs, .int vxb, .ref tp, .int (nI T), .int vfa, .int vbr, .int vba, .int vsp, .int vhe, .int vtk, .int vva, .ref cu, .ref lt, .ref od, .ref th, .ref be, .ref ln, .int (nI S), .ref ma, .int (nI M), .ref ah, .ref bh, .ref ik, .ref la, .ref lg, .ref ce, .int vto])), (st, .inl (G 0, 196, .inl g21))] H → va_D A [(la, .inl (G 0, 4, .inl fla)), (lg, .inl (G 0, 4, .inl flg)), (ce, .inl (G 0, 160, .inl fce)), (h0, .inr (11, [.ref st, .int (nI N), .int (nI B), .ref rp, .int vrs, .int vrb, .int vhs, .int vca, .int vxs, .int vxb, .ref tp, .int (nI T), .int vfa, .int vbr, .int vba, .int vsp, .int vhe, .int vtk, .int vva, .ref cu, .ref lt, .ref od, .ref th, .ref be, .ref ln, .int (nI S), .ref ma, .int (nI M), .ref ah, .ref bh, .ref ik, .ref la, .ref lg, .ref ce, .int vto])), (st, .inl (G 0, 196, .inl g21))] → va_S A s.heap H locs → ∀ (ls : Array Slot), lv_has ls 9 [(7, .int (nI j18)), (6, .int y19), (5, .int y20), (0, .ref h0), (1, .int (nI kk)), (2, .int lane), (3, .int x1), (4, .int (nI nn))] → W p l e (headSpec (Cond.code yX11_read cX11_read 9 (some .int) :: GT) ({ frames := 3, cells := 0, slots := 0, locals := 68 } : Room)).room s m ([.ref h0, .int (nI kk), .int lane, .int x1, .int (nI nn)] : List Value).toArray below meth c H locs 0 0 (MQ below (va_Qi (fun (r : Int32) (u : (Nat → Int32) × Int32) => match u with | (ost, oto) => (r = if ((0 ≤ (nI kk).toInt ∧ (nI kk).toInt < 4) ∧ (0 ≤ lane.toInt ∧ lane.toInt ≤ 2) ∧ 0 ≤ (nI nn).toInt ∧ (nI nn).toInt ≤ 20) then rdR N B (fun q8 : Nat => fce (40 * (nI kk).toNatClampNeg + (x1.toInt + 2 * (q8 : Int) + 0).toNat)) (fun q8 : Nat => fce (40 * (nI kk).toNatClampNeg + (x1.toInt + 2 * (q8 : Int) + 1).toNat)) (tpK (fla (nI kk).toNatClampNeg) lane (flg (nI kk).toNatClampNeg).toInt x1.toInt (nI nn).toNatClampNeg) else -1) ∧ OKS ost ∧ NO3 fst ost ∧ ∀ x9 : Nat, x9 < 10 → ost (38 + x9) = (if ((0 ≤ (nI kk).toInt ∧ (nI kk).toInt < 4) ∧ (0 ≤ lane.toInt ∧ lane.toInt ≤ 2) ∧ 0 ≤ (nI nn).toInt ∧ (nI nn).toInt ≤ 20) then rdF N B (fun q8 : Nat => fce (40 * (nI kk).toNatClampNeg + (x1.toInt + 2 * (q8 : Int) + 0).toNat)) (fun q8 : Nat => fce (40 * (nI kk).toNatClampNeg + (x1.toInt + 2 * (q8 : Int) + 1).toNat)) (tpK (fla (nI kk).toNatClampNeg) lane (flg (nI kk).toNatClampNeg).toInt x1.toInt (nI nn).toNatClampNeg) (fun i9 => fst (38 + i9)) else (fun i9 => fst (38 + i9))) x9) (fun (u : (Nat → Int32) × Int32) (t : State) => match u with | (ost, oto) => va_P (dC, dI) vwCl [(h0, .inr (11, [.ref st, .int (nI N), .int (nI B), .ref rp, .int vrs, .int vrb, .int vhs, .int vca, .int vxs, .int vxb, .ref tp, .int (nI T), .int vfa, .int vbr, .int vba, .int vsp, .int vhe, .int vtk, .int vva, .ref cu, .ref lt, .ref od, .ref th, .ref be, .ref ln, .int (nI S), .ref ma, .int (nI M), .ref ah, .ref bh, .ref ik, .ref la, .ref lg, .ref ce, .int oto])), (st, .inl (G 0, 196, .inl ost)), (la, .inl (G 0, 4, .inl fla)), (lg, .inl (G 0, 4, .inl flg)), (ce, .inl (G 0, 160, .inl fce))] t.heap ∧ va_D A [(h0, .inr (11, [.ref st, .int (nI N), .int (nI B), .ref rp, .int vrs, .int vrb, .int vhs, .int vca, .int vxs, .int vxb, .ref tp, .int (nI T), .int vfa, .int vbr, .int vba, .int vsp, .int vhe, .int vtk, .int vva, .ref cu, .ref lt, .ref od, .ref th, .ref be, .ref ln, .int (nI S), .ref ma, .int (nI M), .ref ah, .ref bh, .ref ik, .ref la, .ref lg, .ref ce, .int oto])), (st, .inl (G 0, 196, .inl ost)), (la, .inl (G 0, 4, .inl fla)), (lg, .inl (G 0, 4, .inl flg)), (ce, .inl (G 0, 160, .inl fce))]) A) ([.ref h0, .int (nI kk), .int lane, .int x1, .int (nI nn)] : List Value).toArray s 0 0 A) (F0 m 56 ls []) := by
          intro nf
          induction nf with
          | zero => intro j18 h1 h2; exact absurd h1 (by omega)
          | succ nf ih56_22 =>
            intro j18 hn23 hj24 y19 y20 g21 H locs hinv hP hD hS ls hl
            refine lv_iload hx hb dX11_read_56 (lv_at hl 0 rfl) ?_
            refine lv_iconst (v := 2) hx hb dX11_read_58 rfl ?_
            refine lv_iload hx hb dX11_read_59 (lv_at hl 7 rfl) ?_
            refine lv_imul hx hb dX11_read_61 ?_
            refine lv_cg (y := nI (2 * nn)) (by rw [show (2 : Int32) = nI 2 from rfl]; exact pk_mul _ _) ?_
            refine lv_icmp_ge (tgt := 198) hx hb dX11_read_62 rfl (fun c25 => ?_) (fun c25 => ?_)
            · skip
              have tn2134_ : nIT j18 := fun _ => nI_toInt (by first | omega | (have t := leI c25; omega))
              have tn2135_ : nIT (2 * nn) := fun _ => nI_toInt (by omega)
              have n26 : (2 * nn) ≤ j18 := by have t := leI c25; rw [show (nI (j18)).toInt = ((j18 : Nat) : Int) from tn2134_ ()] at t; rw [show (nI (2 * nn)).toInt = ((2 * nn : Nat) : Int) from tn2135_ ()] at t; omega
              have hend : y19 = nI (tpK (fla kk) lane (flg kk).toInt x1.toInt nn) ∧ (tpK (fla kk) lane (flg kk).toInt x1.toInt nn) ≤ 20 ∧ (∀ q9 : Nat, q9 < (tpK (fla kk) lane (flg kk).toInt x1.toInt nn) → (0 ≤ ((fun q8 : Nat => fce (40 * kk + (x1.toInt + 2 * (q8 : Int) + 0).toNat)) q9).toInt ∧ ((fun q8 : Nat => fce (40 * kk + (x1.toInt + 2 * (q8 : Int) + 0).toNat)) q9).toInt < ((N : Nat) : Int)) ∧ (0 ≤ ((fun q8 : Nat => fce (40 * kk + (x1.toInt + 2 * (q8 : Int) + 1).toNat)) q9).toInt ∧ ((fun q8 : Nat => fce (40 * kk + (x1.toInt + 2 * (q8 : Int) + 1).toNat)) q9).toInt < ((B : Nat) : Int))) ∧ OKS g21 ∧ RDJ fst g21 (fun q8 : Nat => fce (40 * kk + (x1.toInt + 2 * (q8 : Int) + 0).toNat)) (fun q8 : Nat => fce (40 * kk + (x1.toInt + 2 * (q8 : Int) + 1).toNat)) (tpK (fla kk) lane (flg kk).toInt x1.toInt nn) := (by
                rcases hinv with g9 | g9
                · have hm : (tpK (fla kk) lane (flg kk).toInt x1.toInt nn) = j18 / 2 := (by have t_b5 := b5; have t_b10 := b10; have t_b14 := b14; have t_hkk := hkk; have t_hnn := hnn; have t_hj24 := hj24; have t_n26 := n26; have t_n0 : (nI N).toInt = (N : Int) := nI_toInt (by omega); have t_n1 : (nI B).toInt = (B : Int) := nI_toInt (by omega); have t_n2 : (nI T).toInt = (T : Int) := nI_toInt (by omega); have t_n3 : (nI S).toInt = (S : Int) := nI_toInt (by omega); have t_n4 : (nI M).toInt = (M : Int) := nI_toInt (by omega); have t_n5 : (nI kk).toInt = (kk : Int) := nI_toInt (by omega); have t_n6 : (nI nn).toInt = (nn : Int) := nI_toInt (by omega); have t_n7 : (nI j18).toInt = (j18 : Int) := nI_toInt (by omega); have tqz_ := qz46_; have z4 : (-4 : Int32).toInt = -4 := (by decide); have z10 : (10 : Int32).toInt = 10 := qI_10; have hLr := g9.2.2.1; have g7 := g9.1; first | (exfalso; omega) | (unfold tpK; split; (exact tpM_eq (by omega) (fun q9 h9 => by rcases hLr with g8 | g8; omega; exact ⟨by omega, by omega⟩) (fun h9 => absurd h9 (by omega))); (rcases hLr with g8 | g8; omega; exact absurd g8.1 (by first | with_reducible assumption | assumption))))
                  rw [hm]; exact ⟨g9.2.1, (by have t_b5 := b5; have t_b10 := b10; have t_b14 := b14; have t_hkk := hkk; have t_hnn := hnn; have t_hj24 := hj24; have t_n26 := n26; have tnb_ := nib8 tn2126_ tn2127_ tn2128_ tn2129_ tn2130_ tn2132_ tn2133_ tn2134_; have tqz_ := qz46_; have z4 : (-4 : Int32).toInt = -4 := (by decide); have z10 : (10 : Int32).toInt = 10 := qI_10; omega), g9.2.2.2.1, g9.2.2.2.2.1, g9.2.2.2.2.2⟩
                · exact g9.2)
              refine lv_aload_n hx hb dX11_read_198 rfl (lv_at hl 3 rfl) ?_
              refine lv_iload hx hb dX11_read_199 (lv_at hl 2 rfl) ?_
              refine va_put (D := (dC, dI)) (ci := 11) (v := .int y20) (ty := .int) (C := RX11) (T := TX11) (N := 35) hx hb hg inG11 tyX11 tyX11_ok nmX11 hown hK.1 hP hD hS 3 rfl rfl 34 (Nat.le_of_ble_eq_true rfl) (hg _ wt_912) (fun _ h9 => h9) rfl (by decide +kernel) rfl rfl (Nat.le_of_ble_eq_true rfl) dX11_read_201 (fun H locs hP hD hS => ?_)
              refine lv_iload hx hb dX11_read_204 (lv_at hl 1 rfl) ?_
              have hpost : (y19 : Int32) = if ((0 ≤ (nI kk).toInt ∧ (nI kk).toInt < 4) ∧ (0 ≤ lane.toInt ∧ lane.toInt ≤ 2) ∧ 0 ≤ (nI nn).toInt ∧ (nI nn).toInt ≤ 20) then rdR N B (fun q8 : Nat => fce (40 * (nI kk).toNatClampNeg + (x1.toInt + 2 * (q8 : Int) + 0).toNat)) (fun q8 : Nat => fce (40 * (nI kk).toNatClampNeg + (x1.toInt + 2 * (q8 : Int) + 1).toNat)) (tpK (fla (nI kk).toNatClampNeg) lane (flg (nI kk).toNatClampNeg).toInt x1.toInt (nI nn).toNatClampNeg) else -1 := by
                have t_b5 := b5
                have t_b10 := b10
                have t_b14 := b14
                have t_hkk := hkk
                have t_hnn := hnn
                have t_hj24 := hj24
                have t_n26 := n26
                have t_n0 : (nI N).toInt = (N : Int) := tn2126_ ()
                have t_n1 : (nI B).toInt = (B : Int) := tn2127_ ()
                have t_n2 : (nI T).toInt = (T : Int) := tn2128_ ()
                have t_n3 : (nI S).toInt = (S : Int) := tn2129_ ()
                have t_n4 : (nI M).toInt = (M : Int) := tn2130_ ()
                have t_n5 : (nI kk).toInt = (kk : Int) := tn2132_ ()
                have t_n6 : (nI nn).toInt = (nn : Int) := tn2133_ ()
                have t_n7 : (nI j18).toInt = (j18 : Int) := tn2134_ ()
                have z0 : (0 : Int32).toInt = 0 := qI_0
                have z1 : (1 : Int32).toInt = 1 := qI_1
                have z2 : (2 : Int32).toInt = 2 := qI_2
                have z3 : (3 : Int32).toInt = 3 := qI_3
                have z5 : (5 : Int32).toInt = 5 := qI_5
                have z9 : (9 : Int32).toInt = 9 := qI_9
                have z20 : (20 : Int32).toInt = 20 := qI_20
                have z4 : (-4 : Int32).toInt = -4 := (by decide)
                have z10 : (10 : Int32).toInt = 10 := qI_10
                rw [if_pos (by omega), nI_clamp (by omega), nI_clamp (by omega)]
                unfold rdR
                rw [rdI_eq (Nat.le_refl _) hend.2.2.1 (fun h9 => absurd h9 (Nat.lt_irrefl _)), if_neg (Nat.lt_irrefl _)]
                exact hend.1
              obtain ⟨hP9, hD9⟩ := va_sub2 (ws' := [(h0, .inr (11, [.ref st, .int (nI N), .int (nI B), .ref rp, .int vrs, .int vrb, .int vhs, .int vca, .int vxs, .int vxb, .ref tp, .int (nI T), .int vfa, .int vbr, .int vba, .int vsp, .int vhe, .int vtk, .int vva, .ref cu, .ref lt, .ref od, .ref th, .ref be, .ref ln, .int (nI S), .ref ma, .int (nI M), .ref ah, .ref bh, .ref ik, .ref la, .ref lg, .ref ce, .int y20])), (st, .inl (G 0, 196, .inl g21)), (la, .inl (G 0, 4, .inl fla)), (lg, .inl (G 0, 4, .inl flg)), (ce, .inl (G 0, 160, .inl fce))]) hP hD [3, 4, 0, 1, 2] (by decide +kernel) rfl
              refine W.widen (k := 0) (n := 0) (Nat.le_of_ble_eq_true rfl) (Nat.le_of_ble_eq_true rfl) ?_
              exact W.iret (v := y19) hx hb hr (fun t ht hW => ⟨⟨y19, (g21, y20), rfl, ⟨hpost, (by clear hpost; have t_b5 := b5; have t_b10 := b10; have t_b14 := b14; have t_hkk := hkk; have t_hnn := hnn; have t_hj24 := hj24; have t_n26 := n26; have tnb_ := nib8 tn2126_ tn2127_ tn2128_ tn2129_ tn2130_ tn2132_ tn2133_ tn2134_; have tqz_ := qz46_; have z4 : (-4 : Int32).toInt = -4 := (by decide); have z10 : (10 : Int32).toInt = 10 := qI_10; refine ⟨hend.2.2.2.1, hend.2.2.2.2.1, (fun x9 h9 => by rw [if_pos (by omega), nI_clamp (by omega), nI_clamp (by omega)]; unfold rdF; rw [rdI_eq (Nat.le_refl _) hend.2.2.1 (fun h8 => absurd h8 (Nat.lt_irrefl _)), if_neg (Nat.lt_irrefl _)]; exact hend.2.2.2.2.2.1 x9 h9)⟩)⟩, ⟨by rw [ht]; exact hP9, hD9⟩⟩, hS.F ht⟩) hS.2.2 dX11_read_206
            · skip
              have tn2136_ : nIT j18 := fun _ => nI_toInt (by first | omega | (have t := nleI c25; omega))
              have tn2137_ : nIT (2 * nn) := fun _ => nI_toInt (by omega)
              have n27 : j18 < (2 * nn) := by have t := nleI c25; rw [show (nI (j18)).toInt = ((j18 : Nat) : Int) from tn2136_ ()] at t; rw [show (nI (2 * nn)).toInt = ((2 * nn : Nat) : Int) from tn2137_ ()] at t; omega
              refine lv_iload hx hb dX11_read_65 (lv_at hl 2 rfl) ?_
              refine lv_if_ne (tgt := 198) hx hb dX11_read_67 rfl (fun c28 => ?_) (fun c28 => ?_)
              · skip
                have hend : y19 = nI (tpK (fla kk) lane (flg kk).toInt x1.toInt nn) ∧ (tpK (fla kk) lane (flg kk).toInt x1.toInt nn) ≤ 20 ∧ (∀ q9 : Nat, q9 < (tpK (fla kk) lane (flg kk).toInt x1.toInt nn) → (0 ≤ ((fun q8 : Nat => fce (40 * kk + (x1.toInt + 2 * (q8 : Int) + 0).toNat)) q9).toInt ∧ ((fun q8 : Nat => fce (40 * kk + (x1.toInt + 2 * (q8 : Int) + 0).toNat)) q9).toInt < ((N : Nat) : Int)) ∧ (0 ≤ ((fun q8 : Nat => fce (40 * kk + (x1.toInt + 2 * (q8 : Int) + 1).toNat)) q9).toInt ∧ ((fun q8 : Nat => fce (40 * kk + (x1.toInt + 2 * (q8 : Int) + 1).toNat)) q9).toInt < ((B : Nat) : Int))) ∧ OKS g21 ∧ RDJ fst g21 (fun q8 : Nat => fce (40 * kk + (x1.toInt + 2 * (q8 : Int) + 0).toNat)) (fun q8 : Nat => fce (40 * kk + (x1.toInt + 2 * (q8 : Int) + 1).toNat)) (tpK (fla kk) lane (flg kk).toInt x1.toInt nn) := (by
                  rcases hinv with g9 | g9
                  · have hm : (tpK (fla kk) lane (flg kk).toInt x1.toInt nn) = j18 / 2 := (by have t_b5 := b5; have t_b10 := b10; have t_b14 := b14; have t_hkk := hkk; have t_hnn := hnn; have t_hj24 := hj24; have t_n27 := n27; have t_c28 := neI c28; have : (0 : Int32).toInt = 0 := qI_0; have t_n0 : (nI N).toInt = (N : Int) := nI_toInt (by omega); have t_n1 : (nI B).toInt = (B : Int) := nI_toInt (by omega); have t_n2 : (nI T).toInt = (T : Int) := nI_toInt (by omega); have t_n3 : (nI S).toInt = (S : Int) := nI_toInt (by omega); have t_n4 : (nI M).toInt = (M : Int) := nI_toInt (by omega); have t_n5 : (nI kk).toInt = (kk : Int) := nI_toInt (by omega); have t_n6 : (nI nn).toInt = (nn : Int) := nI_toInt (by omega); have t_n7 : (nI j18).toInt = (j18 : Int) := nI_toInt (by omega); have tqz_ := qz46_; have z4 : (-4 : Int32).toInt = -4 := (by decide); have z10 : (10 : Int32).toInt = 10 := qI_10; have hLr := g9.2.2.1; have g7 := g9.1; first | (exfalso; omega) | (unfold tpK; split; (exact tpM_eq (by omega) (fun q9 h9 => by rcases hLr with g8 | g8; omega; exact ⟨by omega, by omega⟩) (fun h9 => absurd h9 (by omega))); (rcases hLr with g8 | g8; omega; exact absurd g8.1 (by first | with_reducible assumption | assumption))))
                    rw [hm]; exact ⟨g9.2.1, (by have t_b5 := b5; have t_b10 := b10; have t_b14 := b14; have t_hkk := hkk; have t_hnn := hnn; have t_hj24 := hj24; have t_n27 := n27; have t_c28 := neI c28; have : (0 : Int32).toInt = 0 := qI_0; have tnb_ := nib8 tn2126_ tn2127_ tn2128_ tn2129_ tn2130_ tn2132_ tn2133_ tn2136_; have tqz_ := qz46_; have z4 : (-4 : Int32).toInt = -4 := (by decide); have z10 : (10 : Int32).toInt = 10 := qI_10; omega), g9.2.2.2.1, g9.2.2.2.2.1, g9.2.2.2.2.2⟩
                  · exact g9.2)
                refine lv_aload_n hx hb dX11_read_198 rfl (lv_at hl 3 rfl) ?_
                refine lv_iload hx hb dX11_read_199 (lv_at hl 2 rfl) ?_
                refine va_put (D := (dC, dI)) (ci := 11) (v := .int y20) (ty := .int) (C := RX11) (T := TX11) (N := 35) hx hb hg inG11 tyX11 tyX11_ok nmX11 hown hK.1 hP hD hS 3 rfl rfl 34 (Nat.le_of_ble_eq_true rfl) (hg _ wt_912) (fun _ h9 => h9) rfl (by decide +kernel) rfl rfl (Nat.le_of_ble_eq_true rfl) dX11_read_201 (fun H locs hP hD hS => ?_)
                refine lv_iload hx hb dX11_read_204 (lv_at hl 1 rfl) ?_
                have hpost : (y19 : Int32) = if ((0 ≤ (nI kk).toInt ∧ (nI kk).toInt < 4) ∧ (0 ≤ lane.toInt ∧ lane.toInt ≤ 2) ∧ 0 ≤ (nI nn).toInt ∧ (nI nn).toInt ≤ 20) then rdR N B (fun q8 : Nat => fce (40 * (nI kk).toNatClampNeg + (x1.toInt + 2 * (q8 : Int) + 0).toNat)) (fun q8 : Nat => fce (40 * (nI kk).toNatClampNeg + (x1.toInt + 2 * (q8 : Int) + 1).toNat)) (tpK (fla (nI kk).toNatClampNeg) lane (flg (nI kk).toNatClampNeg).toInt x1.toInt (nI nn).toNatClampNeg) else -1 := by
                  have t_b5 := b5
                  have t_b10 := b10
                  have t_b14 := b14
                  have t_hkk := hkk
                  have t_hnn := hnn
                  have t_hj24 := hj24
                  have t_n27 := n27
                  have t_c28 := neI c28
                  have : (0 : Int32).toInt = 0 := qI_0
                  have t_n0 : (nI N).toInt = (N : Int) := tn2126_ ()
                  have t_n1 : (nI B).toInt = (B : Int) := tn2127_ ()
                  have t_n2 : (nI T).toInt = (T : Int) := tn2128_ ()
                  have t_n3 : (nI S).toInt = (S : Int) := tn2129_ ()
                  have t_n4 : (nI M).toInt = (M : Int) := tn2130_ ()
                  have t_n5 : (nI kk).toInt = (kk : Int) := tn2132_ ()
                  have t_n6 : (nI nn).toInt = (nn : Int) := tn2133_ ()
                  have t_n7 : (nI j18).toInt = (j18 : Int) := tn2136_ ()
                  have z0 : (0 : Int32).toInt = 0 := qI_0
                  have z1 : (1 : Int32).toInt = 1 := qI_1
                  have z2 : (2 : Int32).toInt = 2 := qI_2
                  have z3 : (3 : Int32).toInt = 3 := qI_3
                  have z5 : (5 : Int32).toInt = 5 := qI_5
                  have z9 : (9 : Int32).toInt = 9 := qI_9
                  have z20 : (20 : Int32).toInt = 20 := qI_20
                  have z4 : (-4 : Int32).toInt = -4 := (by decide)
                  have z10 : (10 : Int32).toInt = 10 := qI_10
                  rw [if_pos (by omega), nI_clamp (by omega), nI_clamp (by omega)]
                  unfold rdR
                  rw [rdI_eq (Nat.le_refl _) hend.2.2.1 (fun h9 => absurd h9 (Nat.lt_irrefl _)), if_neg (Nat.lt_irrefl _)]
                  exact hend.1
                obtain ⟨hP9, hD9⟩ := va_sub2 (ws' := [(h0, .inr (11, [.ref st, .int (nI N), .int (nI B), .ref rp, .int vrs, .int vrb, .int vhs, .int vca, .int vxs, .int vxb, .ref tp, .int (nI T), .int vfa, .int vbr, .int vba, .int vsp, .int vhe, .int vtk, .int vva, .ref cu, .ref lt, .ref od, .ref th, .ref be, .ref ln, .int (nI S), .ref ma, .int (nI M), .ref ah, .ref bh, .ref ik, .ref la, .ref lg, .ref ce, .int y20])), (st, .inl (G 0, 196, .inl g21)), (la, .inl (G 0, 4, .inl fla)), (lg, .inl (G 0, 4, .inl flg)), (ce, .inl (G 0, 160, .inl fce))]) hP hD [3, 4, 0, 1, 2] (by decide +kernel) rfl
                refine W.widen (k := 0) (n := 0) (Nat.le_of_ble_eq_true rfl) (Nat.le_of_ble_eq_true rfl) ?_
                exact W.iret (v := y19) hx hb hr (fun t ht hW => ⟨⟨y19, (g21, y20), rfl, ⟨hpost, (by clear hpost; have t_b5 := b5; have t_b10 := b10; have t_b14 := b14; have t_hkk := hkk; have t_hnn := hnn; have t_hj24 := hj24; have t_n27 := n27; have t_c28 := neI c28; have : (0 : Int32).toInt = 0 := qI_0; have tnb_ := nib8 tn2126_ tn2127_ tn2128_ tn2129_ tn2130_ tn2132_ tn2133_ tn2136_; have tqz_ := qz46_; have z4 : (-4 : Int32).toInt = -4 := (by decide); have z10 : (10 : Int32).toInt = 10 := qI_10; refine ⟨hend.2.2.2.1, hend.2.2.2.2.1, (fun x9 h9 => by rw [if_pos (by omega), nI_clamp (by omega), nI_clamp (by omega)]; unfold rdF; rw [rdI_eq (Nat.le_refl _) hend.2.2.1 (fun h8 => absurd h8 (Nat.lt_irrefl _)), if_neg (Nat.lt_irrefl _)]; exact hend.2.2.2.2.2.1 x9 h9)⟩)⟩, ⟨by rw [ht]; exact hP9, hD9⟩⟩, hS.F ht⟩) hS.2.2 dX11_read_206
              · skip
                have hL := hinv.resolve_right (fun h9 => h9.1 (by have t9 := congrArg Int32.toInt (by assumption : y20 = 0); rw [t9]; rfl))
                have hLr := hL.2.2.1
                refine lv_aload_n hx hb dX11_read_70 rfl (lv_at hl 3 rfl) ?_
                refine va_get (D := (dC, dI)) (ci := 11) (v := .ref la) (C := RX11) (T := TX11) (N := 35) hx hb hg inG11 hown hK.1 hP 3 rfl rfl 31 (Nat.le_of_ble_eq_true rfl) (hg _ wt_909) (fun _ h9 => h9) rfl dX11_read_71 ?_
                refine lv_iload_n hx hb dX11_read_74 rfl (lv_at hl 4 rfl) ?_
                refine va_iald hx hb hK.1 hP 0 0 rfl rfl (vp_in_nI (by first | omega | (have t_b5 := b5; have t_b10 := b10; have t_b14 := b14; have t_hkk := hkk; have t_hnn := hnn; have t_hj24 := hj24; have t_n27 := n27; have t_c28 := eqI c28; have : (0 : Int32).toInt = 0 := qI_0; have tnb_ := nib8 tn2126_ tn2127_ tn2128_ tn2129_ tn2130_ tn2132_ tn2133_ tn2136_; omega)) (by decide)) dX11_read_75 ?_
                refine lv_cg (y := fla kk) (by rw [nI_clamp (by omega)]) ?_
                refine lv_bipush (v := (-4)) hx hb dX11_read_76 rfl ?_
                refine lv_icmp_ne (tgt := 85) hx hb dX11_read_78 rfl (fun c29 => ?_) (fun c29 => ?_)
                · skip
                  refine lv_aload_n hx hb dX11_read_85 rfl (lv_at hl 3 rfl) ?_
                  refine va_get (D := (dC, dI)) (ci := 11) (v := .ref la) (C := RX11) (T := TX11) (N := 35) hx hb hg inG11 hown hK.1 hP 3 rfl rfl 31 (Nat.le_of_ble_eq_true rfl) (hg _ wt_909) (fun _ h9 => h9) rfl dX11_read_86 ?_
                  refine lv_iload_n hx hb dX11_read_89 rfl (lv_at hl 4 rfl) ?_
                  refine va_iald hx hb hK.1 hP 0 0 rfl rfl (vp_in_nI (by first | omega | (have t_b5 := b5; have t_b10 := b10; have t_b14 := b14; have t_hkk := hkk; have t_hnn := hnn; have t_hj24 := hj24; have t_n27 := n27; have t_c28 := eqI c28; have t_c29 := neI c29; have tqz_ := qz8_; have tnb_ := nib8 tn2126_ tn2127_ tn2128_ tn2129_ tn2130_ tn2132_ tn2133_ tn2136_; omega)) (by decide)) dX11_read_90 ?_
                  refine lv_cg (y := fla kk) (by rw [nI_clamp (by omega)]) ?_
                  refine lv_iload_n hx hb dX11_read_91 rfl (lv_at hl 5 rfl) ?_
                  refine lv_icmp_eq (tgt := 99) hx hb dX11_read_92 rfl (fun c30 => ?_) (fun c30 => ?_)
                  · skip
                    have hzk := hz kk (by omega)
                    have e9 := im1 (x := flg kk) hzk.1 hzk.2
                    have e8 := add64 x1 (nI j18)
                    refine lv_iload_n hx hb dX11_read_99 rfl (lv_at hl 6 rfl) ?_
                    refine lv_i2l (v := x1.toInt64) hx hb dX11_read_100 rfl ?_
                    refine lv_iload hx hb dX11_read_101 (lv_at hl 0 rfl) ?_
                    refine lv_i2l (v := (nI j18).toInt64) hx hb dX11_read_103 rfl ?_
                    refine lv_ladd hx hb dX11_read_104 ?_
                    refine lv_lconst (v := 0) hx hb dX11_read_105 (by decide) ?_
                    refine lv_aload_n hx hb dX11_read_106 rfl (lv_at hl 3 rfl) ?_
                    refine va_get (D := (dC, dI)) (ci := 11) (v := .ref lg) (C := RX11) (T := TX11) (N := 35) hx hb hg inG11 hown hK.1 hP 3 rfl rfl 32 (Nat.le_of_ble_eq_true rfl) (hg _ wt_910) (fun _ h9 => h9) rfl dX11_read_107 ?_
                    refine lv_iload_n hx hb dX11_read_110 rfl (lv_at hl 4 rfl) ?_
                    refine va_iald hx hb hK.1 hP 1 0 rfl rfl (vp_in_nI (by first | omega | (have t_b5 := b5; have t_b10 := b10; have t_b14 := b14; have t_hkk := hkk; have t_hnn := hnn; have t_hj24 := hj24; have t_n27 := n27; have t_c28 := eqI c28; have t_c29 := neI c29; have t_c30 := eqI c30; have tqz_ := qz8_; have tnb_ := nib8 tn2126_ tn2127_ tn2128_ tn2129_ tn2130_ tn2132_ tn2133_ tn2136_; omega)) (by decide)) dX11_read_111 ?_
                    refine lv_cg (y := flg kk) (by rw [nI_clamp (by omega)]) ?_
                    refine lv_iconst (v := 1) hx hb dX11_read_112 rfl ?_
                    refine lv_isub hx hb dX11_read_113 ?_
                    refine lv_i2l (v := ((flg kk) - 1).toInt64) hx hb dX11_read_114 rfl ?_
                    have hPc := hP.sub (ws' := []) [] rfl
                    refine va_calli (va_runS (As := [.long (x1.toInt64 + ((nI j18).toInt64)), .long 0, .long (((flg kk) - 1).toInt64)]) (rest := []) ⟨hx, hb, hml, hown, hg⟩ (c_X11_in l dC dI G _ (x1.toInt64 + ((nI j18).toInt64)) 0 (((flg kk) - 1).toInt64)) (kwS hg mfX11_in wt_992 ⟨Nat.le_of_ble_eq_true rfl, Nat.le_of_ble_eq_true rfl⟩) (preSR hK hPc) rfl rfl hl.1 rfl (lv_room (Nat.le_of_ble_eq_true rfl)) dX11_read_115 ⟨Nat.le_of_ble_eq_true rfl, Nat.le_of_ble_eq_true rfl⟩) hS (fun q h1 h2 => absurd h2 (Nat.not_le.mpr h1)) (fun q h => hA q (Nat.le_trans hS.1 h)) (fun r31 ur31 t H1 locs ht hvm w32 hB hz1 hk1 hS => ?_)
                    have hP := keepR hP hk1
                    obtain ⟨w32, w32x⟩ := w32
                    try simp only [l_ii, show (0 : Int64).toInt = 0 from by decide] at w32
                    subst w32
                    refine lv_if_ne (tgt := 125) hx hb dX11_read_118 rfl (fun c33 => ?_) (fun c33 => ?_)
                    · skip
                      have b34 := if10_p c33
                      refine lv_iconst (v := 0) hx hb dX11_read_125 rfl ?_
                      refine lv_istore (lv' := [(5, .int 0), (7, .int (nI j18)), (6, .int y19), (0, .ref h0), (1, .int (nI kk)), (2, .int lane), (3, .int x1), (4, .int (nI nn))]) hx hb dX11_read_126 hl (by decide) rfl (fun ls hl => ?_)
                      refine lv_iload hx hb dX11_read_128 (lv_at hl 0 rfl) ?_
                      refine lv_if_ne (tgt := 192) hx hb dX11_read_130 rfl (fun c35 => ?_) (fun c35 => ?_)
                      · skip
                        exact absurd c35 (by decide)
                      · skip
                        refine lv_iload hx hb dX11_read_133 (lv_at hl 1 rfl) ?_
                        refine lv_iconst (v := 2) hx hb dX11_read_135 rfl ?_
                        refine lv_irem hx hb dX11_read_136 (by decide) ?_
                        refine lv_cg (y := nI (j18 % 2)) (by rw [show (2 : Int32) = nI 2 from rfl]; exact pk_rem (by omega) (by omega) (by omega)) ?_
                        refine lv_iconst (v := 1) hx hb dX11_read_137 rfl ?_
                        refine lv_icmp_ne (tgt := 192) hx hb dX11_read_138 rfl (fun c36 => ?_) (fun c36 => ?_)
                        · skip
                          have tn2138_ : nIT (j18 % 2) := fun _ => nI_toInt (by first | omega | (have t := neI c36; omega))
                          have n37 : (j18 % 2) ≠ 1 := by have t := neI c36; rw [show (nI (j18 % 2)).toInt = ((j18 % 2 : Nat) : Int) from tn2138_ ()] at t; have : (1 : Int32).toInt = 1 := qI_1; omega
                          refine lv_iinc (v := nI (j18 + 1)) (lv' := [(7, .int (nI (j18 + 1))), (5, .int 0), (6, .int y19), (0, .ref h0), (1, .int (nI kk)), (2, .int lane), (3, .int x1), (4, .int (nI nn))]) hx hb dX11_read_192 hl (k := 1) rfl (by rw [show Int32.ofInt 1 = nI 1 from by decide]; exact nI_add _ _) (by decide) rfl (fun ls hl => ?_)
                          refine lv_goto (tgt := 56) hx hb dX11_read_195 rfl ?_
                          exact ih56_22 (j18 + 1) (by omega) (by omega) y19 0 g21 _ _ (by have hh : (j18 + 1) / 2 = j18 / 2 := (by (have t_b5 := b5; have t_b10 := b10; have t_b14 := b14; have t_hkk := hkk; have t_hnn := hnn; have t_hj24 := hj24; have t_n27 := n27; have t_c28 := eqI c28; have t_c29 := neI c29; have t_c30 := eqI c30; have t_b34 := b34; have t_c35 := eqI c35; have t_n37 := n37; have tqz_ := qz8_; have tnb_ := nib8 tn2126_ tn2127_ tn2128_ tn2129_ tn2130_ tn2132_ tn2133_ tn2136_; have tqz_ := qz46_; have z4 : (-4 : Int32).toInt = -4 := (by decide); have z10 : (10 : Int32).toInt = 10 := qI_10; omega)); rw [hh]; exact Or.inl ⟨by decide, hL.2.1, Or.inr ⟨by assumption, by (have t_b5 := b5; have t_b10 := b10; have t_b14 := b14; have t_hkk := hkk; have t_hnn := hnn; have t_hj24 := hj24; have t_n27 := n27; have t_c28 := eqI c28; have t_c29 := neI c29; have t_c30 := eqI c30; have t_b34 := b34; have t_c35 := eqI c35; have t_n37 := n37; have tqz_ := qz8_; have tnb_ := nib8 tn2126_ tn2127_ tn2128_ tn2129_ tn2130_ tn2132_ tn2133_ tn2136_; have tqz_ := qz46_; have z4 : (-4 : Int32).toInt = -4 := (by decide); have z10 : (10 : Int32).toInt = 10 := qI_10; omega), by (have t_b5 := b5; have t_b10 := b10; have t_b14 := b14; have t_hkk := hkk; have t_hnn := hnn; have t_hj24 := hj24; have t_n27 := n27; have t_c28 := eqI c28; have t_c29 := neI c29; have t_c30 := eqI c30; have t_b34 := b34; have t_c35 := eqI c35; have t_n37 := n37; have tqz_ := qz8_; have tnb_ := nib8 tn2126_ tn2127_ tn2128_ tn2129_ tn2130_ tn2132_ tn2133_ tn2136_; have tqz_ := qz46_; have z4 : (-4 : Int32).toInt = -4 := (by decide); have z10 : (10 : Int32).toInt = 10 := qI_10; omega)⟩, hL.2.2.2.1, hL.2.2.2.2.1, hL.2.2.2.2.2⟩) hP hD hS ls (lv_sub hl [0, 2, 1, 3, 4, 5, 6, 7] rfl)
                        · skip
                          have tn2139_ : nIT (j18 % 2) := fun _ => nI_toInt (by first | omega | (have t := eqI c36; omega))
                          have n38 : (j18 % 2) = 1 := by have t := eqI c36; rw [show (nI (j18 % 2)).toInt = ((j18 % 2 : Nat) : Int) from tn2139_ ()] at t; have : (1 : Int32).toInt = 1 := qI_1; omega
                          refine lv_bipush (v := 40) hx hb dX11_read_141 rfl ?_
                          refine lv_iload_n hx hb dX11_read_143 rfl (lv_at hl 4 rfl) ?_
                          refine lv_imul hx hb dX11_read_144 ?_
                          refine lv_cg (y := nI (40 * kk)) (by rw [show (40 : Int32) = nI 40 from rfl]; exact pk_mul _ _) ?_
                          refine lv_iload_n hx hb dX11_read_145 rfl (lv_at hl 6 rfl) ?_
                          refine lv_iadd hx hb dX11_read_146 ?_
                          refine lv_iload hx hb dX11_read_147 (lv_at hl 1 rfl) ?_
                          refine lv_iadd hx hb dX11_read_149 ?_
                          obtain ⟨cx9, hcx9, hcy9, ecx9, ecz9⟩ := rd_ixE (k := kk) (j := j18) (x := x1) (by omega) (by omega) (by have t_b5 := b5; have t_b10 := b10; have t_b14 := b14; have t_hkk := hkk; have t_hnn := hnn; have t_hj24 := hj24; have t_n27 := n27; have t_c28 := eqI c28; have t_c29 := neI c29; have t_c30 := eqI c30; have t_b34 := b34; have t_c35 := eqI c35; have t_n38 := n38; have tqz_ := qz8_; have tnb_ := nib8 tn2126_ tn2127_ tn2128_ tn2129_ tn2130_ tn2132_ tn2133_ tn2136_; omega) (by have t_b5 := b5; have t_b10 := b10; have t_b14 := b14; have t_hkk := hkk; have t_hnn := hnn; have t_hj24 := hj24; have t_n27 := n27; have t_c28 := eqI c28; have t_c29 := neI c29; have t_c30 := eqI c30; have t_b34 := b34; have t_c35 := eqI c35; have t_n38 := n38; have tqz_ := qz8_; have tnb_ := nib8 tn2126_ tn2127_ tn2128_ tn2129_ tn2130_ tn2132_ tn2133_ tn2136_; omega)
                          have hA9 : fce (cx9 - 1) = (fun q8 : Nat => fce (40 * kk + (x1.toInt + 2 * (q8 : Int) + 0).toNat)) (j18 / 2) := (by have t_b5 := b5; have t_b10 := b10; have t_b14 := b14; have t_hkk := hkk; have t_hnn := hnn; have t_hj24 := hj24; have t_n27 := n27; have t_c28 := eqI c28; have t_c29 := neI c29; have t_c30 := eqI c30; have t_b34 := b34; have t_c35 := eqI c35; have t_n38 := n38; have tqz_ := qz8_; have tnb_ := nib8 tn2126_ tn2127_ tn2128_ tn2129_ tn2130_ tn2132_ tn2133_ tn2136_; have tqz_ := qz46_; have z4 : (-4 : Int32).toInt = -4 := (by decide); have z10 : (10 : Int32).toInt = 10 := qI_10; show fce (cx9 - 1) = fce (40 * kk + (x1.toInt + 2 * ((j18 / 2 : Nat) : Int) + 0).toNat); congr 1; omega)
                          have hB9 : fce cx9 = (fun q8 : Nat => fce (40 * kk + (x1.toInt + 2 * (q8 : Int) + 1).toNat)) (j18 / 2) := (by have t_b5 := b5; have t_b10 := b10; have t_b14 := b14; have t_hkk := hkk; have t_hnn := hnn; have t_hj24 := hj24; have t_n27 := n27; have t_c28 := eqI c28; have t_c29 := neI c29; have t_c30 := eqI c30; have t_b34 := b34; have t_c35 := eqI c35; have t_n38 := n38; have tqz_ := qz8_; have tnb_ := nib8 tn2126_ tn2127_ tn2128_ tn2129_ tn2130_ tn2132_ tn2133_ tn2136_; have tqz_ := qz46_; have z4 : (-4 : Int32).toInt = -4 := (by decide); have z10 : (10 : Int32).toInt = 10 := qI_10; show fce cx9 = fce (40 * kk + (x1.toInt + 2 * ((j18 / 2 : Nat) : Int) + 1).toNat); congr 1; omega)
                          refine lv_cg (y := nI cx9) ecx9 ?_
                          refine lv_istore (lv' := [(8, .int (nI cx9)), (5, .int 0), (7, .int (nI j18)), (6, .int y19), (0, .ref h0), (1, .int (nI kk)), (2, .int lane), (3, .int x1), (4, .int (nI nn))]) hx hb dX11_read_150 hl (by decide) rfl (fun ls hl => ?_)
                          refine lv_aload_n hx hb dX11_read_152 rfl (lv_at hl 4 rfl) ?_
                          refine lv_aload_n hx hb dX11_read_153 rfl (lv_at hl 4 rfl) ?_
                          refine va_get (D := (dC, dI)) (ci := 11) (v := .ref ce) (C := RX11) (T := TX11) (N := 35) hx hb hg inG11 hown hK.1 hP 3 rfl rfl 33 (Nat.le_of_ble_eq_true rfl) (hg _ wt_911) (fun _ h9 => h9) rfl dX11_read_154 ?_
                          refine lv_iload hx hb dX11_read_157 (lv_at hl 0 rfl) ?_
                          refine lv_iconst (v := 1) hx hb dX11_read_159 rfl ?_
                          refine lv_isub hx hb dX11_read_160 ?_
                          have tn2140_ : nIT cx9 := fun _ => nI_toInt (by first | omega | (have t_b5 := b5; have t_b10 := b10; have t_b14 := b14; have t_hkk := hkk; have t_hnn := hnn; have t_hj24 := hj24; have t_n27 := n27; have t_c28 := eqI c28; have t_c29 := neI c29; have t_c30 := eqI c30; have t_b34 := b34; have t_c35 := eqI c35; have t_n38 := n38; have t_hcx9 := hcx9; have t_hcy9 := hcy9; have tqz_ := qz8_; omega))
                          refine lv_cg (y := nI (cx9 - 1)) (by rw [show (1 : Int32) = nI 1 from rfl]; exact pk_sub (by have t_b5 := b5; have t_b10 := b10; have t_b14 := b14; have t_hkk := hkk; have t_hnn := hnn; have t_hj24 := hj24; have t_n27 := n27; have t_c28 := eqI c28; have t_c29 := neI c29; have t_c30 := eqI c30; have t_b34 := b34; have t_c35 := eqI c35; have t_n38 := n38; have t_hcx9 := hcx9; have t_hcy9 := hcy9; have tqz_ := qz8_; have tnb_ := nib9 tn2126_ tn2127_ tn2128_ tn2129_ tn2130_ tn2132_ tn2133_ tn2136_ tn2140_; omega)) ?_
                          refine va_iald hx hb hK.1 hP 2 0 rfl rfl (vp_in_nI (by first | omega | (have t_b5 := b5; have t_b10 := b10; have t_b14 := b14; have t_hkk := hkk; have t_hnn := hnn; have t_hj24 := hj24; have t_n27 := n27; have t_c28 := eqI c28; have t_c29 := neI c29; have t_c30 := eqI c30; have t_b34 := b34; have t_c35 := eqI c35; have t_n38 := n38; have t_hcx9 := hcx9; have t_hcy9 := hcy9; have tqz_ := qz8_; have tnb_ := nib9 tn2126_ tn2127_ tn2128_ tn2129_ tn2130_ tn2132_ tn2133_ tn2136_ tn2140_; omega)) (by decide)) dX11_read_161 ?_
                          refine lv_cg (y := fce (cx9 - 1)) (by rw [nI_clamp (by omega)]) ?_
                          refine lv_aload_n hx hb dX11_read_162 rfl (lv_at hl 4 rfl) ?_
                          refine va_get (D := (dC, dI)) (ci := 11) (v := .ref ce) (C := RX11) (T := TX11) (N := 35) hx hb hg inG11 hown hK.1 hP 3 rfl rfl 33 (Nat.le_of_ble_eq_true rfl) (hg _ wt_911) (fun _ h9 => h9) rfl dX11_read_163 ?_
                          refine lv_iload hx hb dX11_read_166 (lv_at hl 0 rfl) ?_
                          refine va_iald hx hb hK.1 hP 2 0 rfl rfl (vp_in_nI (by first | omega | (have t_b5 := b5; have t_b10 := b10; have t_b14 := b14; have t_hkk := hkk; have t_hnn := hnn; have t_hj24 := hj24; have t_n27 := n27; have t_c28 := eqI c28; have t_c29 := neI c29; have t_c30 := eqI c30; have t_b34 := b34; have t_c35 := eqI c35; have t_n38 := n38; have t_hcx9 := hcx9; have t_hcy9 := hcy9; have tqz_ := qz8_; have tnb_ := nib9 tn2126_ tn2127_ tn2128_ tn2129_ tn2130_ tn2132_ tn2133_ tn2136_ tn2140_; omega)) (by decide)) dX11_read_168 ?_
                          refine lv_cg (y := fce cx9) (by rw [nI_clamp (by omega)]) ?_
                          obtain ⟨hPc, hDc, hFc⟩ := va_sub3 (ws' := [(h0, .inr (11, [.ref st, .int (nI N), .int (nI B), .ref rp, .int vrs, .int vrb, .int vhs, .int vca, .int vxs, .int vxb, .ref tp, .int (nI T), .int vfa, .int vbr, .int vba, .int vsp, .int vhe, .int vtk, .int vva, .ref cu, .ref lt, .ref od, .ref th, .ref be, .ref ln, .int (nI S), .ref ma, .int (nI M), .ref ah, .ref bh, .ref ik, .ref la, .ref lg, .ref ce, .int vto])), (st, .inl (G 0, 196, .inl g21))]) hP hD hS hA [3, 4] (by decide +kernel) rfl
                          refine va_calli (va_runV (As := [.int (fce (cx9 - 1)), .int (fce cx9)]) (rest := []) ⟨hx, hb, hml, hown, hg⟩ (c_X11_putsO l dC dI G _ h0 st N B rp tp T cu lt od th be ln S ma M ah bh ik la lg ce (fce (cx9 - 1)) (fce cx9) vrs vrb vhs vca vxs vxb vfa vbr vba vsp vhe vtk vva vto g21 hN hB_ hT_ hS0 hM_ hL.2.2.2.2.1) (kwV hg mfX11_puts wt_1094 ⟨Nat.le_of_ble_eq_true rfl, Nat.le_of_ble_eq_true rfl⟩) (preVW hK hPc hDc (ci := 11) (r := (RX11, TX11, 35)) rfl rfl) rfl rfl hl.1 rfl (lv_room (Nat.le_of_ble_eq_true rfl)) dX11_read_169 ⟨Nat.le_of_ble_eq_true rfl, Nat.le_of_ble_eq_true rfl⟩) hS (fun q _ h => hFc q h) hFc (fun r39 ur39 t H1 locs ht hvm w40 hB hz1 hk1 hS => ?_)
                          obtain ⟨u41, rfl⟩ : ∃ z, z = ur39 := ⟨_, rfl⟩
                          obtain ⟨hP1, hD1⟩ := hB
                          rw [ht] at hP1
                          obtain ⟨hP, hD⟩ := va_join (wr := [(la, .inl (G 0, 4, .inl fla)), (lg, .inl (G 0, 4, .inl flg)), (ce, .inl (G 0, 160, .inl fce))]) (w1 := [(h0, .inr (11, [.ref st, .int (nI N), .int (nI B), .ref rp, .int vrs, .int vrb, .int vhs, .int vca, .int vxs, .int vxb, .ref tp, .int (nI T), .int vfa, .int vbr, .int vba, .int vsp, .int vhe, .int vtk, .int vva, .ref cu, .ref lt, .ref od, .ref th, .ref be, .ref ln, .int (nI S), .ref ma, .int (nI M), .ref ah, .ref bh, .ref ik, .ref la, .ref lg, .ref ce, .int vto])), (st, .inl (G 0, 196, .inl u41))]) hP hD [3, 4] [0, 1, 2] rfl rfl (by decide +kernel) (by decide +kernel) hk1 hFc hP1 hD1
                          generalize H1 = H at hP hS ⊢
                          obtain ⟨w40, w40x⟩ := w40
                          have hnow40 : r39.toInt < 0 → ¬ ((0 ≤ (fce (cx9 - 1)).toInt ∧ (fce (cx9 - 1)).toInt < ((N : Nat) : Int)) ∧ (0 ≤ (fce cx9).toInt ∧ (fce cx9).toInt < ((B : Nat) : Int))) := (fun h9 c9 => pu_no w40 h9 (by have b9 := ck_lt c9.1; have k9 := (hL.2.2.2.2.1 (38 + (fce (cx9 - 1)).toNatClampNeg) (by omega)).2.1 (by omega) (by omega); exact k9.1) c9)
                          refine lv_if_ge (tgt := 189) hx hb dX11_read_172 rfl (fun c42 => ?_) (fun c42 => ?_)
                          · skip
                            refine lv_iinc (v := y19 + 1) (lv' := [(6, .int (y19 + 1)), (8, .int (nI cx9)), (5, .int 0), (7, .int (nI j18)), (0, .ref h0), (1, .int (nI kk)), (2, .int lane), (3, .int x1), (4, .int (nI nn))]) hx hb dX11_read_189 hl (k := 3) rfl (rfl) (by decide) rfl (fun ls hl => ?_)
                            refine lv_iinc (v := nI (j18 + 1)) (lv' := [(7, .int (nI (j18 + 1))), (6, .int (y19 + 1)), (8, .int (nI cx9)), (5, .int 0), (0, .ref h0), (1, .int (nI kk)), (2, .int lane), (3, .int x1), (4, .int (nI nn))]) hx hb dX11_read_192 hl (k := 3) rfl (by rw [show Int32.ofInt 1 = nI 1 from by decide]; exact nI_add _ _) (by decide) rfl (fun ls hl => ?_)
                            refine lv_goto (tgt := 56) hx hb dX11_read_195 rfl ?_
                            exact ih56_22 (j18 + 1) (by omega) (by omega) (y19 + 1) 0 u41 _ _ (by have hh : (j18 + 1) / 2 = j18 / 2 + 1 := (by (have t_b5 := b5; have t_b10 := b10; have t_b14 := b14; have t_hkk := hkk; have t_hnn := hnn; have t_hj24 := hj24; have t_n27 := n27; have t_c28 := eqI c28; have t_c29 := neI c29; have t_c30 := eqI c30; have t_b34 := b34; have t_c35 := eqI c35; have t_n38 := n38; have t_hcx9 := hcx9; have t_hcy9 := hcy9; have t_c42 := leI c42; have tqz_ := qz8_; have tnb_ := nib9 tn2126_ tn2127_ tn2128_ tn2129_ tn2130_ tn2132_ tn2133_ tn2136_ tn2140_; have tqz_ := qz46_; have z4 : (-4 : Int32).toInt = -4 := (by decide); have z10 : (10 : Int32).toInt = 10 := qI_10; omega)); have hA := hA9; have hB := hB9; have hok := pu_ok w40 (by (have t_b5 := b5; have t_b10 := b10; have t_b14 := b14; have t_hkk := hkk; have t_hnn := hnn; have t_hj24 := hj24; have t_n27 := n27; have t_c28 := eqI c28; have t_c29 := neI c29; have t_c30 := eqI c30; have t_b34 := b34; have t_c35 := eqI c35; have t_n38 := n38; have t_hcx9 := hcx9; have t_hcy9 := hcy9; have t_c42 := leI c42; have tqz_ := qz8_; have tnb_ := nib9 tn2126_ tn2127_ tn2128_ tn2129_ tn2130_ tn2132_ tn2133_ tn2136_ tn2140_; have tqz_ := qz46_; have z4 : (-4 : Int32).toInt = -4 := (by decide); have z10 : (10 : Int32).toInt = 10 := qI_10; omega)); rw [hh]; refine Or.inl ⟨by decide, by rw [hL.2.1, ← nI_succ], Or.inr ⟨by assumption, by (have t_b5 := b5; have t_b10 := b10; have t_b14 := b14; have t_hkk := hkk; have t_hnn := hnn; have t_hj24 := hj24; have t_n27 := n27; have t_c28 := eqI c28; have t_c29 := neI c29; have t_c30 := eqI c30; have t_b34 := b34; have t_c35 := eqI c35; have t_n38 := n38; have t_hcx9 := hcx9; have t_hcy9 := hcy9; have t_c42 := leI c42; have tqz_ := qz8_; have tnb_ := nib9 tn2126_ tn2127_ tn2128_ tn2129_ tn2130_ tn2132_ tn2133_ tn2136_ tn2140_; have tqz_ := qz46_; have z4 : (-4 : Int32).toInt = -4 := (by decide); have z10 : (10 : Int32).toInt = 10 := qI_10; omega), by (have t_b5 := b5; have t_b10 := b10; have t_b14 := b14; have t_hkk := hkk; have t_hnn := hnn; have t_hj24 := hj24; have t_n27 := n27; have t_c28 := eqI c28; have t_c29 := neI c29; have t_c30 := eqI c30; have t_b34 := b34; have t_c35 := eqI c35; have t_n38 := n38; have t_hcx9 := hcx9; have t_hcy9 := hcy9; have t_c42 := leI c42; have tqz_ := qz8_; have tnb_ := nib9 tn2126_ tn2127_ tn2128_ tn2129_ tn2130_ tn2132_ tn2133_ tn2136_ tn2140_; have tqz_ := qz46_; have z4 : (-4 : Int32).toInt = -4 := (by decide); have z10 : (10 : Int32).toInt = 10 := qI_10; omega)⟩, fun q9 h9 => ?_, w40x.1, ?_⟩; (by_cases e9 : q9 = j18 / 2; (rw [e9, ← hA, ← hB]; exact hok); exact hL.2.2.2.1 q9 (by (have t_b5 := b5; have t_b10 := b10; have t_b14 := b14; have t_hkk := hkk; have t_hnn := hnn; have t_hj24 := hj24; have t_n27 := n27; have t_c28 := eqI c28; have t_c29 := neI c29; have t_c30 := eqI c30; have t_b34 := b34; have t_c35 := eqI c35; have t_n38 := n38; have t_hcx9 := hcx9; have t_hcy9 := hcy9; have t_c42 := leI c42; have tqz_ := qz8_; have tnb_ := nib9 tn2126_ tn2127_ tn2128_ tn2129_ tn2130_ tn2132_ tn2133_ tn2136_ tn2140_; have tqz_ := qz46_; have z4 : (-4 : Int32).toInt = -4 := (by decide); have z10 : (10 : Int32).toInt = 10 := qI_10; omega))); (rw [w40x.2, if_pos hok, hA, hB]; exact hL.2.2.2.2.2.put (by have b9 := ck_lt hok.1; rw [hA] at b9; exact Nat.lt_of_lt_of_le b9 (by (have t_b5 := b5; have t_b10 := b10; have t_b14 := b14; have t_hkk := hkk; have t_hnn := hnn; have t_hj24 := hj24; have t_n27 := n27; have t_c28 := eqI c28; have t_c29 := neI c29; have t_c30 := eqI c30; have t_b34 := b34; have t_c35 := eqI c35; have t_n38 := n38; have t_hcx9 := hcx9; have t_hcy9 := hcy9; have t_c42 := leI c42; have tqz_ := qz8_; have tnb_ := nib9 tn2126_ tn2127_ tn2128_ tn2129_ tn2130_ tn2132_ tn2133_ tn2136_ tn2140_; have tqz_ := qz46_; have z4 : (-4 : Int32).toInt = -4 := (by decide); have z10 : (10 : Int32).toInt = 10 := qI_10; omega))))) hP hD hS ls (lv_sub hl [0, 1, 3, 4, 5, 6, 7, 8] rfl)
                          · skip
                            refine lv_aload_n hx hb dX11_read_175 rfl (lv_at hl 4 rfl) ?_
                            refine lv_sipush (v := 147) hx hb dX11_read_176 rfl ?_
                            refine lv_iconst (v := 0) hx hb dX11_read_179 rfl ?_
                            obtain ⟨hPc, hDc, hFc⟩ := va_sub3 (ws' := [(h0, .inr (11, [.ref st, .int (nI N), .int (nI B), .ref rp, .int vrs, .int vrb, .int vhs, .int vca, .int vxs, .int vxb, .ref tp, .int (nI T), .int vfa, .int vbr, .int vba, .int vsp, .int vhe, .int vtk, .int vva, .ref cu, .ref lt, .ref od, .ref th, .ref be, .ref ln, .int (nI S), .ref ma, .int (nI M), .ref ah, .ref bh, .ref ik, .ref la, .ref lg, .ref ce, .int vto])), (st, .inl (G 0, 196, .inl u41))]) hP hD hS hA [3, 4] (by decide +kernel) rfl
                            refine va_callv (va_runV (As := [.int 147, .int 0]) (rest := []) ⟨hx, hb, hml, hown, hg⟩ (c_X11_copiesW l dC dI G _ h0 147 0 st N B rp tp T cu lt od th be ln S ma M ah bh ik la lg ce vrs vrb vhs vca vxs vxb vfa vbr vba vsp vhe vtk vva vto u41 hN hB_ hT_ hS0 hM_ w40x.1 (by first | omega | (have t_b5 := b5; have t_b10 := b10; have t_b14 := b14; have t_hkk := hkk; have t_hnn := hnn; have t_hj24 := hj24; have t_n27 := n27; have t_c28 := eqI c28; have t_c29 := neI c29; have t_c30 := eqI c30; have t_b34 := b34; have t_c35 := eqI c35; have t_n38 := n38; have t_hcx9 := hcx9; have t_hcy9 := hcy9; have t_c42 := nleI c42; have tqz_ := qz8_; have tnb_ := nib9 tn2126_ tn2127_ tn2128_ tn2129_ tn2130_ tn2132_ tn2133_ tn2136_ tn2140_; omega)) (by first | omega | (have t_b5 := b5; have t_b10 := b10; have t_b14 := b14; have t_hkk := hkk; have t_hnn := hnn; have t_hj24 := hj24; have t_n27 := n27; have t_c28 := eqI c28; have t_c29 := neI c29; have t_c30 := eqI c30; have t_b34 := b34; have t_c35 := eqI c35; have t_n38 := n38; have t_hcx9 := hcx9; have t_hcy9 := hcy9; have t_c42 := nleI c42; have tqz_ := qz8_; have tnb_ := nib9 tn2126_ tn2127_ tn2128_ tn2129_ tn2130_ tn2132_ tn2133_ tn2136_ tn2140_; omega)) (by first | omega | (have t_b5 := b5; have t_b10 := b10; have t_b14 := b14; have t_hkk := hkk; have t_hnn := hnn; have t_hj24 := hj24; have t_n27 := n27; have t_c28 := eqI c28; have t_c29 := neI c29; have t_c30 := eqI c30; have t_b34 := b34; have t_c35 := eqI c35; have t_n38 := n38; have t_hcx9 := hcx9; have t_hcy9 := hcy9; have t_c42 := nleI c42; have tqz_ := qz8_; have tnb_ := nib9 tn2126_ tn2127_ tn2128_ tn2129_ tn2130_ tn2132_ tn2133_ tn2136_ tn2140_; omega))) (kwV hg mfX11_copies wt_1248 ⟨Nat.le_of_ble_eq_true rfl, Nat.le_of_ble_eq_true rfl⟩) (preVW hK hPc hDc (ci := 11) (r := (RX11, TX11, 35)) rfl rfl) rfl rfl hl.1 rfl (lv_room (Nat.le_of_ble_eq_true rfl)) dX11_read_180 ⟨Nat.le_of_ble_eq_true rfl, Nat.le_of_ble_eq_true rfl⟩) hS (fun q _ h => hFc q h) hFc (fun ur43 t H1 locs ht hvm w44 hB hz1 hk1 hS => ?_)
                            obtain ⟨u45, rfl⟩ : ∃ z, z = ur43 := ⟨_, rfl⟩
                            obtain ⟨hP1, hD1⟩ := hB
                            rw [ht] at hP1
                            obtain ⟨hP, hD⟩ := va_join (wr := [(la, .inl (G 0, 4, .inl fla)), (lg, .inl (G 0, 4, .inl flg)), (ce, .inl (G 0, 160, .inl fce))]) (w1 := [(h0, .inr (11, [.ref st, .int (nI N), .int (nI B), .ref rp, .int vrs, .int vrb, .int vhs, .int vca, .int vxs, .int vxb, .ref tp, .int (nI T), .int vfa, .int vbr, .int vba, .int vsp, .int vhe, .int vtk, .int vva, .ref cu, .ref lt, .ref od, .ref th, .ref be, .ref ln, .int (nI S), .ref ma, .int (nI M), .ref ah, .ref bh, .ref ik, .ref la, .ref lg, .ref ce, .int vto])), (st, .inl (G 0, 196, .inl u45))]) hP hD [3, 4] [0, 1, 2] rfl rfl (by decide +kernel) (by decide +kernel) hk1 hFc hP1 hD1
                            have w44 : OKS u45 ∧ u45 = cpj 147 0 49 u41 := w44
                            generalize H1 = H at hP hS ⊢
                            refine lv_bipush (v := (-20)) hx hb dX11_read_183 rfl ?_
                            refine lv_iload hx hb dX11_read_185 (lv_at hl 3 rfl) ?_
                            refine lv_isub hx hb dX11_read_187 ?_
                            have hpost : ((-20) - y19 : Int32) = if ((0 ≤ (nI kk).toInt ∧ (nI kk).toInt < 4) ∧ (0 ≤ lane.toInt ∧ lane.toInt ≤ 2) ∧ 0 ≤ (nI nn).toInt ∧ (nI nn).toInt ≤ 20) then rdR N B (fun q8 : Nat => fce (40 * (nI kk).toNatClampNeg + (x1.toInt + 2 * (q8 : Int) + 0).toNat)) (fun q8 : Nat => fce (40 * (nI kk).toNatClampNeg + (x1.toInt + 2 * (q8 : Int) + 1).toNat)) (tpK (fla (nI kk).toNatClampNeg) lane (flg (nI kk).toNatClampNeg).toInt x1.toInt (nI nn).toNatClampNeg) else -1 := by
                              have t_b5 := b5
                              have t_b10 := b10
                              have t_b14 := b14
                              have t_hkk := hkk
                              have t_hnn := hnn
                              have t_hj24 := hj24
                              have t_n27 := n27
                              have t_c28 := eqI c28
                              have t_c29 := neI c29
                              have t_c30 := eqI c30
                              have t_b34 := b34
                              have t_c35 := eqI c35
                              have t_n38 := n38
                              have t_hcx9 := hcx9
                              have t_hcy9 := hcy9
                              have t_c42 := nleI c42
                              have : ((-4) : Int32).toInt = -4 := qI_m4
                              have : (0 : Int32).toInt = 0 := qI_0
                              have t_n0 : (nI N).toInt = (N : Int) := tn2126_ ()
                              have t_n1 : (nI B).toInt = (B : Int) := tn2127_ ()
                              have t_n2 : (nI T).toInt = (T : Int) := tn2128_ ()
                              have t_n3 : (nI S).toInt = (S : Int) := tn2129_ ()
                              have t_n4 : (nI M).toInt = (M : Int) := tn2130_ ()
                              have t_n5 : (nI kk).toInt = (kk : Int) := tn2132_ ()
                              have t_n6 : (nI nn).toInt = (nn : Int) := tn2133_ ()
                              have t_n7 : (nI j18).toInt = (j18 : Int) := tn2136_ ()
                              have t_n8 : (nI cx9).toInt = (cx9 : Int) := tn2140_ ()
                              have z0 : (0 : Int32).toInt = 0 := qI_0
                              have z1 : (1 : Int32).toInt = 1 := qI_1
                              have z2 : (2 : Int32).toInt = 2 := qI_2
                              have z3 : (3 : Int32).toInt = 3 := qI_3
                              have z5 : (5 : Int32).toInt = 5 := qI_5
                              have z9 : (9 : Int32).toInt = 9 := qI_9
                              have z20 : (20 : Int32).toInt = 20 := qI_20
                              have z4 : (-4 : Int32).toInt = -4 := (by decide)
                              have z10 : (10 : Int32).toInt = 10 := qI_10
                              rw [if_pos (by omega), nI_clamp (by omega), nI_clamp (by omega)]
                              unfold rdR
                              have hno9 := hnow40 (by omega)
                              have hlt9 : j18 / 2 < (tpK (fla kk) lane (flg kk).toInt x1.toInt nn) := (by unfold tpK; rw [if_pos (by first | with_reducible assumption | assumption)]; have q9 := tpM_le9 (z := (flg kk).toInt) (f := x1.toInt) (n := nn) (p := j18 / 2) (by omega) (fun q9 h9 => by rcases hLr with g9 | g9; omega; exact ⟨by omega, by omega⟩); omega)
                              have hI9 := rdI_eq (N := N) (B := B) (a := (fun q8 : Nat => fce (40 * kk + (x1.toInt + 2 * (q8 : Int) + 0).toNat))) (b := (fun q8 : Nat => fce (40 * kk + (x1.toInt + 2 * (q8 : Int) + 1).toNat))) (m := (tpK (fla kk) lane (flg kk).toInt x1.toInt nn)) (p := j18 / 2) (by omega) hL.2.2.2.1 (fun _ h9 => hno9 (by rw [hA9, hB9]; exact h9))
                              rw [hI9, if_pos hlt9, hL.2.1]
                            obtain ⟨hP9, hD9⟩ := va_sub2 (ws' := [(h0, .inr (11, [.ref st, .int (nI N), .int (nI B), .ref rp, .int vrs, .int vrb, .int vhs, .int vca, .int vxs, .int vxb, .ref tp, .int (nI T), .int vfa, .int vbr, .int vba, .int vsp, .int vhe, .int vtk, .int vva, .ref cu, .ref lt, .ref od, .ref th, .ref be, .ref ln, .int (nI S), .ref ma, .int (nI M), .ref ah, .ref bh, .ref ik, .ref la, .ref lg, .ref ce, .int vto])), (st, .inl (G 0, 196, .inl u45)), (la, .inl (G 0, 4, .inl fla)), (lg, .inl (G 0, 4, .inl flg)), (ce, .inl (G 0, 160, .inl fce))]) hP hD [3, 4, 0, 1, 2] (by decide +kernel) rfl
                            refine W.widen (k := 0) (n := 0) (Nat.le_of_ble_eq_true rfl) (Nat.le_of_ble_eq_true rfl) ?_
                            exact W.iret (v := (-20) - y19) hx hb hr (fun t ht hW => ⟨⟨(-20) - y19, (u45, vto), rfl, ⟨hpost, (by clear hpost; have t_b5 := b5; have t_b10 := b10; have t_b14 := b14; have t_hkk := hkk; have t_hnn := hnn; have t_hj24 := hj24; have t_n27 := n27; have t_c28 := eqI c28; have t_c29 := neI c29; have t_c30 := eqI c30; have t_b34 := b34; have t_c35 := eqI c35; have t_n38 := n38; have t_hcx9 := hcx9; have t_hcy9 := hcy9; have t_c42 := nleI c42; have tqz_ := qz8_; have tnb_ := nib9 tn2126_ tn2127_ tn2128_ tn2129_ tn2130_ tn2132_ tn2133_ tn2136_ tn2140_; have tqz_ := qz46_; have z4 : (-4 : Int32).toInt = -4 := (by decide); have z10 : (10 : Int32).toInt = 10 := qI_10; have hno9 := hnow40 (by omega); have hlt9 : j18 / 2 < (tpK (fla kk) lane (flg kk).toInt x1.toInt nn) := (by unfold tpK; rw [if_pos (by first | with_reducible assumption | assumption)]; have q9 := tpM_le9 (z := (flg kk).toInt) (f := x1.toInt) (n := nn) (p := j18 / 2) (by omega) (fun q9 h9 => by rcases hLr with g9 | g9; omega; exact ⟨by omega, by omega⟩); omega); have hI9 := rdI_eq (N := N) (B := B) (a := (fun q8 : Nat => fce (40 * kk + (x1.toInt + 2 * (q8 : Int) + 0).toNat))) (b := (fun q8 : Nat => fce (40 * kk + (x1.toInt + 2 * (q8 : Int) + 1).toNat))) (m := (tpK (fla kk) lane (flg kk).toInt x1.toInt nn)) (p := j18 / 2) (by omega) hL.2.2.2.1 (fun _ h9 => hno9 (by rw [hA9, hB9]; exact h9)); have hz9 : RDJ fst u41 (fun q8 : Nat => fce (40 * kk + (x1.toInt + 2 * (q8 : Int) + 0).toNat)) (fun q8 : Nat => fce (40 * kk + (x1.toInt + 2 * (q8 : Int) + 1).toNat)) (j18 / 2) := (by have e9 := w40x.2; rw [if_neg (hno9)] at e9; rw [e9]; exact hL.2.2.2.2.2); refine ⟨w44.1, (fun x9 h8 _ => by rw [w44.2]; exact hz9.back x9 h8), (fun x9 h9 => by rw [if_pos (by omega), nI_clamp (by omega), nI_clamp (by omega)]; unfold rdF; rw [hI9, if_pos hlt9, w44.2]; exact hz9.back (38 + x9) (by omega))⟩)⟩, ⟨by rw [ht]; exact hP9, hD9⟩⟩, hS.F ht⟩) hS.2.2 dX11_read_188
                    · skip
                      have b46 := if10_n c33
                      refine lv_iconst (v := 2) hx hb dX11_read_121 rfl ?_
                      refine lv_goto (tgt := 126) hx hb dX11_read_122 rfl ?_
                      refine lv_istore (lv' := [(5, .int 2), (7, .int (nI j18)), (6, .int y19), (0, .ref h0), (1, .int (nI kk)), (2, .int lane), (3, .int x1), (4, .int (nI nn))]) hx hb dX11_read_126 hl (by decide) rfl (fun ls hl => ?_)
                      refine lv_iload hx hb dX11_read_128 (lv_at hl 0 rfl) ?_
                      refine lv_if_ne (tgt := 192) hx hb dX11_read_130 rfl (fun c47 => ?_) (fun c47 => ?_)
                      · skip
                        refine lv_iinc (v := nI (j18 + 1)) (lv' := [(7, .int (nI (j18 + 1))), (5, .int 2), (6, .int y19), (0, .ref h0), (1, .int (nI kk)), (2, .int lane), (3, .int x1), (4, .int (nI nn))]) hx hb dX11_read_192 hl (k := 1) rfl (by rw [show Int32.ofInt 1 = nI 1 from by decide]; exact nI_add _ _) (by decide) rfl (fun ls hl => ?_)
                        refine lv_goto (tgt := 56) hx hb dX11_read_195 rfl ?_
                        exact ih56_22 (j18 + 1) (by omega) (by omega) y19 2 g21 _ _ (by have t_b5 := b5; have t_b10 := b10; have t_b14 := b14; have t_hkk := hkk; have t_hnn := hnn; have t_hj24 := hj24; have t_n27 := n27; have t_c28 := eqI c28; have t_c29 := neI c29; have t_c30 := eqI c30; have t_b46 := b46; have t_c47 := neI c47; have tqz_ := qz48_; have tnb_ := nib8 tn2126_ tn2127_ tn2128_ tn2129_ tn2130_ tn2132_ tn2133_ tn2136_; have tqz_ := qz46_; have z4 : (-4 : Int32).toInt = -4 := (by decide); have z10 : (10 : Int32).toInt = 10 := qI_10; have hm : (tpK (fla kk) lane (flg kk).toInt x1.toInt nn) = j18 / 2 := (by unfold tpK; rw [if_pos (by first | with_reducible assumption | assumption)]; exact tpM_eq (by omega) (fun q9 h9 => by rcases hLr with g9 | g9; omega; exact ⟨by omega, by omega⟩) (fun h9 g8 => by rcases hLr with g9 | g9 <;> omega)); rw [hm]; exact Or.inr ⟨by decide, hL.2.1, by omega, hL.2.2.2.1, hL.2.2.2.2.1, hL.2.2.2.2.2⟩) hP hD hS ls (lv_sub hl [0, 2, 1, 3, 4, 5, 6, 7] rfl)
                      · skip
                        exact absurd c47 (by decide)
                  · skip
                    refine lv_iconst (v := 3) hx hb dX11_read_95 rfl ?_
                    refine lv_goto (tgt := 126) hx hb dX11_read_96 rfl ?_
                    refine lv_istore (lv' := [(5, .int 3), (7, .int (nI j18)), (6, .int y19), (0, .ref h0), (1, .int (nI kk)), (2, .int lane), (3, .int x1), (4, .int (nI nn))]) hx hb dX11_read_126 hl (by decide) rfl (fun ls hl => ?_)
                    refine lv_iload hx hb dX11_read_128 (lv_at hl 0 rfl) ?_
                    refine lv_if_ne (tgt := 192) hx hb dX11_read_130 rfl (fun c48 => ?_) (fun c48 => ?_)
                    · skip
                      refine lv_iinc (v := nI (j18 + 1)) (lv' := [(7, .int (nI (j18 + 1))), (5, .int 3), (6, .int y19), (0, .ref h0), (1, .int (nI kk)), (2, .int lane), (3, .int x1), (4, .int (nI nn))]) hx hb dX11_read_192 hl (k := 1) rfl (by rw [show Int32.ofInt 1 = nI 1 from by decide]; exact nI_add _ _) (by decide) rfl (fun ls hl => ?_)
                      refine lv_goto (tgt := 56) hx hb dX11_read_195 rfl ?_
                      exact ih56_22 (j18 + 1) (by omega) (by omega) y19 3 g21 _ _ (by have t_b5 := b5; have t_b10 := b10; have t_b14 := b14; have t_hkk := hkk; have t_hnn := hnn; have t_hj24 := hj24; have t_n27 := n27; have t_c28 := eqI c28; have t_c29 := neI c29; have t_c30 := neI c30; have t_c48 := neI c48; have tqz_ := qz49_; have tnb_ := nib8 tn2126_ tn2127_ tn2128_ tn2129_ tn2130_ tn2132_ tn2133_ tn2136_; have tqz_ := qz46_; have z4 : (-4 : Int32).toInt = -4 := (by decide); have z10 : (10 : Int32).toInt = 10 := qI_10; have hne : ¬ fla kk = lane := (by first | assumption | (intro e9; have e8 : fla kk = -4 := (by first | with_reducible assumption | assumption); rw [e8] at e9; have e7 := congrArg Int32.toInt e9; omega)); have hj0 : j18 = 0 := (by rcases hLr with g9 | g9; exact g9; exact absurd g9.1 hne); have hm : (tpK (fla kk) lane (flg kk).toInt x1.toInt nn) = j18 / 2 := (by unfold tpK; rw [if_neg hne, hj0]); rw [hm]; exact Or.inr ⟨by decide, hL.2.1, by omega, hL.2.2.2.1, hL.2.2.2.2.1, hL.2.2.2.2.2⟩) hP hD hS ls (lv_sub hl [0, 2, 1, 3, 4, 5, 6, 7] rfl)
                    · skip
                      exact absurd c48 (by decide)
                · skip
                  refine lv_iconst (v := 1) hx hb dX11_read_81 rfl ?_
                  refine lv_goto (tgt := 126) hx hb dX11_read_82 rfl ?_
                  refine lv_istore (lv' := [(5, .int 1), (7, .int (nI j18)), (6, .int y19), (0, .ref h0), (1, .int (nI kk)), (2, .int lane), (3, .int x1), (4, .int (nI nn))]) hx hb dX11_read_126 hl (by decide) rfl (fun ls hl => ?_)
                  refine lv_iload hx hb dX11_read_128 (lv_at hl 0 rfl) ?_
                  refine lv_if_ne (tgt := 192) hx hb dX11_read_130 rfl (fun c49 => ?_) (fun c49 => ?_)
                  · skip
                    refine lv_iinc (v := nI (j18 + 1)) (lv' := [(7, .int (nI (j18 + 1))), (5, .int 1), (6, .int y19), (0, .ref h0), (1, .int (nI kk)), (2, .int lane), (3, .int x1), (4, .int (nI nn))]) hx hb dX11_read_192 hl (k := 1) rfl (by rw [show Int32.ofInt 1 = nI 1 from by decide]; exact nI_add _ _) (by decide) rfl (fun ls hl => ?_)
                    refine lv_goto (tgt := 56) hx hb dX11_read_195 rfl ?_
                    exact ih56_22 (j18 + 1) (by omega) (by omega) y19 1 g21 _ _ (by have t_b5 := b5; have t_b10 := b10; have t_b14 := b14; have t_hkk := hkk; have t_hnn := hnn; have t_hj24 := hj24; have t_n27 := n27; have t_c28 := eqI c28; have t_c29 := eqI c29; have t_c49 := neI c49; have tqz_ := qz40_; have tnb_ := nib8 tn2126_ tn2127_ tn2128_ tn2129_ tn2130_ tn2132_ tn2133_ tn2136_; have tqz_ := qz46_; have z4 : (-4 : Int32).toInt = -4 := (by decide); have z10 : (10 : Int32).toInt = 10 := qI_10; have hne : ¬ fla kk = lane := (by first | assumption | (intro e9; have e8 : fla kk = -4 := (by first | with_reducible assumption | assumption); rw [e8] at e9; have e7 := congrArg Int32.toInt e9; omega)); have hj0 : j18 = 0 := (by rcases hLr with g9 | g9; exact g9; exact absurd g9.1 hne); have hm : (tpK (fla kk) lane (flg kk).toInt x1.toInt nn) = j18 / 2 := (by unfold tpK; rw [if_neg hne, hj0]); rw [hm]; exact Or.inr ⟨by decide, hL.2.1, by omega, hL.2.2.2.1, hL.2.2.2.2.1, hL.2.2.2.2.2⟩) hP hD hS ls (lv_sub hl [0, 2, 1, 3, 4, 5, 6, 7] rfl)
                  · skip
                    exact absurd c49 (by decide)
        exact loop56_22 ((2 * nn) + 1) 0 (by omega) (by omega) 0 0 u17 _ _ (Or.inl ⟨by decide, rfl, Or.inl rfl, fun q9 h9 => absurd h9 (Nat.not_lt_zero _), w16.1, (by rw [w16.2]; exact RDJ.zero)⟩) hP hD hS ls (lv_sub hl [0, 1, 2, 3, 4, 5, 6, 7] rfl)
      · skip
        have b50 := if10_n c13
        refine lv_iconst (v := (-1)) hx hb dX11_read_37 rfl ?_
        have hpost : ((-1) : Int32) = if ((0 ≤ k.toInt ∧ k.toInt < 4) ∧ (0 ≤ lane.toInt ∧ lane.toInt ≤ 2) ∧ 0 ≤ n.toInt ∧ n.toInt ≤ 20) then rdR N B (fun q8 : Nat => fce (40 * k.toNatClampNeg + (x1.toInt + 2 * (q8 : Int) + 0).toNat)) (fun q8 : Nat => fce (40 * k.toNatClampNeg + (x1.toInt + 2 * (q8 : Int) + 1).toNat)) (tpK (fla k.toNatClampNeg) lane (flg k.toNatClampNeg).toInt x1.toInt n.toNatClampNeg) else -1 := by
          have t_b5 := b5
          have t_b10 := b10
          have t_b50 := b50
          have t_n0 : (nI N).toInt = (N : Int) := tn2126_ ()
          have t_n1 : (nI B).toInt = (B : Int) := tn2127_ ()
          have t_n2 : (nI T).toInt = (T : Int) := tn2128_ ()
          have t_n3 : (nI S).toInt = (S : Int) := tn2129_ ()
          have t_n4 : (nI M).toInt = (M : Int) := tn2130_ ()
          have z0 : (0 : Int32).toInt = 0 := qI_0
          have z1 : (1 : Int32).toInt = 1 := qI_1
          have z2 : (2 : Int32).toInt = 2 := qI_2
          have z3 : (3 : Int32).toInt = 3 := qI_3
          have z5 : (5 : Int32).toInt = 5 := qI_5
          have z9 : (9 : Int32).toInt = 9 := qI_9
          have z20 : (20 : Int32).toInt = 20 := qI_20
          have z4 : (-4 : Int32).toInt = -4 := (by decide)
          have z10 : (10 : Int32).toInt = 10 := qI_10
          rw [if_neg (by omega)]
        obtain ⟨hP9, hD9⟩ := va_sub2 (ws' := [(h0, .inr (11, [.ref st, .int (nI N), .int (nI B), .ref rp, .int vrs, .int vrb, .int vhs, .int vca, .int vxs, .int vxb, .ref tp, .int (nI T), .int vfa, .int vbr, .int vba, .int vsp, .int vhe, .int vtk, .int vva, .ref cu, .ref lt, .ref od, .ref th, .ref be, .ref ln, .int (nI S), .ref ma, .int (nI M), .ref ah, .ref bh, .ref ik, .ref la, .ref lg, .ref ce, .int vto])), (st, .inl (G 0, 196, .inl fst)), (la, .inl (G 0, 4, .inl fla)), (lg, .inl (G 0, 4, .inl flg)), (ce, .inl (G 0, 160, .inl fce))]) hP hD [0, 1, 2, 3, 4] (by decide +kernel) rfl
        refine W.widen (k := 0) (n := 0) (Nat.le_of_ble_eq_true rfl) (Nat.le_of_ble_eq_true rfl) ?_
        exact W.iret (v := (-1)) hx hb hr (fun t ht hW => ⟨⟨(-1), (fst, vto), rfl, ⟨hpost, ⟨hst, NO.rf.n3, (by have t_b5 := b5; have t_b10 := b10; have t_b50 := b50; have tnb_ := nib5 tn2126_ tn2127_ tn2128_ tn2129_ tn2130_; have tqz_ := qz46_; have z4 : (-4 : Int32).toInt = -4 := (by decide); have z10 : (10 : Int32).toInt = 10 := qI_10; intro x9 h9; rw [if_neg (by omega)])⟩⟩, ⟨by rw [ht]; exact hP9, hD9⟩⟩, hS.F ht⟩) hS.2.2 dX11_read_38

def nrw (L v : Int32) : Int32 := if L = 0 then v.toInt8.toInt32 else if L = 1 then v.toInt16.toInt32 else v
def nrR (L v : Int32) : Int32 := if L = 0 then (v <<< ((24 : Int32) &&& 31)) >>> ((24 : Int32) &&& 31) else if L = 1 then (v <<< ((16 : Int32) &&& 31)) >>> ((16 : Int32) &&& 31) else v
theorem bv_8 (x : BitVec 32) : (x.signExtend 8).signExtend 32 = (x <<< 24).sshiftRight 24 := by
  apply BitVec.eq_of_getLsbD_eq
  intro i hi
  rw [BitVec.getLsbD_signExtend, BitVec.getLsbD_sshiftRight]
  by_cases h : i < 8
  · rw [if_pos h, if_pos (by omega), BitVec.getLsbD_signExtend, if_pos (by omega), BitVec.getLsbD_shiftLeft]
    simp [hi, show 24 + i < 32 by omega, show i < 8 from h, show ¬ 32 ≤ i by omega, show ¬ 24 + i < 24 by omega]
  · rw [if_neg h]
    by_cases g : 24 + i < 32
    · omega
    · rw [if_neg g]
      simp [hi, show ¬ 32 ≤ i by omega, BitVec.msb_eq_getLsbD_last, BitVec.getLsbD_signExtend, BitVec.getElem_signExtend, BitVec.getLsbD_shiftLeft]
theorem bv_16 (x : BitVec 32) : (x.signExtend 16).signExtend 32 = (x <<< 16).sshiftRight 16 := by
  apply BitVec.eq_of_getLsbD_eq
  intro i hi
  rw [BitVec.getLsbD_signExtend, BitVec.getLsbD_sshiftRight]
  by_cases h : i < 16
  · rw [if_pos h, if_pos (by omega), BitVec.getLsbD_signExtend, if_pos (by omega), BitVec.getLsbD_shiftLeft]
    simp [hi, show 16 + i < 32 by omega, show i < 16 from h, show ¬ 32 ≤ i by omega, show ¬ 16 + i < 16 by omega]
  · rw [if_neg h]
    by_cases g : 16 + i < 32
    · omega
    · rw [if_neg g]
      simp [hi, show ¬ 32 ≤ i by omega, BitVec.msb_eq_getLsbD_last, BitVec.getLsbD_signExtend, BitVec.getElem_signExtend, BitVec.getLsbD_shiftLeft]
theorem n_8 (v : Int32) : v.toInt8.toInt32 = (v <<< ((24 : Int32) &&& 31)) >>> ((24 : Int32) &&& 31) := Int32.toBitVec_inj.mp (bv_8 v.toBitVec)
theorem n_16 (v : Int32) : v.toInt16.toInt32 = (v <<< ((16 : Int32) &&& 31)) >>> ((16 : Int32) &&& 31) := Int32.toBitVec_inj.mp (bv_16 v.toBitVec)
theorem nrw_R (L v : Int32) : nrw L v = nrR L v := by
  unfold nrw nrR
  rw [n_8, n_16]
theorem fa0 {a z r : Int32} {v : Int64} (h : r = if a = -1 then 1 else if v.toInt < 0 ∨ z.toInt ≤ v.toInt then 2 else 0) (h0 : r = 0) : ¬ a = -1 ∧ 0 ≤ v.toInt ∧ v.toInt < z.toInt := ⟨tp_ne h h0, (fz0 h h0).1, (fz0 h h0).2⟩
theorem faN {a z r : Int32} {v : Int64} (h : r = if a = -1 then 1 else if v.toInt < 0 ∨ z.toInt ≤ v.toInt then 2 else 0) (h0 : ¬ r = 0) : ¬ (¬ a = -1 ∧ 0 ≤ v.toInt ∧ v.toInt < z.toInt) := by
  intro c
  rw [if_neg c.1, if_neg (by omega)] at h
  exact h0 h
theorem up_z {F : Nat → Nat → Int32} {k j : Nat} : va_up (va_up F k (zpF j (F k))) k (upd ((va_up F k (zpF j (F k))) k) j 0) = va_up F k (zpF (j + 1) (F k)) := by
  funext q
  show (if q = k then upd (if k = k then zpF j (F k) else F k) j 0 else (if q = k then zpF j (F k) else F q)) = (if q = k then zpF (j + 1) (F k) else F q)
  rw [if_pos rfl, zpF_s]
  split
  · rfl
  · rfl
theorem up_0 {F : Nat → Nat → Int32} {k : Nat} : F = va_up F k (zpF 0 (F k)) := by
  funext q
  show F q = (if q = k then zpF 0 (F k) else F q)
  split
  · rename_i e; rw [e]; exact zpF_0
  · rfl
def zpg (k j : Nat) (f : Nat → Int32) : Nat → Int32 := fun q => if 40 * k ≤ q ∧ q < 40 * k + j then 0 else f q
theorem zpg_0 {k : Nat} {f : Nat → Int32} : f = zpg k 0 f := by
  funext q
  show f q = (if 40 * k ≤ q ∧ q < 40 * k + 0 then 0 else f q)
  rw [if_neg (by omega)]
theorem zpg_s {k j : Nat} {f : Nat → Int32} : upd (zpg k j f) (40 * k + j) 0 = zpg k (j + 1) f := by
  funext q
  show (if q = 40 * k + j then 0 else (if 40 * k ≤ q ∧ q < 40 * k + j then 0 else f q)) = (if 40 * k ≤ q ∧ q < 40 * k + (j + 1) then 0 else f q)
  by_cases c : q = 40 * k + j
  · rw [if_pos c, if_pos (by omega)]
  · rw [if_neg c]
    by_cases d : 40 * k ≤ q ∧ q < 40 * k + j
    · rw [if_pos d, if_pos (by omega)]
    · rw [if_neg d, if_neg (by omega)]
def xch (a : Nat → Int32) (i k : Nat) : Nat → Int32 := upd (upd a (38 + i) (a (38 + k))) (38 + k) (a (38 + i))
theorem xch_xch {a : Nat → Int32} {i k : Nat} : xch (xch a i k) i k = a := by
  funext q
  unfold xch upd
  by_cases c : q = 38 + k
  · by_cases d : 38 + i = 38 + k
    · simp [c, d]
    · simp [c, d]
      intro e; rw [e]
  · by_cases d : q = 38 + i
    · simp [c, d]
      intro e n; exact absurd e n
    · simp [c, d]

set_option maxHeartbeats 1000000 in
set_option maxRecDepth 100000 in
theorem c_X6_fillE (l : Launch) (dC : Nat → ClassId) (dI : Nat → Nat → Nat) (G : Nat → ClassId) (sz : Nat) (h0 la si ce fi se k : Nat) (x8 x9 i x1 : Int32) (fl fz : Nat → Int32) (rc : Nat → Nat) (F : Nat → Nat → Int32) (hk : k < 4) (hz : ∀ q : Nat, q < 4 → 0 ≤ (fz q).toInt ∧ (fz q).toInt ≤ 40) : Met l yX6_fill (Cond.code yX6_fill cX6_fill 4 none :: GT) ({ frames := 1, cells := 0, slots := 0, locals := 23 } : Room) (PcW [.ref h0, .int (nI k), .int i, .int x1] dC dI G (([(h0, .inr (6, [.ref la, .ref si, .ref ce, .int x8, .int x9, .ref fi, .ref se])), (la, .inl (G 0, 4, .inl fl)), (si, .inl (G 0, 4, .inl fz)), (ce, .inl (G 4, 4, .inr (.inr (.inr (.inr (fun ir => if ir < 4 then some (rc ir) else none))))))] : va_W) ++ ((((List.range 4).map (fun iq => (rc iq, .inl (G 0, 40, .inl (F iq))))) : va_W) ++ [])) sz) (va_Qv (fun (u : (Nat → Nat → Int32)) => match u with | u0 => u0 = (if (¬ fl k = -1 ∧ 0 ≤ i.toInt ∧ i.toInt < (fz k).toInt) then va_up F k (upd (F k) i.toNatClampNeg (nrw (fl k) x1)) else F)) (fun (u : (Nat → Nat → Int32)) (t : State) => match u with | u0 => va_P (dC, dI) vwCl (([(h0, .inr (6, [.ref la, .ref si, .ref ce, .int x8, .int x9, .ref fi, .ref se])), (la, .inl (G 0, 4, .inl fl)), (si, .inl (G 0, 4, .inl fz)), (ce, .inl (G 4, 4, .inr (.inr (.inr (.inr (fun ir => if ir < 4 then some (rc ir) else none))))))] : va_W) ++ ((((List.range 4).map (fun iq => (rc iq, .inl (G 0, 40, .inl (u0 iq))))) : va_W) ++ [])) t.heap ∧ va_D (va_A (([(h0, .inr (6, [.ref la, .ref si, .ref ce, .int x8, .int x9, .ref fi, .ref se])), (la, .inl (G 0, 4, .inl fl)), (si, .inl (G 0, 4, .inl fz)), (ce, .inl (G 4, 4, .inr (.inr (.inr (.inr (fun ir => if ir < 4 then some (rc ir) else none))))))] : va_W) ++ ((((List.range 4).map (fun iq => (rc iq, .inl (G 0, 40, .inl (F iq))))) : va_W) ++ [])) sz) (([(h0, .inr (6, [.ref la, .ref si, .ref ce, .int x8, .int x9, .ref fi, .ref se])), (la, .inl (G 0, 4, .inl fl)), (si, .inl (G 0, 4, .inl fz)), (ce, .inl (G 4, 4, .inr (.inr (.inr (.inr (fun ir => if ir < 4 then some (rc ir) else none))))))] : va_W) ++ ((((List.range 4).map (fun iq => (rc iq, .inl (G 0, 40, .inl (u0 iq))))) : va_W) ++ []))) (va_A (([(h0, .inr (6, [.ref la, .ref si, .ref ce, .int x8, .int x9, .ref fi, .ref se])), (la, .inl (G 0, 4, .inl fl)), (si, .inl (G 0, 4, .inl fz)), (ce, .inl (G 4, 4, .inr (.inr (.inr (.inr (fun ir => if ir < 4 then some (rc ir) else none))))))] : va_W) ++ ((((List.range 4).map (fun iq => (rc iq, .inl (G 0, 40, .inl (F iq))))) : va_W) ++ [])) sz)) 0 0 (va_A (([(h0, .inr (6, [.ref la, .ref si, .ref ce, .int x8, .int x9, .ref fi, .ref se])), (la, .inl (G 0, 4, .inl fl)), (si, .inl (G 0, 4, .inl fz)), (ce, .inl (G 4, 4, .inr (.inr (.inr (.inr (fun ir => if ir < 4 then some (rc ir) else none))))))] : va_W) ++ ((((List.range 4).map (fun iq => (rc iq, .inl (G 0, 40, .inl (F iq))))) : va_W) ++ [])) sz) := by
  refine Met.ofW (cc := cX6_fill) (maxL := 4) (ret := none) (by decide) rfl ?_
  intro p e s m args below meth c s₁ Bd hml hv
  obtain ⟨rfl, hsz, hP, hK, hD0⟩ := hv
  have hx := Bd.exec
  have hb := Bd.bytes
  have hr := Bd.returns
  have hg : ∀ w ∈ GT, w.before ([.ref h0, .int (nI k), .int i, .int x1] : List Value).toArray s = true := fun w h => atoms_spec (ws := Cond.code yX6_fill cX6_fill 4 none :: GT) Bd.pre w (List.mem_cons_of_mem _ h)
  have hown : s.vm.findClass RX6 = some m.cls := findClass_of_methodNamed Bd.named
  have hlocks := Bd.notSynchronized
  subst hsz
  have hD := hD0.self (sz := s.heap.size)
  generalize hAe : va_A (([(h0, .inr (6, [.ref la, .ref si, .ref ce, .int x8, .int x9, .ref fi, .ref se])), (la, .inl (G 0, 4, .inl fl)), (si, .inl (G 0, 4, .inl fz)), (ce, .inl (G 4, 4, .inr (.inr (.inr (.inr (fun ir => if ir < 4 then some (rc ir) else none))))))] : va_W) ++ ((((List.range 4).map (fun iq => (rc iq, .inl (G 0, 40, .inl (F iq))))) : va_W) ++ [])) s.heap.size = A at hD ⊢
  have hA : ∀ q : Nat, s.heap.size ≤ q → A q := fun q h => by rw [← hAe]; exact Or.inr h
  have hS : va_S A s.heap s.heap [] := va_S.rf
  have hl := lv_entry ([.ref h0, .int (nI k), .int i, .int x1]) (n := 4) (Nat.le_of_ble_eq_true rfl)
  rw [lg_entry_eq]
  generalize (lg_sl ([.ref h0, .int (nI k), .int i, .int x1]) ++ List.replicate (4 - (lg_sl ([.ref h0, .int (nI k), .int i, .int x1])).length) Slot.unset).toArray = ls at hl ⊢
  have hl : lv_has ls 4 [(0, .ref h0), (1, .int (nI k)), (2, .int i), (3, .int x1)] := hl
  have hzk := hz k hk
  have lii := l_ii i
  refine lv_aload_n hx hb dX6_fill_0 rfl (lv_at hl 0 rfl) ?_
  refine lv_iload_n hx hb dX6_fill_1 rfl (lv_at hl 1 rfl) ?_
  refine lv_iload_n hx hb dX6_fill_2 rfl (lv_at hl 2 rfl) ?_
  refine lv_i2l (v := i.toInt64) hx hb dX6_fill_3 rfl ?_
  have hPc := hP.sub (ws' := [(h0, .inr (6, [.ref la, .ref si, .ref ce, .int x8, .int x9, .ref fi, .ref se])), (la, .inl (G 0, 4, .inl fl)), (si, .inl (G 0, 4, .inl fz))]) [0, 1, 2] rfl
  have tn2141_ : nIT k := fun _ => nI_toInt (by omega)
  refine va_calli (va_runV (As := [.int (nI k), .long i.toInt64]) (rest := []) ⟨hx, hb, hml, hown, hg⟩ (c_X6_faultAt l dC dI G _ h0 la si ce fi se k x8 x9 i.toInt64 fl fz hk) (kwV hg mfX6_faultAt wt_846 ⟨Nat.le_of_ble_eq_true rfl, Nat.le_of_ble_eq_true rfl⟩) (preVR hK hPc (ci := 6) (r := (RX6, TX6, 7)) rfl rfl) rfl rfl hl.1 rfl (lv_room (Nat.le_of_ble_eq_true rfl)) dX6_fill_4 ⟨Nat.le_of_ble_eq_true rfl, Nat.le_of_ble_eq_true rfl⟩) hS (fun q h1 h2 => absurd h2 (Nat.not_le.mpr h1)) (fun q h => hA q (Nat.le_trans hS.1 h)) (fun r1 ur1 t H1 locs ht hvm w2 hB hz1 hk1 hS => ?_)
  have hP := keepR hP hk1
  obtain ⟨w2, w2x⟩ := w2
  refine lv_if_ne (tgt := 48) hx hb dX6_fill_7 rfl (fun c3 => ?_) (fun c3 => ?_)
  · skip
    obtain ⟨hP9, hD9⟩ := va_sub2 (ws' := (([(h0, .inr (6, [.ref la, .ref si, .ref ce, .int x8, .int x9, .ref fi, .ref se])), (la, .inl (G 0, 4, .inl fl)), (si, .inl (G 0, 4, .inl fz)), (ce, .inl (G 4, 4, .inr (.inr (.inr (.inr (fun ir => if ir < 4 then some (rc ir) else none))))))] : va_W) ++ ((((List.range 4).map (fun iq => (rc iq, .inl (G 0, 40, .inl (F iq))))) : va_W) ++ []))) hP hD [0, 1, 2, 3, 4, 5, 6, 7] (by decide +kernel) rfl
    refine W.widen (k := 0) (n := 0) (Nat.le_of_ble_eq_true rfl) (Nat.le_of_ble_eq_true rfl) ?_
    exact W.vret hx hb hr (fun t ht hW => ⟨⟨F, rfl, (by have e64 := l_ii i; have q9 := faN w2 (by first | with_reducible assumption | assumption); rw [e64] at q9; rw [if_neg q9]), ⟨by rw [ht]; exact hP9, hD9⟩⟩, hS.F ht⟩) hS.2.2 dX6_fill_48
  · skip
    have b4 := fz0 w2 c3
    refine lv_aload_n hx hb dX6_fill_10 rfl (lv_at hl 0 rfl) ?_
    refine va_get (D := (dC, dI)) (ci := 6) (v := .ref ce) (C := RX6) (T := TX6) (N := 7) hx hb hg inG6 hown hK.1 hP 0 rfl rfl 2 (Nat.le_of_ble_eq_true rfl) (hg _ wt_278) (fun _ h9 => h9) rfl dX6_fill_11 ?_
    refine lv_iload_n hx hb dX6_fill_14 rfl (lv_at hl 1 rfl) ?_
    refine va_aldA hx hb hK.1 hP 3 4 rfl rfl (vp_in_nI (by first | omega | (have t_b4 := b4; have t_n0 : (nI k).toInt = (k : Int) := tn2141_ (); omega)) (by decide)) dX6_fill_15 ?_
    refine lv_cgv (y := .ref (rc k)) (rowref (by first | omega | (have t_b4 := b4; have t_n0 : (nI k).toInt = (k : Int) := tn2141_ (); omega)) (by decide)) ?_
    refine lv_iload_n hx hb dX6_fill_16 rfl (lv_at hl 2 rfl) ?_
    refine lv_aload_n hx hb dX6_fill_17 rfl (lv_at hl 0 rfl) ?_
    refine va_get (D := (dC, dI)) (ci := 6) (v := .ref la) (C := RX6) (T := TX6) (N := 7) hx hb hg inG6 hown hK.1 hP 0 rfl rfl 0 (Nat.le_of_ble_eq_true rfl) (hg _ wt_276) (fun _ h9 => h9) rfl dX6_fill_18 ?_
    refine lv_iload_n hx hb dX6_fill_21 rfl (lv_at hl 1 rfl) ?_
    refine va_iald hx hb hK.1 hP 1 0 rfl rfl (vp_in_nI (by first | omega | (have t_b4 := b4; have t_n0 : (nI k).toInt = (k : Int) := tn2141_ (); omega)) (by decide)) dX6_fill_22 ?_
    refine lv_cg (y := fl k) (by rw [nI_clamp (by omega)]) ?_
    refine lv_if_ne (tgt := 31) hx hb dX6_fill_23 rfl (fun c5 => ?_) (fun c5 => ?_)
    · skip
      refine lv_aload_n hx hb dX6_fill_31 rfl (lv_at hl 0 rfl) ?_
      refine va_get (D := (dC, dI)) (ci := 6) (v := .ref la) (C := RX6) (T := TX6) (N := 7) hx hb hg inG6 hown hK.1 hP 0 rfl rfl 0 (Nat.le_of_ble_eq_true rfl) (hg _ wt_276) (fun _ h9 => h9) rfl dX6_fill_32 ?_
      refine lv_iload_n hx hb dX6_fill_35 rfl (lv_at hl 1 rfl) ?_
      refine va_iald hx hb hK.1 hP 1 0 rfl rfl (vp_in_nI (by first | omega | (have t_b4 := b4; have t_c5 := neI c5; have : (0 : Int32).toInt = 0 := qI_0; have t_n0 : (nI k).toInt = (k : Int) := tn2141_ (); omega)) (by decide)) dX6_fill_36 ?_
      refine lv_cg (y := fl k) (by rw [nI_clamp (by omega)]) ?_
      refine lv_iconst (v := 1) hx hb dX6_fill_37 rfl ?_
      refine lv_icmp_ne (tgt := 46) hx hb dX6_fill_38 rfl (fun c6 => ?_) (fun c6 => ?_)
      · skip
        refine lv_iload_n hx hb dX6_fill_46 rfl (lv_at hl 3 rfl) ?_
        refine va_iastB (j := k) hx hb hK.1 hP hD hS 0 (by first | omega | (have t_b4 := b4; have t_c5 := neI c5; have t_c6 := neI c6; have tqz_ := qz2_; have t_n0 : (nI k).toInt = (k : Int) := tn2141_ (); omega)) rfl (vp_in_iff.mpr (by have t_b4 := b4; have t_c5 := neI c5; have t_c6 := neI c6; have tqz_ := qz2_; have t_n0 : (nI k).toInt = (k : Int) := tn2141_ (); constructor <;> omega)) dX6_fill_47 (fun H locs hP hD hS => ?_)
        obtain ⟨hP, hD⟩ := va_rls (ws' := (([(h0, .inr (6, [.ref la, .ref si, .ref ce, .int x8, .int x9, .ref fi, .ref se])), (la, .inl (G 0, 4, .inl fl)), (si, .inl (G 0, 4, .inl fz)), (ce, .inl (G 4, 4, .inr (.inr (.inr (.inr (fun ir => if ir < 4 then some (rc ir) else none))))))] : va_W) ++ ((((List.range 4).map (fun iq => (rc iq, .inl (G 0, 40, .inl ((va_up F k (upd (F k) i.toNatClampNeg x1)) iq))))) : va_W) ++ []))) hP hD rfl
        have hP9 := hP
        have hD9 := hD
        refine W.widen (k := 0) (n := 0) (Nat.le_of_ble_eq_true rfl) (Nat.le_of_ble_eq_true rfl) ?_
        exact W.vret hx hb hr (fun t ht hW => ⟨⟨(va_up F k (upd (F k) i.toNatClampNeg x1)), rfl, (by have e64 := l_ii i; have q9 := fa0 w2 (by first | with_reducible assumption | assumption); rw [e64] at q9; rw [if_pos q9]; unfold nrw; (try rw [if_pos (by first | with_reducible assumption | assumption)]); (try rw [if_neg (by first | with_reducible assumption | assumption)]); (try rw [if_pos (by first | with_reducible assumption | assumption)]); (try rw [if_neg (by first | with_reducible assumption | assumption)]); first | done | rfl), ⟨by rw [ht]; exact hP9, hD9⟩⟩, hS.F ht⟩) hS.2.2 dX6_fill_48
      · skip
        refine lv_iload_n hx hb dX6_fill_41 rfl (lv_at hl 3 rfl) ?_
        refine lv_i2s (v := _) hx hb dX6_fill_42 rfl ?_
        refine lv_topi (fun v7 ev7 => ?_)
        refine lv_goto (tgt := 47) hx hb dX6_fill_43 rfl ?_
        refine va_iastB (j := k) hx hb hK.1 hP hD hS 0 (by first | omega | (have t_b4 := b4; have t_c5 := neI c5; have t_c6 := eqI c6; have tqz_ := qz2_; have t_n0 : (nI k).toInt = (k : Int) := tn2141_ (); omega)) rfl (vp_in_iff.mpr (by have t_b4 := b4; have t_c5 := neI c5; have t_c6 := eqI c6; have tqz_ := qz2_; have t_n0 : (nI k).toInt = (k : Int) := tn2141_ (); constructor <;> omega)) dX6_fill_47 (fun H locs hP hD hS => ?_)
        obtain ⟨hP, hD⟩ := va_rls (ws' := (([(h0, .inr (6, [.ref la, .ref si, .ref ce, .int x8, .int x9, .ref fi, .ref se])), (la, .inl (G 0, 4, .inl fl)), (si, .inl (G 0, 4, .inl fz)), (ce, .inl (G 4, 4, .inr (.inr (.inr (.inr (fun ir => if ir < 4 then some (rc ir) else none))))))] : va_W) ++ ((((List.range 4).map (fun iq => (rc iq, .inl (G 0, 40, .inl ((va_up F k (upd (F k) i.toNatClampNeg v7)) iq))))) : va_W) ++ []))) hP hD rfl
        have hP9 := hP
        have hD9 := hD
        refine W.widen (k := 0) (n := 0) (Nat.le_of_ble_eq_true rfl) (Nat.le_of_ble_eq_true rfl) ?_
        exact W.vret hx hb hr (fun t ht hW => ⟨⟨(va_up F k (upd (F k) i.toNatClampNeg v7)), rfl, (by have e64 := l_ii i; have q9 := fa0 w2 (by first | with_reducible assumption | assumption); rw [e64] at q9; rw [if_pos q9]; unfold nrw; (try rw [if_pos (by first | with_reducible assumption | assumption)]); (try rw [if_neg (by first | with_reducible assumption | assumption)]); (try rw [if_pos (by first | with_reducible assumption | assumption)]); (try rw [if_neg (by first | with_reducible assumption | assumption)]); (try rw [ev7]); first | done | rfl), ⟨by rw [ht]; exact hP9, hD9⟩⟩, hS.F ht⟩) hS.2.2 dX6_fill_48
    · skip
      refine lv_iload_n hx hb dX6_fill_26 rfl (lv_at hl 3 rfl) ?_
      refine lv_i2b (v := _) hx hb dX6_fill_27 rfl ?_
      refine lv_topi (fun v8 ev8 => ?_)
      refine lv_goto (tgt := 47) hx hb dX6_fill_28 rfl ?_
      refine va_iastB (j := k) hx hb hK.1 hP hD hS 0 (by first | omega | (have t_b4 := b4; have t_c5 := eqI c5; have : (0 : Int32).toInt = 0 := qI_0; have t_n0 : (nI k).toInt = (k : Int) := tn2141_ (); omega)) rfl (vp_in_iff.mpr (by have t_b4 := b4; have t_c5 := eqI c5; have : (0 : Int32).toInt = 0 := qI_0; have t_n0 : (nI k).toInt = (k : Int) := tn2141_ (); constructor <;> omega)) dX6_fill_47 (fun H locs hP hD hS => ?_)
      obtain ⟨hP, hD⟩ := va_rls (ws' := (([(h0, .inr (6, [.ref la, .ref si, .ref ce, .int x8, .int x9, .ref fi, .ref se])), (la, .inl (G 0, 4, .inl fl)), (si, .inl (G 0, 4, .inl fz)), (ce, .inl (G 4, 4, .inr (.inr (.inr (.inr (fun ir => if ir < 4 then some (rc ir) else none))))))] : va_W) ++ ((((List.range 4).map (fun iq => (rc iq, .inl (G 0, 40, .inl ((va_up F k (upd (F k) i.toNatClampNeg v8)) iq))))) : va_W) ++ []))) hP hD rfl
      have hP9 := hP
      have hD9 := hD
      refine W.widen (k := 0) (n := 0) (Nat.le_of_ble_eq_true rfl) (Nat.le_of_ble_eq_true rfl) ?_
      exact W.vret hx hb hr (fun t ht hW => ⟨⟨(va_up F k (upd (F k) i.toNatClampNeg v8)), rfl, (by have e64 := l_ii i; have q9 := fa0 w2 (by first | with_reducible assumption | assumption); rw [e64] at q9; rw [if_pos q9]; unfold nrw; (try rw [if_pos (by first | with_reducible assumption | assumption)]); (try rw [if_neg (by first | with_reducible assumption | assumption)]); (try rw [if_pos (by first | with_reducible assumption | assumption)]); (try rw [if_neg (by first | with_reducible assumption | assumption)]); (try rw [ev8]); first | done | rfl), ⟨by rw [ht]; exact hP9, hD9⟩⟩, hS.F ht⟩) hS.2.2 dX6_fill_48

set_option maxHeartbeats 1000000 in
set_option maxRecDepth 100000 in
theorem c_X6_renewE (l : Launch) (dC : Nat → ClassId) (dI : Nat → Nat → Nat) (G : Nat → ClassId) (sz : Nat) (h0 la si ce fi se k nn : Nat) (x8 x9 x1 : Int32) (fl fz : Nat → Int32) (rc : Nat → Nat) (F : Nat → Nat → Int32) (hk : k < 4) (hnn : nn ≤ 40) : Met l yX6_renew (Cond.code yX6_renew cX6_renew 5 none :: GT) ({ frames := 1, cells := 0, slots := 0, locals := 20 } : Room) (PcW [.ref h0, .int (nI k), .int x1, .int (nI nn)] dC dI G (([(h0, .inr (6, [.ref la, .ref si, .ref ce, .int x8, .int x9, .ref fi, .ref se])), (la, .inl (G 0, 4, .inl fl)), (si, .inl (G 0, 4, .inl fz)), (ce, .inl (G 4, 4, .inr (.inr (.inr (.inr (fun ir => if ir < 4 then some (rc ir) else none))))))] : va_W) ++ ((((List.range 4).map (fun iq => (rc iq, .inl (G 0, 40, .inl (F iq))))) : va_W) ++ [])) sz) (va_Qv (fun (u : (Nat → Nat → Int32) × (Nat → Int32) × (Nat → Int32)) => match u with | (u0, u1, u2) => u1 = upd fl k x1 ∧ u2 = upd fz k (nI nn) ∧ u0 = va_up F k (zpF nn (F k))) (fun (u : (Nat → Nat → Int32) × (Nat → Int32) × (Nat → Int32)) (t : State) => match u with | (u0, u1, u2) => va_P (dC, dI) vwCl (([(h0, .inr (6, [.ref la, .ref si, .ref ce, .int x8, .int x9, .ref fi, .ref se])), (la, .inl (G 0, 4, .inl u1)), (si, .inl (G 0, 4, .inl u2)), (ce, .inl (G 4, 4, .inr (.inr (.inr (.inr (fun ir => if ir < 4 then some (rc ir) else none))))))] : va_W) ++ ((((List.range 4).map (fun iq => (rc iq, .inl (G 0, 40, .inl (u0 iq))))) : va_W) ++ [])) t.heap ∧ va_D (va_A (([(h0, .inr (6, [.ref la, .ref si, .ref ce, .int x8, .int x9, .ref fi, .ref se])), (la, .inl (G 0, 4, .inl fl)), (si, .inl (G 0, 4, .inl fz)), (ce, .inl (G 4, 4, .inr (.inr (.inr (.inr (fun ir => if ir < 4 then some (rc ir) else none))))))] : va_W) ++ ((((List.range 4).map (fun iq => (rc iq, .inl (G 0, 40, .inl (F iq))))) : va_W) ++ [])) sz) (([(h0, .inr (6, [.ref la, .ref si, .ref ce, .int x8, .int x9, .ref fi, .ref se])), (la, .inl (G 0, 4, .inl u1)), (si, .inl (G 0, 4, .inl u2)), (ce, .inl (G 4, 4, .inr (.inr (.inr (.inr (fun ir => if ir < 4 then some (rc ir) else none))))))] : va_W) ++ ((((List.range 4).map (fun iq => (rc iq, .inl (G 0, 40, .inl (u0 iq))))) : va_W) ++ []))) (va_A (([(h0, .inr (6, [.ref la, .ref si, .ref ce, .int x8, .int x9, .ref fi, .ref se])), (la, .inl (G 0, 4, .inl fl)), (si, .inl (G 0, 4, .inl fz)), (ce, .inl (G 4, 4, .inr (.inr (.inr (.inr (fun ir => if ir < 4 then some (rc ir) else none))))))] : va_W) ++ ((((List.range 4).map (fun iq => (rc iq, .inl (G 0, 40, .inl (F iq))))) : va_W) ++ [])) sz)) 0 0 (va_A (([(h0, .inr (6, [.ref la, .ref si, .ref ce, .int x8, .int x9, .ref fi, .ref se])), (la, .inl (G 0, 4, .inl fl)), (si, .inl (G 0, 4, .inl fz)), (ce, .inl (G 4, 4, .inr (.inr (.inr (.inr (fun ir => if ir < 4 then some (rc ir) else none))))))] : va_W) ++ ((((List.range 4).map (fun iq => (rc iq, .inl (G 0, 40, .inl (F iq))))) : va_W) ++ [])) sz) := by
  refine Met.ofW (cc := cX6_renew) (maxL := 5) (ret := none) (by decide) rfl ?_
  intro p e s m args below meth c s₁ Bd hml hv
  obtain ⟨rfl, hsz, hP, hK, hD0⟩ := hv
  have hx := Bd.exec
  have hb := Bd.bytes
  have hr := Bd.returns
  have hg : ∀ w ∈ GT, w.before ([.ref h0, .int (nI k), .int x1, .int (nI nn)] : List Value).toArray s = true := fun w h => atoms_spec (ws := Cond.code yX6_renew cX6_renew 5 none :: GT) Bd.pre w (List.mem_cons_of_mem _ h)
  have hown : s.vm.findClass RX6 = some m.cls := findClass_of_methodNamed Bd.named
  have hlocks := Bd.notSynchronized
  subst hsz
  have hD := hD0.self (sz := s.heap.size)
  generalize hAe : va_A (([(h0, .inr (6, [.ref la, .ref si, .ref ce, .int x8, .int x9, .ref fi, .ref se])), (la, .inl (G 0, 4, .inl fl)), (si, .inl (G 0, 4, .inl fz)), (ce, .inl (G 4, 4, .inr (.inr (.inr (.inr (fun ir => if ir < 4 then some (rc ir) else none))))))] : va_W) ++ ((((List.range 4).map (fun iq => (rc iq, .inl (G 0, 40, .inl (F iq))))) : va_W) ++ [])) s.heap.size = A at hD ⊢
  have hA : ∀ q : Nat, s.heap.size ≤ q → A q := fun q h => by rw [← hAe]; exact Or.inr h
  have hS : va_S A s.heap s.heap [] := va_S.rf
  have hl := lv_entry ([.ref h0, .int (nI k), .int x1, .int (nI nn)]) (n := 5) (Nat.le_of_ble_eq_true rfl)
  rw [lg_entry_eq]
  generalize (lg_sl ([.ref h0, .int (nI k), .int x1, .int (nI nn)]) ++ List.replicate (5 - (lg_sl ([.ref h0, .int (nI k), .int x1, .int (nI nn)])).length) Slot.unset).toArray = ls at hl ⊢
  have hl : lv_has ls 5 [(0, .ref h0), (1, .int (nI k)), (2, .int x1), (3, .int (nI nn))] := hl
  refine lv_iload_n hx hb dX6_renew_0 rfl (lv_at hl 1 rfl) ?_
  have hPc := hP.sub (ws' := []) [] rfl
  refine va_calli (va_runS (As := [.int (nI k)]) (rest := []) ⟨hx, hb, hml, hown, hg⟩ (c_X6_isSheet l dC dI G _ (nI k)) (kwS hg mfX6_isSheet wt_833 ⟨Nat.le_of_ble_eq_true rfl, Nat.le_of_ble_eq_true rfl⟩) (preSR hK hPc) rfl rfl hl.1 rfl (lv_room (Nat.le_of_ble_eq_true rfl)) dX6_renew_1 ⟨Nat.le_of_ble_eq_true rfl, Nat.le_of_ble_eq_true rfl⟩) hS (fun q h1 h2 => absurd h2 (Nat.not_le.mpr h1)) (fun q h => hA q (Nat.le_trans hS.1 h)) (fun r1 ur1 t H1 locs ht hvm w2 hB hz1 hk1 hS => ?_)
  have hP := keepR hP hk1
  obtain ⟨w2, w2x⟩ := w2
  try simp only [l_ii, show (0 : Int32).toInt = 0 from by decide, show (4 : Int32).toInt = 4 from by decide] at w2
  have tn2142_ : nIT k := fun _ => nI_toInt (by omega)
  try rw [show (nI (k)).toInt = ((k : Nat) : Int) from tn2142_ ()] at w2
  have tn2143_ : nIT nn := fun _ => nI_toInt (by omega)
  have w2 : r1 = 1 := w2.trans (if_pos (by have tnb_ := nib2 tn2142_ tn2143_; omega))
  subst w2
  refine lv_if_eq (tgt := 17) hx hb dX6_renew_4 rfl (fun c3 => ?_) (fun c3 => ?_)
  · skip
    exact absurd c3 (by decide)
  · skip
    refine lv_iload_n hx hb dX6_renew_7 rfl (lv_at hl 3 rfl) ?_
    refine lv_if_lt (tgt := 17) hx hb dX6_renew_8 rfl (fun c4 => ?_) (fun c4 => ?_)
    · skip
      have t_c3 := neI c3
      have t_c4 := ltI c4
      have : (0 : Int32).toInt = 0 := qI_0
      have : (1 : Int32).toInt = 1 := qI_1
      have t_n0 : (nI k).toInt = (k : Int) := tn2142_ ()
      have t_n1 : (nI nn).toInt = (nn : Int) := tn2143_ ()
      exfalso; omega
    · skip
      have n5 : 0 ≤ nn := by have t := nltI c4; rw [show (nI (nn)).toInt = ((nn : Nat) : Int) from tn2143_ ()] at t; have : (0 : Int32).toInt = 0 := qI_0; omega
      refine lv_iload_n hx hb dX6_renew_11 rfl (lv_at hl 3 rfl) ?_
      refine lv_bipush (v := 40) hx hb dX6_renew_12 rfl ?_
      refine lv_icmp_le (tgt := 18) hx hb dX6_renew_14 rfl (fun c6 => ?_) (fun c6 => ?_)
      · skip
        have n7 : nn ≤ 40 := by have t := leI c6; rw [show (nI (nn)).toInt = ((nn : Nat) : Int) from tn2143_ ()] at t; have : (40 : Int32).toInt = 40 := qI_40; omega
        refine lv_aload_n hx hb dX6_renew_18 rfl (lv_at hl 0 rfl) ?_
        refine va_get (D := (dC, dI)) (ci := 6) (v := .ref la) (C := RX6) (T := TX6) (N := 7) hx hb hg inG6 hown hK.1 hP 0 rfl rfl 0 (Nat.le_of_ble_eq_true rfl) (hg _ wt_276) (fun _ h9 => h9) rfl dX6_renew_19 ?_
        refine lv_iload_n hx hb dX6_renew_22 rfl (lv_at hl 1 rfl) ?_
        refine lv_iload_n hx hb dX6_renew_23 rfl (lv_at hl 2 rfl) ?_
        refine va_iast hx hb hK.1 hP hD hS 1 0 rfl rfl (vp_in_nI (by first | omega | (have t_c3 := neI c3; have t_n5 := n5; have t_n7 := n7; have tqz_ := qz2_; have tnb_ := nib2 tn2142_ tn2143_; omega)) (by decide)) dX6_renew_24 (fun H locs hP hD hS => ?_)
        rw [nI_clamp (by omega)] at hP hD
        obtain ⟨hP, hD⟩ := va_rls (ws' := (([(h0, .inr (6, [.ref la, .ref si, .ref ce, .int x8, .int x9, .ref fi, .ref se])), (la, .inl (G 0, 4, .inl (upd fl k x1))), (si, .inl (G 0, 4, .inl fz)), (ce, .inl (G 4, 4, .inr (.inr (.inr (.inr (fun ir => if ir < 4 then some (rc ir) else none))))))] : va_W) ++ ((((List.range 4).map (fun iq => (rc iq, .inl (G 0, 40, .inl (F iq))))) : va_W) ++ []))) hP hD rfl
        refine lv_aload_n hx hb dX6_renew_25 rfl (lv_at hl 0 rfl) ?_
        refine va_get (D := (dC, dI)) (ci := 6) (v := .ref si) (C := RX6) (T := TX6) (N := 7) hx hb hg inG6 hown hK.1 hP 0 rfl rfl 1 (Nat.le_of_ble_eq_true rfl) (hg _ wt_277) (fun _ h9 => h9) rfl dX6_renew_26 ?_
        refine lv_iload_n hx hb dX6_renew_29 rfl (lv_at hl 1 rfl) ?_
        refine lv_iload_n hx hb dX6_renew_30 rfl (lv_at hl 3 rfl) ?_
        refine va_iast hx hb hK.1 hP hD hS 2 0 rfl rfl (vp_in_nI (by first | omega | (have t_c3 := neI c3; have t_n5 := n5; have t_n7 := n7; have tqz_ := qz2_; have tnb_ := nib2 tn2142_ tn2143_; omega)) (by decide)) dX6_renew_31 (fun H locs hP hD hS => ?_)
        rw [nI_clamp (by omega)] at hP hD
        obtain ⟨hP, hD⟩ := va_rls (ws' := (([(h0, .inr (6, [.ref la, .ref si, .ref ce, .int x8, .int x9, .ref fi, .ref se])), (la, .inl (G 0, 4, .inl (upd fl k x1))), (si, .inl (G 0, 4, .inl (upd fz k (nI nn)))), (ce, .inl (G 4, 4, .inr (.inr (.inr (.inr (fun ir => if ir < 4 then some (rc ir) else none))))))] : va_W) ++ ((((List.range 4).map (fun iq => (rc iq, .inl (G 0, 40, .inl (F iq))))) : va_W) ++ []))) hP hD rfl
        refine lv_iconst (v := 0) hx hb dX6_renew_32 rfl ?_
        refine lv_istore (lv' := [(4, .int 0), (0, .ref h0), (1, .int (nI k)), (2, .int x1), (3, .int (nI nn))]) hx hb dX6_renew_33 hl (by decide) rfl (fun ls hl => ?_)
        have loop35_10 : ∀ (nf j8 : Nat), nn + 1 ≤ j8 + nf → j8 ≤ nn → ∀ (g9 : Nat → Nat → Int32) (H : Heap) (locs : List Loc), g9 = va_up F k (zpF j8 (F k)) → va_P (dC, dI) vwCl (([(h0, .inr (6, [.ref la, .ref si, .ref ce, .int x8, .int x9, .ref fi, .ref se])), (la, .inl (G 0, 4, .inl (upd fl k x1))), (si, .inl (G 0, 4, .inl (upd fz k (nI nn)))), (ce, .inl (G 4, 4, .inr (.inr (.inr (.inr (fun ir => if ir < 4 then some (rc ir) else none))))))] : va_W) ++ ((((List.range 4).map (fun iq => (rc iq, .inl (G 0, 40, .inl (g9 iq))))) : va_W) ++ [])) H → va_D A (([(h0, .inr (6, [.ref la, .ref si, .ref ce, .int x8, .int x9, .ref fi, .ref se])), (la, .inl (G 0, 4, .inl (upd fl k x1))), (si, .inl (G 0, 4, .inl (upd fz k (nI nn)))), (ce, .inl (G 4, 4, .inr (.inr (.inr (.inr (fun ir => if ir < 4 then some (rc ir) else none))))))] : va_W) ++ ((((List.range 4).map (fun iq => (rc iq, .inl (G 0, 40, .inl (g9 iq))))) : va_W) ++ [])) → va_S A s.heap H locs → ∀ (ls : Array Slot), lv_has ls 5 [(4, .int (nI j8)), (0, .ref h0), (1, .int (nI k)), (2, .int x1), (3, .int (nI nn))] → W p l e (headSpec (Cond.code yX6_renew cX6_renew 5 none :: GT) ({ frames := 1, cells := 0, slots := 0, locals := 20 } : Room)).room s m ([.ref h0, .int (nI k), .int x1, .int (nI nn)] : List Value).toArray below meth c H locs 0 0 (MQ below (va_Qv (fun (u : (Nat → Nat → Int32) × (Nat → Int32) × (Nat → Int32)) => match u with | (u0, u1, u2) => u1 = upd fl k x1 ∧ u2 = upd fz k (nI nn) ∧ u0 = va_up F k (zpF nn (F k))) (fun (u : (Nat → Nat → Int32) × (Nat → Int32) × (Nat → Int32)) (t : State) => match u with | (u0, u1, u2) => va_P (dC, dI) vwCl (([(h0, .inr (6, [.ref la, .ref si, .ref ce, .int x8, .int x9, .ref fi, .ref se])), (la, .inl (G 0, 4, .inl u1)), (si, .inl (G 0, 4, .inl u2)), (ce, .inl (G 4, 4, .inr (.inr (.inr (.inr (fun ir => if ir < 4 then some (rc ir) else none))))))] : va_W) ++ ((((List.range 4).map (fun iq => (rc iq, .inl (G 0, 40, .inl (u0 iq))))) : va_W) ++ [])) t.heap ∧ va_D A (([(h0, .inr (6, [.ref la, .ref si, .ref ce, .int x8, .int x9, .ref fi, .ref se])), (la, .inl (G 0, 4, .inl u1)), (si, .inl (G 0, 4, .inl u2)), (ce, .inl (G 4, 4, .inr (.inr (.inr (.inr (fun ir => if ir < 4 then some (rc ir) else none))))))] : va_W) ++ ((((List.range 4).map (fun iq => (rc iq, .inl (G 0, 40, .inl (u0 iq))))) : va_W) ++ []))) A) ([.ref h0, .int (nI k), .int x1, .int (nI nn)] : List Value).toArray s 0 0 A) (F0 m 35 ls []) := by
          intro nf
          induction nf with
          | zero => intro j8 h1 h2; exact absurd h1 (by omega)
          | succ nf ih35_10 =>
            intro j8 hn11 hj12 g9 H locs hinv hP hD hS ls hl
            refine lv_iload hx hb dX6_renew_35 (lv_at hl 0 rfl) ?_
            refine lv_iload_n hx hb dX6_renew_37 rfl (lv_at hl 4 rfl) ?_
            refine lv_icmp_ge (tgt := 57) hx hb dX6_renew_38 rfl (fun c13 => ?_) (fun c13 => ?_)
            · skip
              have tn2144_ : nIT j8 := fun _ => nI_toInt (by first | omega | (have t := leI c13; omega))
              have n14 : nn ≤ j8 := by have t := leI c13; rw [show (nI (j8)).toInt = ((j8 : Nat) : Int) from tn2144_ ()] at t; rw [show (nI (nn)).toInt = ((nn : Nat) : Int) from tn2143_ ()] at t; omega
              obtain ⟨hP9, hD9⟩ := va_sub2 (ws' := (([(h0, .inr (6, [.ref la, .ref si, .ref ce, .int x8, .int x9, .ref fi, .ref se])), (la, .inl (G 0, 4, .inl (upd fl k x1))), (si, .inl (G 0, 4, .inl (upd fz k (nI nn)))), (ce, .inl (G 4, 4, .inr (.inr (.inr (.inr (fun ir => if ir < 4 then some (rc ir) else none))))))] : va_W) ++ ((((List.range 4).map (fun iq => (rc iq, .inl (G 0, 40, .inl (g9 iq))))) : va_W) ++ []))) hP hD [0, 1, 2, 3, 4, 5, 6, 7] (by decide +kernel) rfl
              refine W.widen (k := 0) (n := 0) (Nat.le_of_ble_eq_true rfl) (Nat.le_of_ble_eq_true rfl) ?_
              exact W.vret hx hb hr (fun t ht hW => ⟨⟨(g9, (upd fl k x1), (upd fz k (nI nn))), rfl, ⟨rfl, rfl, (by have t_c3 := neI c3; have t_n5 := n5; have t_n7 := n7; have t_hj12 := hj12; have t_n14 := n14; have tqz_ := qz2_; have tnb_ := nib3 tn2142_ tn2143_ tn2144_; rw [hinv, show j8 = nn by omega])⟩, ⟨by rw [ht]; exact hP9, hD9⟩⟩, hS.F ht⟩) hS.2.2 dX6_renew_57
            · skip
              have tn2145_ : nIT j8 := fun _ => nI_toInt (by first | omega | (have t := nleI c13; omega))
              have n15 : j8 < nn := by have t := nleI c13; rw [show (nI (j8)).toInt = ((j8 : Nat) : Int) from tn2145_ ()] at t; rw [show (nI (nn)).toInt = ((nn : Nat) : Int) from tn2143_ ()] at t; omega
              refine lv_aload_n hx hb dX6_renew_41 rfl (lv_at hl 1 rfl) ?_
              refine va_get (D := (dC, dI)) (ci := 6) (v := .ref ce) (C := RX6) (T := TX6) (N := 7) hx hb hg inG6 hown hK.1 hP 0 rfl rfl 2 (Nat.le_of_ble_eq_true rfl) (hg _ wt_278) (fun _ h9 => h9) rfl dX6_renew_42 ?_
              refine lv_iload_n hx hb dX6_renew_45 rfl (lv_at hl 2 rfl) ?_
              refine va_aldA hx hb hK.1 hP 3 4 rfl rfl (vp_in_nI (by first | omega | (have t_c3 := neI c3; have t_n5 := n5; have t_n7 := n7; have t_hj12 := hj12; have t_n15 := n15; have tqz_ := qz2_; have tnb_ := nib3 tn2142_ tn2143_ tn2145_; omega)) (by decide)) dX6_renew_46 ?_
              refine lv_cgv (y := .ref (rc k)) (rowref (by first | omega | (have t_c3 := neI c3; have t_n5 := n5; have t_n7 := n7; have t_hj12 := hj12; have t_n15 := n15; have tqz_ := qz2_; have tnb_ := nib3 tn2142_ tn2143_ tn2145_; omega)) (by decide)) ?_
              refine lv_iload hx hb dX6_renew_47 (lv_at hl 0 rfl) ?_
              refine lv_iconst (v := 0) hx hb dX6_renew_49 rfl ?_
              refine va_iastB (j := k) hx hb hK.1 hP hD hS 0 (by first | omega | (have t_c3 := neI c3; have t_n5 := n5; have t_n7 := n7; have t_hj12 := hj12; have t_n15 := n15; have tqz_ := qz2_; have tnb_ := nib3 tn2142_ tn2143_ tn2145_; omega)) rfl (vp_in_nI (by first | omega | (have t_c3 := neI c3; have t_n5 := n5; have t_n7 := n7; have t_hj12 := hj12; have t_n15 := n15; have tqz_ := qz2_; have tnb_ := nib3 tn2142_ tn2143_ tn2145_; omega)) (by decide)) dX6_renew_50 (fun H locs hP hD hS => ?_)
              rw [nI_clamp (by first | omega | (have t_c3 := neI c3; have t_n5 := n5; have t_n7 := n7; have t_hj12 := hj12; have t_n15 := n15; have tqz_ := qz2_; have tnb_ := nib3 tn2142_ tn2143_ tn2145_; omega))] at hP hD
              obtain ⟨hP, hD⟩ := va_rls (ws' := (([(h0, .inr (6, [.ref la, .ref si, .ref ce, .int x8, .int x9, .ref fi, .ref se])), (la, .inl (G 0, 4, .inl (upd fl k x1))), (si, .inl (G 0, 4, .inl (upd fz k (nI nn)))), (ce, .inl (G 4, 4, .inr (.inr (.inr (.inr (fun ir => if ir < 4 then some (rc ir) else none))))))] : va_W) ++ ((((List.range 4).map (fun iq => (rc iq, .inl (G 0, 40, .inl ((va_up g9 k (upd (g9 k) j8 0)) iq))))) : va_W) ++ []))) hP hD rfl
              refine lv_iinc (v := nI (j8 + 1)) (lv' := [(4, .int (nI (j8 + 1))), (0, .ref h0), (1, .int (nI k)), (2, .int x1), (3, .int (nI nn))]) hx hb dX6_renew_51 hl (k := 0) rfl (by rw [show Int32.ofInt 1 = nI 1 from by decide]; exact nI_add _ _) (by decide) rfl (fun ls hl => ?_)
              refine lv_goto (tgt := 35) hx hb dX6_renew_54 rfl ?_
              exact ih35_10 (j8 + 1) (by omega) (by omega) (va_up g9 k (upd (g9 k) j8 0)) _ _ (by rw [hinv]; exact up_z) hP hD hS ls (lv_sub hl [0, 1, 2, 3, 4] rfl)
        exact loop35_10 (nn + 1) 0 (by omega) (by omega) F _ _ up_0 hP hD hS ls (lv_sub hl [0, 1, 2, 3, 4] rfl)
      · skip
        have t_c3 := neI c3
        have t_n5 := n5
        have t_c6 := nleI c6
        have : (0 : Int32).toInt = 0 := qI_0
        have : (1 : Int32).toInt = 1 := qI_1
        have : (40 : Int32).toInt = 40 := qI_40
        have t_n0 : (nI k).toInt = (k : Int) := tn2142_ ()
        have t_n1 : (nI nn).toInt = (nn : Int) := tn2143_ ()
        exfalso; omega

set_option maxHeartbeats 1000000 in
set_option maxRecDepth 100000 in
theorem c_X11_sheetO (l : Launch) (dC : Nat → ClassId) (dI : Nat → Nat → Nat) (G : Nat → ClassId) (sz : Nat) (h0 st N B rp tp T cu lt od th be ln S ma M ah bh ik la lg ce : Nat) (k lane n vrs vrb vhs vca vxs vxb vfa vbr vba vsp vhe vtk vva vto : Int32) (fla : Nat → Int32) (flg : Nat → Int32) (fce : Nat → Int32) (hN : N ≤ 10) (hB : B ≤ 6) (hT : T ≤ 320) (hS0 : S ≤ 8) (hM : M ≤ 6) (hz : ∀ q : Nat, q < 4 → 0 ≤ (flg q).toInt ∧ (flg q).toInt ≤ 40) : Met l yX11_sheet (Cond.code yX11_sheet cX11_sheet 5 (some .int) :: GT) ({ frames := 1, cells := 0, slots := 0, locals := 25 } : Room) (PcW [.ref h0, .int k, .int lane, .int n] dC dI G [(h0, .inr (11, [.ref st, .int (nI N), .int (nI B), .ref rp, .int vrs, .int vrb, .int vhs, .int vca, .int vxs, .int vxb, .ref tp, .int (nI T), .int vfa, .int vbr, .int vba, .int vsp, .int vhe, .int vtk, .int vva, .ref cu, .ref lt, .ref od, .ref th, .ref be, .ref ln, .int (nI S), .ref ma, .int (nI M), .ref ah, .ref bh, .ref ik, .ref la, .ref lg, .ref ce, .int vto])), (la, .inl (G 0, 4, .inl fla)), (lg, .inl (G 0, 4, .inl flg)), (ce, .inl (G 0, 160, .inl fce))] sz) (va_Qi (fun (r : Int32) (u : (Nat → Int32) × (Nat → Int32) × (Nat → Int32)) => match u with | (ola, olg, oce) => (r = if (0 ≤ k.toInt ∧ k.toInt < 4) ∧ (0 ≤ lane.toInt ∧ lane.toInt ≤ 2) ∧ n.toInt ≤ 40 then (if n.toInt < 0 then -14 else 1) else -1) ∧ ((ola = (if ((0 ≤ k.toInt ∧ k.toInt < 4) ∧ (0 ≤ lane.toInt ∧ lane.toInt ≤ 2) ∧ n.toInt ≤ 40 ∧ 0 ≤ n.toInt) then upd fla k.toNatClampNeg lane else fla) ∧ olg = (if ((0 ≤ k.toInt ∧ k.toInt < 4) ∧ (0 ≤ lane.toInt ∧ lane.toInt ≤ 2) ∧ n.toInt ≤ 40 ∧ 0 ≤ n.toInt) then upd flg k.toNatClampNeg n else flg)) ∧ ∀ q : Nat, q < 4 → 0 ≤ (olg q).toInt ∧ (olg q).toInt ≤ 40) ∧ oce = (if ((0 ≤ k.toInt ∧ k.toInt < 4) ∧ (0 ≤ lane.toInt ∧ lane.toInt ≤ 2) ∧ n.toInt ≤ 40 ∧ 0 ≤ n.toInt) then zpg k.toNatClampNeg 40 fce else fce)) (fun (u : (Nat → Int32) × (Nat → Int32) × (Nat → Int32)) (t : State) => match u with | (ola, olg, oce) => va_P (dC, dI) vwCl [(h0, .inr (11, [.ref st, .int (nI N), .int (nI B), .ref rp, .int vrs, .int vrb, .int vhs, .int vca, .int vxs, .int vxb, .ref tp, .int (nI T), .int vfa, .int vbr, .int vba, .int vsp, .int vhe, .int vtk, .int vva, .ref cu, .ref lt, .ref od, .ref th, .ref be, .ref ln, .int (nI S), .ref ma, .int (nI M), .ref ah, .ref bh, .ref ik, .ref la, .ref lg, .ref ce, .int vto])), (la, .inl (G 0, 4, .inl ola)), (lg, .inl (G 0, 4, .inl olg)), (ce, .inl (G 0, 160, .inl oce))] t.heap ∧ va_D (va_A [(h0, .inr (11, [.ref st, .int (nI N), .int (nI B), .ref rp, .int vrs, .int vrb, .int vhs, .int vca, .int vxs, .int vxb, .ref tp, .int (nI T), .int vfa, .int vbr, .int vba, .int vsp, .int vhe, .int vtk, .int vva, .ref cu, .ref lt, .ref od, .ref th, .ref be, .ref ln, .int (nI S), .ref ma, .int (nI M), .ref ah, .ref bh, .ref ik, .ref la, .ref lg, .ref ce, .int vto])), (la, .inl (G 0, 4, .inl fla)), (lg, .inl (G 0, 4, .inl flg)), (ce, .inl (G 0, 160, .inl fce))] sz) [(h0, .inr (11, [.ref st, .int (nI N), .int (nI B), .ref rp, .int vrs, .int vrb, .int vhs, .int vca, .int vxs, .int vxb, .ref tp, .int (nI T), .int vfa, .int vbr, .int vba, .int vsp, .int vhe, .int vtk, .int vva, .ref cu, .ref lt, .ref od, .ref th, .ref be, .ref ln, .int (nI S), .ref ma, .int (nI M), .ref ah, .ref bh, .ref ik, .ref la, .ref lg, .ref ce, .int vto])), (la, .inl (G 0, 4, .inl ola)), (lg, .inl (G 0, 4, .inl olg)), (ce, .inl (G 0, 160, .inl oce))]) (va_A [(h0, .inr (11, [.ref st, .int (nI N), .int (nI B), .ref rp, .int vrs, .int vrb, .int vhs, .int vca, .int vxs, .int vxb, .ref tp, .int (nI T), .int vfa, .int vbr, .int vba, .int vsp, .int vhe, .int vtk, .int vva, .ref cu, .ref lt, .ref od, .ref th, .ref be, .ref ln, .int (nI S), .ref ma, .int (nI M), .ref ah, .ref bh, .ref ik, .ref la, .ref lg, .ref ce, .int vto])), (la, .inl (G 0, 4, .inl fla)), (lg, .inl (G 0, 4, .inl flg)), (ce, .inl (G 0, 160, .inl fce))] sz)) 0 0 (va_A [(h0, .inr (11, [.ref st, .int (nI N), .int (nI B), .ref rp, .int vrs, .int vrb, .int vhs, .int vca, .int vxs, .int vxb, .ref tp, .int (nI T), .int vfa, .int vbr, .int vba, .int vsp, .int vhe, .int vtk, .int vva, .ref cu, .ref lt, .ref od, .ref th, .ref be, .ref ln, .int (nI S), .ref ma, .int (nI M), .ref ah, .ref bh, .ref ik, .ref la, .ref lg, .ref ce, .int vto])), (la, .inl (G 0, 4, .inl fla)), (lg, .inl (G 0, 4, .inl flg)), (ce, .inl (G 0, 160, .inl fce))] sz) := by
  have tn2146_ : nIT N := fun _ => nI_toInt (by omega)
  have tn2147_ : nIT B := fun _ => nI_toInt (by omega)
  have tn2148_ : nIT T := fun _ => nI_toInt (by omega)
  have tn2149_ : nIT S := fun _ => nI_toInt (by omega)
  have tn2150_ : nIT M := fun _ => nI_toInt (by omega)
  refine Met.ofW (cc := cX11_sheet) (maxL := 5) (ret := (some .int)) (by decide) rfl ?_
  intro p e s m args below meth c s₁ Bd hml hv
  obtain ⟨rfl, hsz, hP, hK, hD0⟩ := hv
  have hx := Bd.exec
  have hb := Bd.bytes
  have hr := Bd.returns
  have hg : ∀ w ∈ GT, w.before ([.ref h0, .int k, .int lane, .int n] : List Value).toArray s = true := fun w h => atoms_spec (ws := Cond.code yX11_sheet cX11_sheet 5 (some .int) :: GT) Bd.pre w (List.mem_cons_of_mem _ h)
  have hown : s.vm.findClass RX11 = some m.cls := findClass_of_methodNamed Bd.named
  have hlocks := Bd.notSynchronized
  subst hsz
  have hD := hD0.self (sz := s.heap.size)
  generalize hAe : va_A [(h0, .inr (11, [.ref st, .int (nI N), .int (nI B), .ref rp, .int vrs, .int vrb, .int vhs, .int vca, .int vxs, .int vxb, .ref tp, .int (nI T), .int vfa, .int vbr, .int vba, .int vsp, .int vhe, .int vtk, .int vva, .ref cu, .ref lt, .ref od, .ref th, .ref be, .ref ln, .int (nI S), .ref ma, .int (nI M), .ref ah, .ref bh, .ref ik, .ref la, .ref lg, .ref ce, .int vto])), (la, .inl (G 0, 4, .inl fla)), (lg, .inl (G 0, 4, .inl flg)), (ce, .inl (G 0, 160, .inl fce))] s.heap.size = A at hD ⊢
  have hA : ∀ q : Nat, s.heap.size ≤ q → A q := fun q h => by rw [← hAe]; exact Or.inr h
  have hS : va_S A s.heap s.heap [] := va_S.rf
  have hl := lv_entry ([.ref h0, .int k, .int lane, .int n]) (n := 5) (Nat.le_of_ble_eq_true rfl)
  rw [lg_entry_eq]
  generalize (lg_sl ([.ref h0, .int k, .int lane, .int n]) ++ List.replicate (5 - (lg_sl ([.ref h0, .int k, .int lane, .int n])).length) Slot.unset).toArray = ls at hl ⊢
  have hl : lv_has ls 5 [(0, .ref h0), (1, .int k), (2, .int lane), (3, .int n)] := hl
  refine lv_iload_n hx hb dX11_sheet_0 rfl (lv_at hl 1 rfl) ?_
  refine lv_i2l (v := k.toInt64) hx hb dX11_sheet_1 rfl ?_
  refine lv_lconst (v := 0) hx hb dX11_sheet_2 (by decide) ?_
  refine lv_ldc2 (v := 3) hx hb hown (hg _ wt_1023) dX11_sheet_3 ?_
  have hPc := hP.sub (ws' := []) [] rfl
  refine va_calli (va_runS (As := [.long k.toInt64, .long 0, .long 3]) (rest := []) ⟨hx, hb, hml, hown, hg⟩ (c_X11_in l dC dI G _ k.toInt64 0 3) (kwS hg mfX11_in wt_992 ⟨Nat.le_of_ble_eq_true rfl, Nat.le_of_ble_eq_true rfl⟩) (preSR hK hPc) rfl rfl hl.1 rfl (lv_room (Nat.le_of_ble_eq_true rfl)) dX11_sheet_6 ⟨Nat.le_of_ble_eq_true rfl, Nat.le_of_ble_eq_true rfl⟩) hS (fun q h1 h2 => absurd h2 (Nat.not_le.mpr h1)) (fun q h => hA q (Nat.le_trans hS.1 h)) (fun r1 ur1 t H1 locs ht hvm w2 hB hz1 hk1 hS => ?_)
  have hP := keepR hP hk1
  obtain ⟨w2, w2x⟩ := w2
  try simp only [l_ii, show (0 : Int64).toInt = 0 from by decide, show (3 : Int64).toInt = 3 from by decide] at w2
  subst w2
  refine lv_if_eq (tgt := 30) hx hb dX11_sheet_9 rfl (fun c3 => ?_) (fun c3 => ?_)
  · skip
    have b4 := if10_n c3
    refine lv_iconst (v := (-1)) hx hb dX11_sheet_30 rfl ?_
    have hpost : ((-1) : Int32) = if (0 ≤ k.toInt ∧ k.toInt < 4) ∧ (0 ≤ lane.toInt ∧ lane.toInt ≤ 2) ∧ n.toInt ≤ 40 then (if n.toInt < 0 then -14 else 1) else -1 := by
      have t_b4 := b4
      have t_n0 : (nI N).toInt = (N : Int) := tn2146_ ()
      have t_n1 : (nI B).toInt = (B : Int) := tn2147_ ()
      have t_n2 : (nI T).toInt = (T : Int) := tn2148_ ()
      have t_n3 : (nI S).toInt = (S : Int) := tn2149_ ()
      have t_n4 : (nI M).toInt = (M : Int) := tn2150_ ()
      first | rfl | ((repeat' split) <;> first | rfl | omega)
    obtain ⟨hP9, hD9⟩ := va_sub2 (ws' := [(h0, .inr (11, [.ref st, .int (nI N), .int (nI B), .ref rp, .int vrs, .int vrb, .int vhs, .int vca, .int vxs, .int vxb, .ref tp, .int (nI T), .int vfa, .int vbr, .int vba, .int vsp, .int vhe, .int vtk, .int vva, .ref cu, .ref lt, .ref od, .ref th, .ref be, .ref ln, .int (nI S), .ref ma, .int (nI M), .ref ah, .ref bh, .ref ik, .ref la, .ref lg, .ref ce, .int vto])), (la, .inl (G 0, 4, .inl fla)), (lg, .inl (G 0, 4, .inl flg)), (ce, .inl (G 0, 160, .inl fce))]) hP hD [0, 1, 2, 3] (by decide +kernel) rfl
    refine W.widen (k := 0) (n := 0) (Nat.le_of_ble_eq_true rfl) (Nat.le_of_ble_eq_true rfl) ?_
    exact W.iret (v := (-1)) hx hb hr (fun t ht hW => ⟨⟨(-1), (fla, flg, fce), rfl, ⟨hpost, ⟨(by have t_b4 := b4; have tnb_ := nib5 tn2146_ tn2147_ tn2148_ tn2149_ tn2150_; refine ⟨⟨?_, ?_⟩, hz⟩ <;> rw [if_neg (by omega)]), (by have t_b4 := b4; have tnb_ := nib5 tn2146_ tn2147_ tn2148_ tn2149_ tn2150_; rw [if_neg (by omega)])⟩⟩, ⟨by rw [ht]; exact hP9, hD9⟩⟩, hS.F ht⟩) hS.2.2 dX11_sheet_31
  · skip
    have b5 := if10_p c3
    refine lv_iload_n hx hb dX11_sheet_12 rfl (lv_at hl 2 rfl) ?_
    refine lv_i2l (v := lane.toInt64) hx hb dX11_sheet_13 rfl ?_
    refine lv_lconst (v := 0) hx hb dX11_sheet_14 (by decide) ?_
    refine lv_ldc2 (v := 2) hx hb hown (hg _ wt_1056) dX11_sheet_15 ?_
    have hPc := hP.sub (ws' := []) [] rfl
    refine va_calli (va_runS (As := [.long lane.toInt64, .long 0, .long 2]) (rest := []) ⟨hx, hb, hml, hown, hg⟩ (c_X11_in l dC dI G _ lane.toInt64 0 2) (kwS hg mfX11_in wt_992 ⟨Nat.le_of_ble_eq_true rfl, Nat.le_of_ble_eq_true rfl⟩) (preSR hK hPc) rfl rfl hl.1 rfl (lv_room (Nat.le_of_ble_eq_true rfl)) dX11_sheet_18 ⟨Nat.le_of_ble_eq_true rfl, Nat.le_of_ble_eq_true rfl⟩) hS (fun q h1 h2 => absurd h2 (Nat.not_le.mpr h1)) (fun q h => hA q (Nat.le_trans hS.1 h)) (fun r6 ur6 t H1 locs ht hvm w7 hB hz1 hk1 hS => ?_)
    have hP := keepR hP hk1
    obtain ⟨w7, w7x⟩ := w7
    try simp only [l_ii, show (0 : Int64).toInt = 0 from by decide, show (2 : Int64).toInt = 2 from by decide] at w7
    subst w7
    refine lv_if_eq (tgt := 30) hx hb dX11_sheet_21 rfl (fun c8 => ?_) (fun c8 => ?_)
    · skip
      have b9 := if10_n c8
      refine lv_iconst (v := (-1)) hx hb dX11_sheet_30 rfl ?_
      have hpost : ((-1) : Int32) = if (0 ≤ k.toInt ∧ k.toInt < 4) ∧ (0 ≤ lane.toInt ∧ lane.toInt ≤ 2) ∧ n.toInt ≤ 40 then (if n.toInt < 0 then -14 else 1) else -1 := by
        have t_b5 := b5
        have t_b9 := b9
        have t_n0 : (nI N).toInt = (N : Int) := tn2146_ ()
        have t_n1 : (nI B).toInt = (B : Int) := tn2147_ ()
        have t_n2 : (nI T).toInt = (T : Int) := tn2148_ ()
        have t_n3 : (nI S).toInt = (S : Int) := tn2149_ ()
        have t_n4 : (nI M).toInt = (M : Int) := tn2150_ ()
        first | rfl | ((repeat' split) <;> first | rfl | omega)
      obtain ⟨hP9, hD9⟩ := va_sub2 (ws' := [(h0, .inr (11, [.ref st, .int (nI N), .int (nI B), .ref rp, .int vrs, .int vrb, .int vhs, .int vca, .int vxs, .int vxb, .ref tp, .int (nI T), .int vfa, .int vbr, .int vba, .int vsp, .int vhe, .int vtk, .int vva, .ref cu, .ref lt, .ref od, .ref th, .ref be, .ref ln, .int (nI S), .ref ma, .int (nI M), .ref ah, .ref bh, .ref ik, .ref la, .ref lg, .ref ce, .int vto])), (la, .inl (G 0, 4, .inl fla)), (lg, .inl (G 0, 4, .inl flg)), (ce, .inl (G 0, 160, .inl fce))]) hP hD [0, 1, 2, 3] (by decide +kernel) rfl
      refine W.widen (k := 0) (n := 0) (Nat.le_of_ble_eq_true rfl) (Nat.le_of_ble_eq_true rfl) ?_
      exact W.iret (v := (-1)) hx hb hr (fun t ht hW => ⟨⟨(-1), (fla, flg, fce), rfl, ⟨hpost, ⟨(by have t_b5 := b5; have t_b9 := b9; have tnb_ := nib5 tn2146_ tn2147_ tn2148_ tn2149_ tn2150_; refine ⟨⟨?_, ?_⟩, hz⟩ <;> rw [if_neg (by omega)]), (by have t_b5 := b5; have t_b9 := b9; have tnb_ := nib5 tn2146_ tn2147_ tn2148_ tn2149_ tn2150_; rw [if_neg (by omega)])⟩⟩, ⟨by rw [ht]; exact hP9, hD9⟩⟩, hS.F ht⟩) hS.2.2 dX11_sheet_31
    · skip
      have b10 := if10_p c8
      refine lv_iload_n hx hb dX11_sheet_24 rfl (lv_at hl 3 rfl) ?_
      refine lv_bipush (v := 40) hx hb dX11_sheet_25 rfl ?_
      refine lv_icmp_le (tgt := 32) hx hb dX11_sheet_27 rfl (fun c11 => ?_) (fun c11 => ?_)
      · skip
        refine lv_iload_n hx hb dX11_sheet_32 rfl (lv_at hl 3 rfl) ?_
        refine lv_if_ge (tgt := 39) hx hb dX11_sheet_33 rfl (fun c12 => ?_) (fun c12 => ?_)
        · skip
          obtain ⟨kk, hkk, rfl⟩ : ∃ j : Nat, j < 4 ∧ k = nI j := by
            have t_b5 := b5
            have t_b10 := b10
            have t_c11 := leI c11
            have t_c12 := leI c12
            have : (0 : Int32).toInt = 0 := qI_0
            have : (40 : Int32).toInt = 40 := qI_40
            have t_n0 : (nI N).toInt = (N : Int) := tn2146_ ()
            have t_n1 : (nI B).toInt = (B : Int) := tn2147_ ()
            have t_n2 : (nI T).toInt = (T : Int) := tn2148_ ()
            have t_n3 : (nI S).toInt = (S : Int) := tn2149_ ()
            have t_n4 : (nI M).toInt = (M : Int) := tn2150_ ()
            exact i32_nat (by omega) (by omega)
          obtain ⟨nn, hnn, rfl⟩ : ∃ j : Nat, j < 41 ∧ n = nI j := by
            have t_b5 := b5
            have t_b10 := b10
            have t_c11 := leI c11
            have t_c12 := leI c12
            have t_hkk := hkk
            have : (0 : Int32).toInt = 0 := qI_0
            have : (40 : Int32).toInt = 40 := qI_40
            have t_n0 : (nI N).toInt = (N : Int) := tn2146_ ()
            have t_n1 : (nI B).toInt = (B : Int) := tn2147_ ()
            have t_n2 : (nI T).toInt = (T : Int) := tn2148_ ()
            have t_n3 : (nI S).toInt = (S : Int) := tn2149_ ()
            have t_n4 : (nI M).toInt = (M : Int) := tn2150_ ()
            have tn2151_ : nIT kk := fun _ => nI_toInt (by omega)
            have t_n5 : (nI kk).toInt = (kk : Int) := tn2151_ ()
            exact i32_nat (by omega) (by omega)
          refine lv_aload_n hx hb dX11_sheet_39 rfl (lv_at hl 0 rfl) ?_
          refine va_get (D := (dC, dI)) (ci := 11) (v := .ref la) (C := RX11) (T := TX11) (N := 35) hx hb hg inG11 hown hK.1 hP 0 rfl rfl 31 (Nat.le_of_ble_eq_true rfl) (hg _ wt_909) (fun _ h9 => h9) rfl dX11_sheet_40 ?_
          refine lv_iload_n hx hb dX11_sheet_43 rfl (lv_at hl 1 rfl) ?_
          refine lv_iload_n hx hb dX11_sheet_44 rfl (lv_at hl 2 rfl) ?_
          have tn2152_ : nIT kk := fun _ => nI_toInt (by first | omega | (have t_b5 := b5; have t_b10 := b10; have t_c11 := leI c11; have t_c12 := leI c12; have t_hkk := hkk; have t_hnn := hnn; have tqz_ := qz11_; omega))
          have tn2153_ : nIT nn := fun _ => nI_toInt (by first | omega | (have t_b5 := b5; have t_b10 := b10; have t_c11 := leI c11; have t_c12 := leI c12; have t_hkk := hkk; have t_hnn := hnn; have tqz_ := qz11_; omega))
          refine va_iast hx hb hK.1 hP hD hS 1 0 rfl rfl (vp_in_nI (by first | omega | (have t_b5 := b5; have t_b10 := b10; have t_c11 := leI c11; have t_c12 := leI c12; have t_hkk := hkk; have t_hnn := hnn; have tqz_ := qz11_; have tnb_ := nib7 tn2146_ tn2147_ tn2148_ tn2149_ tn2150_ tn2152_ tn2153_; omega)) (by decide)) dX11_sheet_45 (fun H locs hP hD hS => ?_)
          rw [nI_clamp (by omega)] at hP hD
          refine lv_aload_n hx hb dX11_sheet_46 rfl (lv_at hl 0 rfl) ?_
          refine va_get (D := (dC, dI)) (ci := 11) (v := .ref lg) (C := RX11) (T := TX11) (N := 35) hx hb hg inG11 hown hK.1 hP 0 rfl rfl 32 (Nat.le_of_ble_eq_true rfl) (hg _ wt_910) (fun _ h9 => h9) rfl dX11_sheet_47 ?_
          refine lv_iload_n hx hb dX11_sheet_50 rfl (lv_at hl 1 rfl) ?_
          refine lv_iload_n hx hb dX11_sheet_51 rfl (lv_at hl 3 rfl) ?_
          refine va_iast hx hb hK.1 hP hD hS 2 0 rfl rfl (vp_in_nI (by first | omega | (have t_b5 := b5; have t_b10 := b10; have t_c11 := leI c11; have t_c12 := leI c12; have t_hkk := hkk; have t_hnn := hnn; have tqz_ := qz11_; have tnb_ := nib7 tn2146_ tn2147_ tn2148_ tn2149_ tn2150_ tn2152_ tn2153_; omega)) (by decide)) dX11_sheet_52 (fun H locs hP hD hS => ?_)
          rw [nI_clamp (by omega)] at hP hD
          refine lv_iconst (v := 0) hx hb dX11_sheet_53 rfl ?_
          refine lv_istore (lv' := [(4, .int 0), (0, .ref h0), (1, .int (nI kk)), (2, .int lane), (3, .int (nI nn))]) hx hb dX11_sheet_54 hl (by decide) rfl (fun ls hl => ?_)
          have loop56_15 : ∀ (nf j13 : Nat), 40 + 1 ≤ j13 + nf → j13 ≤ 40 → ∀ (g14 : Nat → Int32) (H : Heap) (locs : List Loc), g14 = zpg kk j13 fce → va_P (dC, dI) vwCl [(h0, .inr (11, [.ref st, .int (nI N), .int (nI B), .ref rp, .int vrs, .int vrb, .int vhs, .int vca, .int vxs, .int vxb, .ref tp, .int (nI T), .int vfa, .int vbr, .int vba, .int vsp, .int vhe, .int vtk, .int vva, .ref cu, .ref lt, .ref od, .ref th, .ref be, .ref ln, .int (nI S), .ref ma, .int (nI M), .ref ah, .ref bh, .ref ik, .ref la, .ref lg, .ref ce, .int vto])), (la, .inl (G 0, 4, .inl (upd fla kk lane))), (lg, .inl (G 0, 4, .inl (upd flg kk (nI nn)))), (ce, .inl (G 0, 160, .inl g14))] H → va_D A [(h0, .inr (11, [.ref st, .int (nI N), .int (nI B), .ref rp, .int vrs, .int vrb, .int vhs, .int vca, .int vxs, .int vxb, .ref tp, .int (nI T), .int vfa, .int vbr, .int vba, .int vsp, .int vhe, .int vtk, .int vva, .ref cu, .ref lt, .ref od, .ref th, .ref be, .ref ln, .int (nI S), .ref ma, .int (nI M), .ref ah, .ref bh, .ref ik, .ref la, .ref lg, .ref ce, .int vto])), (la, .inl (G 0, 4, .inl (upd fla kk lane))), (lg, .inl (G 0, 4, .inl (upd flg kk (nI nn)))), (ce, .inl (G 0, 160, .inl g14))] → va_S A s.heap H locs → ∀ (ls : Array Slot), lv_has ls 5 [(4, .int (nI j13)), (0, .ref h0), (1, .int (nI kk)), (2, .int lane), (3, .int (nI nn))] → W p l e (headSpec (Cond.code yX11_sheet cX11_sheet 5 (some .int) :: GT) ({ frames := 1, cells := 0, slots := 0, locals := 25 } : Room)).room s m ([.ref h0, .int (nI kk), .int lane, .int (nI nn)] : List Value).toArray below meth c H locs 0 0 (MQ below (va_Qi (fun (r : Int32) (u : (Nat → Int32) × (Nat → Int32) × (Nat → Int32)) => match u with | (ola, olg, oce) => (r = if (0 ≤ (nI kk).toInt ∧ (nI kk).toInt < 4) ∧ (0 ≤ lane.toInt ∧ lane.toInt ≤ 2) ∧ (nI nn).toInt ≤ 40 then (if (nI nn).toInt < 0 then -14 else 1) else -1) ∧ ((ola = (if ((0 ≤ (nI kk).toInt ∧ (nI kk).toInt < 4) ∧ (0 ≤ lane.toInt ∧ lane.toInt ≤ 2) ∧ (nI nn).toInt ≤ 40 ∧ 0 ≤ (nI nn).toInt) then upd fla (nI kk).toNatClampNeg lane else fla) ∧ olg = (if ((0 ≤ (nI kk).toInt ∧ (nI kk).toInt < 4) ∧ (0 ≤ lane.toInt ∧ lane.toInt ≤ 2) ∧ (nI nn).toInt ≤ 40 ∧ 0 ≤ (nI nn).toInt) then upd flg (nI kk).toNatClampNeg (nI nn) else flg)) ∧ ∀ q : Nat, q < 4 → 0 ≤ (olg q).toInt ∧ (olg q).toInt ≤ 40) ∧ oce = (if ((0 ≤ (nI kk).toInt ∧ (nI kk).toInt < 4) ∧ (0 ≤ lane.toInt ∧ lane.toInt ≤ 2) ∧ (nI nn).toInt ≤ 40 ∧ 0 ≤ (nI nn).toInt) then zpg (nI kk).toNatClampNeg 40 fce else fce)) (fun (u : (Nat → Int32) × (Nat → Int32) × (Nat → Int32)) (t : State) => match u with | (ola, olg, oce) => va_P (dC, dI) vwCl [(h0, .inr (11, [.ref st, .int (nI N), .int (nI B), .ref rp, .int vrs, .int vrb, .int vhs, .int vca, .int vxs, .int vxb, .ref tp, .int (nI T), .int vfa, .int vbr, .int vba, .int vsp, .int vhe, .int vtk, .int vva, .ref cu, .ref lt, .ref od, .ref th, .ref be, .ref ln, .int (nI S), .ref ma, .int (nI M), .ref ah, .ref bh, .ref ik, .ref la, .ref lg, .ref ce, .int vto])), (la, .inl (G 0, 4, .inl ola)), (lg, .inl (G 0, 4, .inl olg)), (ce, .inl (G 0, 160, .inl oce))] t.heap ∧ va_D A [(h0, .inr (11, [.ref st, .int (nI N), .int (nI B), .ref rp, .int vrs, .int vrb, .int vhs, .int vca, .int vxs, .int vxb, .ref tp, .int (nI T), .int vfa, .int vbr, .int vba, .int vsp, .int vhe, .int vtk, .int vva, .ref cu, .ref lt, .ref od, .ref th, .ref be, .ref ln, .int (nI S), .ref ma, .int (nI M), .ref ah, .ref bh, .ref ik, .ref la, .ref lg, .ref ce, .int vto])), (la, .inl (G 0, 4, .inl ola)), (lg, .inl (G 0, 4, .inl olg)), (ce, .inl (G 0, 160, .inl oce))]) A) ([.ref h0, .int (nI kk), .int lane, .int (nI nn)] : List Value).toArray s 0 0 A) (F0 m 56 ls []) := by
            intro nf
            induction nf with
            | zero => intro j13 h1 h2; exact absurd h1 (by omega)
            | succ nf ih56_15 =>
              intro j13 hn16 hj17 g14 H locs hinv hP hD hS ls hl
              refine lv_iload hx hb dX11_sheet_56 (lv_at hl 0 rfl) ?_
              refine lv_bipush (v := 40) hx hb dX11_sheet_58 rfl ?_
              refine lv_icmp_ge (tgt := 82) hx hb dX11_sheet_60 rfl (fun c18 => ?_) (fun c18 => ?_)
              · skip
                have tn2154_ : nIT j13 := fun _ => nI_toInt (by first | omega | (have t := leI c18; omega))
                have n19 : 40 ≤ j13 := by have t := leI c18; rw [show (nI (j13)).toInt = ((j13 : Nat) : Int) from tn2154_ ()] at t; have : (40 : Int32).toInt = 40 := qI_40; omega
                refine lv_iconst (v := 1) hx hb dX11_sheet_82 rfl ?_
                have hpost : (1 : Int32) = if (0 ≤ (nI kk).toInt ∧ (nI kk).toInt < 4) ∧ (0 ≤ lane.toInt ∧ lane.toInt ≤ 2) ∧ (nI nn).toInt ≤ 40 then (if (nI nn).toInt < 0 then -14 else 1) else -1 := by
                  have t_b5 := b5
                  have t_b10 := b10
                  have t_c11 := leI c11
                  have t_c12 := leI c12
                  have t_hkk := hkk
                  have t_hnn := hnn
                  have t_hj17 := hj17
                  have t_n19 := n19
                  have : (0 : Int32).toInt = 0 := qI_0
                  have : (40 : Int32).toInt = 40 := qI_40
                  have t_n0 : (nI N).toInt = (N : Int) := tn2146_ ()
                  have t_n1 : (nI B).toInt = (B : Int) := tn2147_ ()
                  have t_n2 : (nI T).toInt = (T : Int) := tn2148_ ()
                  have t_n3 : (nI S).toInt = (S : Int) := tn2149_ ()
                  have t_n4 : (nI M).toInt = (M : Int) := tn2150_ ()
                  have t_n5 : (nI kk).toInt = (kk : Int) := tn2152_ ()
                  have t_n6 : (nI nn).toInt = (nn : Int) := tn2153_ ()
                  have t_n7 : (nI j13).toInt = (j13 : Int) := tn2154_ ()
                  first | rfl | ((repeat' split) <;> first | rfl | omega)
                obtain ⟨hP9, hD9⟩ := va_sub2 (ws' := [(h0, .inr (11, [.ref st, .int (nI N), .int (nI B), .ref rp, .int vrs, .int vrb, .int vhs, .int vca, .int vxs, .int vxb, .ref tp, .int (nI T), .int vfa, .int vbr, .int vba, .int vsp, .int vhe, .int vtk, .int vva, .ref cu, .ref lt, .ref od, .ref th, .ref be, .ref ln, .int (nI S), .ref ma, .int (nI M), .ref ah, .ref bh, .ref ik, .ref la, .ref lg, .ref ce, .int vto])), (la, .inl (G 0, 4, .inl (upd fla kk lane))), (lg, .inl (G 0, 4, .inl (upd flg kk (nI nn)))), (ce, .inl (G 0, 160, .inl g14))]) hP hD [0, 1, 2, 3] (by decide +kernel) rfl
                refine W.widen (k := 0) (n := 0) (Nat.le_of_ble_eq_true rfl) (Nat.le_of_ble_eq_true rfl) ?_
                exact W.iret (v := 1) hx hb hr (fun t ht hW => ⟨⟨1, ((upd fla kk lane), (upd flg kk (nI nn)), g14), rfl, ⟨hpost, ⟨(by have t_b5 := b5; have t_b10 := b10; have t_c11 := leI c11; have t_c12 := leI c12; have t_hkk := hkk; have t_hnn := hnn; have t_hj17 := hj17; have t_n19 := n19; have tqz_ := qz11_; have tnb_ := nib8 tn2146_ tn2147_ tn2148_ tn2149_ tn2150_ tn2152_ tn2153_ tn2154_; refine ⟨⟨?_, ?_⟩, hz_upd hz (by omega)⟩ <;> rw [if_pos (by omega), nI_clamp (by omega)]), (by have t_b5 := b5; have t_b10 := b10; have t_c11 := leI c11; have t_c12 := leI c12; have t_hkk := hkk; have t_hnn := hnn; have t_hj17 := hj17; have t_n19 := n19; have tqz_ := qz11_; have tnb_ := nib8 tn2146_ tn2147_ tn2148_ tn2149_ tn2150_ tn2152_ tn2153_ tn2154_; rw [if_pos (by omega), nI_clamp (by omega), hinv, show j13 = 40 by omega])⟩⟩, ⟨by rw [ht]; exact hP9, hD9⟩⟩, hS.F ht⟩) hS.2.2 dX11_sheet_83
              · skip
                have tn2155_ : nIT j13 := fun _ => nI_toInt (by first | omega | (have t := nleI c18; omega))
                have n20 : j13 < 40 := by have t := nleI c18; rw [show (nI (j13)).toInt = ((j13 : Nat) : Int) from tn2155_ ()] at t; have : (40 : Int32).toInt = 40 := qI_40; omega
                refine lv_aload_n hx hb dX11_sheet_63 rfl (lv_at hl 1 rfl) ?_
                refine va_get (D := (dC, dI)) (ci := 11) (v := .ref ce) (C := RX11) (T := TX11) (N := 35) hx hb hg inG11 hown hK.1 hP 0 rfl rfl 33 (Nat.le_of_ble_eq_true rfl) (hg _ wt_911) (fun _ h9 => h9) rfl dX11_sheet_64 ?_
                refine lv_bipush (v := 40) hx hb dX11_sheet_67 rfl ?_
                refine lv_iload_n hx hb dX11_sheet_69 rfl (lv_at hl 2 rfl) ?_
                refine lv_imul hx hb dX11_sheet_70 ?_
                refine lv_cg (y := nI (40 * kk)) (by rw [show (40 : Int32) = nI 40 from rfl]; exact pk_mul _ _) ?_
                refine lv_iload hx hb dX11_sheet_71 (lv_at hl 0 rfl) ?_
                refine lv_iadd hx hb dX11_sheet_73 ?_
                refine lv_cg (y := nI ((40 * kk) + j13)) (by exact nI_add _ _) ?_
                refine lv_iconst (v := 0) hx hb dX11_sheet_74 rfl ?_
                refine va_iast hx hb hK.1 hP hD hS 3 0 rfl rfl (vp_in_nI (by first | omega | (have t_b5 := b5; have t_b10 := b10; have t_c11 := leI c11; have t_c12 := leI c12; have t_hkk := hkk; have t_hnn := hnn; have t_hj17 := hj17; have t_n20 := n20; have tqz_ := qz11_; have tnb_ := nib8 tn2146_ tn2147_ tn2148_ tn2149_ tn2150_ tn2152_ tn2153_ tn2155_; omega)) (by decide)) dX11_sheet_75 (fun H locs hP hD hS => ?_)
                rw [nI_clamp (by omega)] at hP hD
                refine lv_iinc (v := nI (j13 + 1)) (lv' := [(4, .int (nI (j13 + 1))), (0, .ref h0), (1, .int (nI kk)), (2, .int lane), (3, .int (nI nn))]) hx hb dX11_sheet_76 hl (k := 0) rfl (by rw [show Int32.ofInt 1 = nI 1 from by decide]; exact nI_add _ _) (by decide) rfl (fun ls hl => ?_)
                refine lv_goto (tgt := 56) hx hb dX11_sheet_79 rfl ?_
                exact ih56_15 (j13 + 1) (by omega) (by omega) (upd g14 ((40 * kk) + j13) 0) _ _ (by rw [hinv]; exact zpg_s) hP hD hS ls (lv_sub hl [0, 1, 2, 3, 4] rfl)
          exact loop56_15 (40 + 1) 0 (by omega) (by omega) fce _ _ zpg_0 hP hD hS ls (lv_sub hl [0, 1, 2, 3, 4] rfl)
        · skip
          refine lv_bipush (v := (-14)) hx hb dX11_sheet_36 rfl ?_
          have hpost : ((-14) : Int32) = if (0 ≤ k.toInt ∧ k.toInt < 4) ∧ (0 ≤ lane.toInt ∧ lane.toInt ≤ 2) ∧ n.toInt ≤ 40 then (if n.toInt < 0 then -14 else 1) else -1 := by
            have t_b5 := b5
            have t_b10 := b10
            have t_c11 := leI c11
            have t_c12 := nleI c12
            have : (0 : Int32).toInt = 0 := qI_0
            have : (40 : Int32).toInt = 40 := qI_40
            have t_n0 : (nI N).toInt = (N : Int) := tn2146_ ()
            have t_n1 : (nI B).toInt = (B : Int) := tn2147_ ()
            have t_n2 : (nI T).toInt = (T : Int) := tn2148_ ()
            have t_n3 : (nI S).toInt = (S : Int) := tn2149_ ()
            have t_n4 : (nI M).toInt = (M : Int) := tn2150_ ()
            first | rfl | ((repeat' split) <;> first | rfl | omega)
          obtain ⟨hP9, hD9⟩ := va_sub2 (ws' := [(h0, .inr (11, [.ref st, .int (nI N), .int (nI B), .ref rp, .int vrs, .int vrb, .int vhs, .int vca, .int vxs, .int vxb, .ref tp, .int (nI T), .int vfa, .int vbr, .int vba, .int vsp, .int vhe, .int vtk, .int vva, .ref cu, .ref lt, .ref od, .ref th, .ref be, .ref ln, .int (nI S), .ref ma, .int (nI M), .ref ah, .ref bh, .ref ik, .ref la, .ref lg, .ref ce, .int vto])), (la, .inl (G 0, 4, .inl fla)), (lg, .inl (G 0, 4, .inl flg)), (ce, .inl (G 0, 160, .inl fce))]) hP hD [0, 1, 2, 3] (by decide +kernel) rfl
          refine W.widen (k := 0) (n := 0) (Nat.le_of_ble_eq_true rfl) (Nat.le_of_ble_eq_true rfl) ?_
          exact W.iret (v := (-14)) hx hb hr (fun t ht hW => ⟨⟨(-14), (fla, flg, fce), rfl, ⟨hpost, ⟨(by have t_b5 := b5; have t_b10 := b10; have t_c11 := leI c11; have t_c12 := nleI c12; have tqz_ := qz11_; have tnb_ := nib5 tn2146_ tn2147_ tn2148_ tn2149_ tn2150_; refine ⟨⟨?_, ?_⟩, hz⟩ <;> rw [if_neg (by omega)]), (by have t_b5 := b5; have t_b10 := b10; have t_c11 := leI c11; have t_c12 := nleI c12; have tqz_ := qz11_; have tnb_ := nib5 tn2146_ tn2147_ tn2148_ tn2149_ tn2150_; rw [if_neg (by omega)])⟩⟩, ⟨by rw [ht]; exact hP9, hD9⟩⟩, hS.F ht⟩) hS.2.2 dX11_sheet_38
      · skip
        refine lv_iconst (v := (-1)) hx hb dX11_sheet_30 rfl ?_
        have hpost : ((-1) : Int32) = if (0 ≤ k.toInt ∧ k.toInt < 4) ∧ (0 ≤ lane.toInt ∧ lane.toInt ≤ 2) ∧ n.toInt ≤ 40 then (if n.toInt < 0 then -14 else 1) else -1 := by
          have t_b5 := b5
          have t_b10 := b10
          have t_c11 := nleI c11
          have : (40 : Int32).toInt = 40 := qI_40
          have t_n0 : (nI N).toInt = (N : Int) := tn2146_ ()
          have t_n1 : (nI B).toInt = (B : Int) := tn2147_ ()
          have t_n2 : (nI T).toInt = (T : Int) := tn2148_ ()
          have t_n3 : (nI S).toInt = (S : Int) := tn2149_ ()
          have t_n4 : (nI M).toInt = (M : Int) := tn2150_ ()
          first | rfl | ((repeat' split) <;> first | rfl | omega)
        obtain ⟨hP9, hD9⟩ := va_sub2 (ws' := [(h0, .inr (11, [.ref st, .int (nI N), .int (nI B), .ref rp, .int vrs, .int vrb, .int vhs, .int vca, .int vxs, .int vxb, .ref tp, .int (nI T), .int vfa, .int vbr, .int vba, .int vsp, .int vhe, .int vtk, .int vva, .ref cu, .ref lt, .ref od, .ref th, .ref be, .ref ln, .int (nI S), .ref ma, .int (nI M), .ref ah, .ref bh, .ref ik, .ref la, .ref lg, .ref ce, .int vto])), (la, .inl (G 0, 4, .inl fla)), (lg, .inl (G 0, 4, .inl flg)), (ce, .inl (G 0, 160, .inl fce))]) hP hD [0, 1, 2, 3] (by decide +kernel) rfl
        refine W.widen (k := 0) (n := 0) (Nat.le_of_ble_eq_true rfl) (Nat.le_of_ble_eq_true rfl) ?_
        exact W.iret (v := (-1)) hx hb hr (fun t ht hW => ⟨⟨(-1), (fla, flg, fce), rfl, ⟨hpost, ⟨(by have t_b5 := b5; have t_b10 := b10; have t_c11 := nleI c11; have : (40 : Int32).toInt = 40 := qI_40; have tnb_ := nib5 tn2146_ tn2147_ tn2148_ tn2149_ tn2150_; refine ⟨⟨?_, ?_⟩, hz⟩ <;> rw [if_neg (by omega)]), (by have t_b5 := b5; have t_b10 := b10; have t_c11 := nleI c11; have : (40 : Int32).toInt = 40 := qI_40; have tnb_ := nib5 tn2146_ tn2147_ tn2148_ tn2149_ tn2150_; rw [if_neg (by omega)])⟩⟩, ⟨by rw [ht]; exact hP9, hD9⟩⟩, hS.F ht⟩) hS.2.2 dX11_sheet_31

set_option maxHeartbeats 1000000 in
set_option maxRecDepth 100000 in
theorem c_X11_layO (l : Launch) (dC : Nat → ClassId) (dI : Nat → Nat → Nat) (G : Nat → ClassId) (sz : Nat) (h0 st N B rp tp T cu lt od th be ln S ma M ah bh ik la lg ce : Nat) (k i v vrs vrb vhs vca vxs vxb vfa vbr vba vsp vhe vtk vva vto : Int32) (fla : Nat → Int32) (flg : Nat → Int32) (fce : Nat → Int32) (hN : N ≤ 10) (hB : B ≤ 6) (hT : T ≤ 320) (hS0 : S ≤ 8) (hM : M ≤ 6) (hz : ∀ q : Nat, q < 4 → 0 ≤ (flg q).toInt ∧ (flg q).toInt ≤ 40) : Met l yX11_lay (Cond.code yX11_lay cX11_lay 4 (some .int) :: GT) ({ frames := 1, cells := 0, slots := 0, locals := 25 } : Room) (PcW [.ref h0, .int k, .int i, .int v] dC dI G [(h0, .inr (11, [.ref st, .int (nI N), .int (nI B), .ref rp, .int vrs, .int vrb, .int vhs, .int vca, .int vxs, .int vxb, .ref tp, .int (nI T), .int vfa, .int vbr, .int vba, .int vsp, .int vhe, .int vtk, .int vva, .ref cu, .ref lt, .ref od, .ref th, .ref be, .ref ln, .int (nI S), .ref ma, .int (nI M), .ref ah, .ref bh, .ref ik, .ref la, .ref lg, .ref ce, .int vto])), (la, .inl (G 0, 4, .inl fla)), (lg, .inl (G 0, 4, .inl flg)), (ce, .inl (G 0, 160, .inl fce))] sz) (va_Qi (fun (r : Int32) (u : (Nat → Int32)) => match u with | oce => (r = if 0 ≤ k.toInt ∧ k.toInt < 4 then (if fla k.toNatClampNeg = -4 then -11 else if 0 ≤ i.toInt ∧ i.toInt < (flg k.toNatClampNeg).toInt then 1 else -12) else -1) ∧ oce = (if ((0 ≤ k.toInt ∧ k.toInt < 4) ∧ ¬ fla k.toNatClampNeg = -4 ∧ 0 ≤ i.toInt ∧ i.toInt < (flg k.toNatClampNeg).toInt) then upd fce (40 * k.toNatClampNeg + i.toNatClampNeg) (nrR (fla k.toNatClampNeg) v) else fce)) (fun (u : (Nat → Int32)) (t : State) => match u with | oce => va_P (dC, dI) vwCl [(h0, .inr (11, [.ref st, .int (nI N), .int (nI B), .ref rp, .int vrs, .int vrb, .int vhs, .int vca, .int vxs, .int vxb, .ref tp, .int (nI T), .int vfa, .int vbr, .int vba, .int vsp, .int vhe, .int vtk, .int vva, .ref cu, .ref lt, .ref od, .ref th, .ref be, .ref ln, .int (nI S), .ref ma, .int (nI M), .ref ah, .ref bh, .ref ik, .ref la, .ref lg, .ref ce, .int vto])), (la, .inl (G 0, 4, .inl fla)), (lg, .inl (G 0, 4, .inl flg)), (ce, .inl (G 0, 160, .inl oce))] t.heap ∧ va_D (va_A [(h0, .inr (11, [.ref st, .int (nI N), .int (nI B), .ref rp, .int vrs, .int vrb, .int vhs, .int vca, .int vxs, .int vxb, .ref tp, .int (nI T), .int vfa, .int vbr, .int vba, .int vsp, .int vhe, .int vtk, .int vva, .ref cu, .ref lt, .ref od, .ref th, .ref be, .ref ln, .int (nI S), .ref ma, .int (nI M), .ref ah, .ref bh, .ref ik, .ref la, .ref lg, .ref ce, .int vto])), (la, .inl (G 0, 4, .inl fla)), (lg, .inl (G 0, 4, .inl flg)), (ce, .inl (G 0, 160, .inl fce))] sz) [(h0, .inr (11, [.ref st, .int (nI N), .int (nI B), .ref rp, .int vrs, .int vrb, .int vhs, .int vca, .int vxs, .int vxb, .ref tp, .int (nI T), .int vfa, .int vbr, .int vba, .int vsp, .int vhe, .int vtk, .int vva, .ref cu, .ref lt, .ref od, .ref th, .ref be, .ref ln, .int (nI S), .ref ma, .int (nI M), .ref ah, .ref bh, .ref ik, .ref la, .ref lg, .ref ce, .int vto])), (la, .inl (G 0, 4, .inl fla)), (lg, .inl (G 0, 4, .inl flg)), (ce, .inl (G 0, 160, .inl oce))]) (va_A [(h0, .inr (11, [.ref st, .int (nI N), .int (nI B), .ref rp, .int vrs, .int vrb, .int vhs, .int vca, .int vxs, .int vxb, .ref tp, .int (nI T), .int vfa, .int vbr, .int vba, .int vsp, .int vhe, .int vtk, .int vva, .ref cu, .ref lt, .ref od, .ref th, .ref be, .ref ln, .int (nI S), .ref ma, .int (nI M), .ref ah, .ref bh, .ref ik, .ref la, .ref lg, .ref ce, .int vto])), (la, .inl (G 0, 4, .inl fla)), (lg, .inl (G 0, 4, .inl flg)), (ce, .inl (G 0, 160, .inl fce))] sz)) 0 0 (va_A [(h0, .inr (11, [.ref st, .int (nI N), .int (nI B), .ref rp, .int vrs, .int vrb, .int vhs, .int vca, .int vxs, .int vxb, .ref tp, .int (nI T), .int vfa, .int vbr, .int vba, .int vsp, .int vhe, .int vtk, .int vva, .ref cu, .ref lt, .ref od, .ref th, .ref be, .ref ln, .int (nI S), .ref ma, .int (nI M), .ref ah, .ref bh, .ref ik, .ref la, .ref lg, .ref ce, .int vto])), (la, .inl (G 0, 4, .inl fla)), (lg, .inl (G 0, 4, .inl flg)), (ce, .inl (G 0, 160, .inl fce))] sz) := by
  have tn2156_ : nIT N := fun _ => nI_toInt (by omega)
  have tn2157_ : nIT B := fun _ => nI_toInt (by omega)
  have tn2158_ : nIT T := fun _ => nI_toInt (by omega)
  have tn2159_ : nIT S := fun _ => nI_toInt (by omega)
  have tn2160_ : nIT M := fun _ => nI_toInt (by omega)
  refine Met.ofW (cc := cX11_lay) (maxL := 4) (ret := (some .int)) (by decide) rfl ?_
  intro p e s m args below meth c s₁ Bd hml hv
  obtain ⟨rfl, hsz, hP, hK, hD0⟩ := hv
  have hx := Bd.exec
  have hb := Bd.bytes
  have hr := Bd.returns
  have hg : ∀ w ∈ GT, w.before ([.ref h0, .int k, .int i, .int v] : List Value).toArray s = true := fun w h => atoms_spec (ws := Cond.code yX11_lay cX11_lay 4 (some .int) :: GT) Bd.pre w (List.mem_cons_of_mem _ h)
  have hown : s.vm.findClass RX11 = some m.cls := findClass_of_methodNamed Bd.named
  have hlocks := Bd.notSynchronized
  subst hsz
  have hD := hD0.self (sz := s.heap.size)
  generalize hAe : va_A [(h0, .inr (11, [.ref st, .int (nI N), .int (nI B), .ref rp, .int vrs, .int vrb, .int vhs, .int vca, .int vxs, .int vxb, .ref tp, .int (nI T), .int vfa, .int vbr, .int vba, .int vsp, .int vhe, .int vtk, .int vva, .ref cu, .ref lt, .ref od, .ref th, .ref be, .ref ln, .int (nI S), .ref ma, .int (nI M), .ref ah, .ref bh, .ref ik, .ref la, .ref lg, .ref ce, .int vto])), (la, .inl (G 0, 4, .inl fla)), (lg, .inl (G 0, 4, .inl flg)), (ce, .inl (G 0, 160, .inl fce))] s.heap.size = A at hD ⊢
  have hA : ∀ q : Nat, s.heap.size ≤ q → A q := fun q h => by rw [← hAe]; exact Or.inr h
  have hS : va_S A s.heap s.heap [] := va_S.rf
  have hl := lv_entry ([.ref h0, .int k, .int i, .int v]) (n := 4) (Nat.le_of_ble_eq_true rfl)
  rw [lg_entry_eq]
  generalize (lg_sl ([.ref h0, .int k, .int i, .int v]) ++ List.replicate (4 - (lg_sl ([.ref h0, .int k, .int i, .int v])).length) Slot.unset).toArray = ls at hl ⊢
  have hl : lv_has ls 4 [(0, .ref h0), (1, .int k), (2, .int i), (3, .int v)] := hl
  refine lv_iload_n hx hb dX11_lay_0 rfl (lv_at hl 1 rfl) ?_
  refine lv_i2l (v := k.toInt64) hx hb dX11_lay_1 rfl ?_
  refine lv_lconst (v := 0) hx hb dX11_lay_2 (by decide) ?_
  refine lv_ldc2 (v := 3) hx hb hown (hg _ wt_1023) dX11_lay_3 ?_
  have hPc := hP.sub (ws' := []) [] rfl
  refine va_calli (va_runS (As := [.long k.toInt64, .long 0, .long 3]) (rest := []) ⟨hx, hb, hml, hown, hg⟩ (c_X11_in l dC dI G _ k.toInt64 0 3) (kwS hg mfX11_in wt_992 ⟨Nat.le_of_ble_eq_true rfl, Nat.le_of_ble_eq_true rfl⟩) (preSR hK hPc) rfl rfl hl.1 rfl (lv_room (Nat.le_of_ble_eq_true rfl)) dX11_lay_6 ⟨Nat.le_of_ble_eq_true rfl, Nat.le_of_ble_eq_true rfl⟩) hS (fun q h1 h2 => absurd h2 (Nat.not_le.mpr h1)) (fun q h => hA q (Nat.le_trans hS.1 h)) (fun r1 ur1 t H1 locs ht hvm w2 hB hz1 hk1 hS => ?_)
  have hP := keepR hP hk1
  obtain ⟨w2, w2x⟩ := w2
  try simp only [l_ii, show (0 : Int64).toInt = 0 from by decide, show (3 : Int64).toInt = 3 from by decide] at w2
  subst w2
  refine lv_if_ne (tgt := 14) hx hb dX11_lay_9 rfl (fun c3 => ?_) (fun c3 => ?_)
  · skip
    have b4 := if10_p c3
    obtain ⟨kk, hkk, rfl⟩ : ∃ j : Nat, j < 4 ∧ k = nI j := by
      have t_b4 := b4
      have t_n0 : (nI N).toInt = (N : Int) := tn2156_ ()
      have t_n1 : (nI B).toInt = (B : Int) := tn2157_ ()
      have t_n2 : (nI T).toInt = (T : Int) := tn2158_ ()
      have t_n3 : (nI S).toInt = (S : Int) := tn2159_ ()
      have t_n4 : (nI M).toInt = (M : Int) := tn2160_ ()
      exact i32_nat (by omega) (by omega)
    refine lv_aload_n hx hb dX11_lay_14 rfl (lv_at hl 0 rfl) ?_
    refine va_get (D := (dC, dI)) (ci := 11) (v := .ref la) (C := RX11) (T := TX11) (N := 35) hx hb hg inG11 hown hK.1 hP 0 rfl rfl 31 (Nat.le_of_ble_eq_true rfl) (hg _ wt_909) (fun _ h9 => h9) rfl dX11_lay_15 ?_
    refine lv_iload_n hx hb dX11_lay_18 rfl (lv_at hl 1 rfl) ?_
    have tn2161_ : nIT kk := fun _ => nI_toInt (by first | omega | (have t_b4 := b4; have t_hkk := hkk; omega))
    refine va_iald hx hb hK.1 hP 1 0 rfl rfl (vp_in_nI (by first | omega | (have t_b4 := b4; have t_hkk := hkk; have tnb_ := nib6 tn2156_ tn2157_ tn2158_ tn2159_ tn2160_ tn2161_; omega)) (by decide)) dX11_lay_19 ?_
    refine lv_cg (y := fla kk) (by rw [nI_clamp (by omega)]) ?_
    refine lv_bipush (v := (-4)) hx hb dX11_lay_20 rfl ?_
    refine lv_icmp_ne (tgt := 28) hx hb dX11_lay_22 rfl (fun c5 => ?_) (fun c5 => ?_)
    · skip
      refine lv_iload_n hx hb dX11_lay_28 rfl (lv_at hl 2 rfl) ?_
      refine lv_i2l (v := i.toInt64) hx hb dX11_lay_29 rfl ?_
      refine lv_lconst (v := 0) hx hb dX11_lay_30 (by decide) ?_
      refine lv_aload_n hx hb dX11_lay_31 rfl (lv_at hl 0 rfl) ?_
      refine va_get (D := (dC, dI)) (ci := 11) (v := .ref lg) (C := RX11) (T := TX11) (N := 35) hx hb hg inG11 hown hK.1 hP 0 rfl rfl 32 (Nat.le_of_ble_eq_true rfl) (hg _ wt_910) (fun _ h9 => h9) rfl dX11_lay_32 ?_
      refine lv_iload_n hx hb dX11_lay_35 rfl (lv_at hl 1 rfl) ?_
      refine va_iald hx hb hK.1 hP 2 0 rfl rfl (vp_in_nI (by first | omega | (have t_b4 := b4; have t_hkk := hkk; have t_c5 := neI c5; have : ((-4) : Int32).toInt = -4 := qI_m4; have tnb_ := nib6 tn2156_ tn2157_ tn2158_ tn2159_ tn2160_ tn2161_; omega)) (by decide)) dX11_lay_36 ?_
      refine lv_cg (y := flg kk) (by rw [nI_clamp (by omega)]) ?_
      refine lv_iconst (v := 1) hx hb dX11_lay_37 rfl ?_
      refine lv_isub hx hb dX11_lay_38 ?_
      refine lv_i2l (v := ((flg kk) - 1).toInt64) hx hb dX11_lay_39 rfl ?_
      have hPc := hP.sub (ws' := []) [] rfl
      refine va_calli (va_runS (As := [.long i.toInt64, .long 0, .long (((flg kk) - 1).toInt64)]) (rest := []) ⟨hx, hb, hml, hown, hg⟩ (c_X11_in l dC dI G _ i.toInt64 0 (((flg kk) - 1).toInt64)) (kwS hg mfX11_in wt_992 ⟨Nat.le_of_ble_eq_true rfl, Nat.le_of_ble_eq_true rfl⟩) (preSR hK hPc) rfl rfl hl.1 rfl (lv_room (Nat.le_of_ble_eq_true rfl)) dX11_lay_40 ⟨Nat.le_of_ble_eq_true rfl, Nat.le_of_ble_eq_true rfl⟩) hS (fun q h1 h2 => absurd h2 (Nat.not_le.mpr h1)) (fun q h => hA q (Nat.le_trans hS.1 h)) (fun r6 ur6 t H1 locs ht hvm w7 hB hz1 hk1 hS => ?_)
      have hP := keepR hP hk1
      obtain ⟨w7, w7x⟩ := w7
      try simp only [l_ii, show (0 : Int64).toInt = 0 from by decide] at w7
      subst w7
      refine lv_if_ne (tgt := 49) hx hb dX11_lay_43 rfl (fun c8 => ?_) (fun c8 => ?_)
      · skip
        have b9 := if10_p c8
        have hzk := hz kk (by omega)
        have e9 := im1 (x := flg kk) hzk.1 hzk.2
        obtain ⟨ii, hii, rfl⟩ : ∃ j : Nat, j < 40 ∧ i = nI j := by
          have t_b4 := b4
          have t_hkk := hkk
          have t_c5 := neI c5
          have t_b9 := b9
          have : ((-4) : Int32).toInt = -4 := qI_m4
          have t_n0 : (nI N).toInt = (N : Int) := tn2156_ ()
          have t_n1 : (nI B).toInt = (B : Int) := tn2157_ ()
          have t_n2 : (nI T).toInt = (T : Int) := tn2158_ ()
          have t_n3 : (nI S).toInt = (S : Int) := tn2159_ ()
          have t_n4 : (nI M).toInt = (M : Int) := tn2160_ ()
          have t_n5 : (nI kk).toInt = (kk : Int) := tn2161_ ()
          exact i32_nat (by omega) (by omega)
        refine lv_aload_n hx hb dX11_lay_49 rfl (lv_at hl 0 rfl) ?_
        refine va_get (D := (dC, dI)) (ci := 11) (v := .ref ce) (C := RX11) (T := TX11) (N := 35) hx hb hg inG11 hown hK.1 hP 0 rfl rfl 33 (Nat.le_of_ble_eq_true rfl) (hg _ wt_911) (fun _ h9 => h9) rfl dX11_lay_50 ?_
        refine lv_bipush (v := 40) hx hb dX11_lay_53 rfl ?_
        refine lv_iload_n hx hb dX11_lay_55 rfl (lv_at hl 1 rfl) ?_
        refine lv_imul hx hb dX11_lay_56 ?_
        refine lv_cg (y := nI (40 * kk)) (by rw [show (40 : Int32) = nI 40 from rfl]; exact pk_mul _ _) ?_
        refine lv_iload_n hx hb dX11_lay_57 rfl (lv_at hl 2 rfl) ?_
        refine lv_iadd hx hb dX11_lay_58 ?_
        refine lv_cg (y := nI ((40 * kk) + ii)) (by exact nI_add _ _) ?_
        refine lv_aload_n hx hb dX11_lay_59 rfl (lv_at hl 0 rfl) ?_
        refine va_get (D := (dC, dI)) (ci := 11) (v := .ref la) (C := RX11) (T := TX11) (N := 35) hx hb hg inG11 hown hK.1 hP 0 rfl rfl 31 (Nat.le_of_ble_eq_true rfl) (hg _ wt_909) (fun _ h9 => h9) rfl dX11_lay_60 ?_
        refine lv_iload_n hx hb dX11_lay_63 rfl (lv_at hl 1 rfl) ?_
        have tn2162_ : nIT ii := fun _ => nI_toInt (by first | omega | (have t_b4 := b4; have t_hkk := hkk; have t_c5 := neI c5; have t_b9 := b9; have t_hii := hii; have : ((-4) : Int32).toInt = -4 := qI_m4; omega))
        refine va_iald hx hb hK.1 hP 1 0 rfl rfl (vp_in_nI (by first | omega | (have t_b4 := b4; have t_hkk := hkk; have t_c5 := neI c5; have t_b9 := b9; have t_hii := hii; have : ((-4) : Int32).toInt = -4 := qI_m4; have tnb_ := nib7 tn2156_ tn2157_ tn2158_ tn2159_ tn2160_ tn2161_ tn2162_; omega)) (by decide)) dX11_lay_64 ?_
        refine lv_cg (y := fla kk) (by rw [nI_clamp (by omega)]) ?_
        refine lv_if_ne (tgt := 78) hx hb dX11_lay_65 rfl (fun c10 => ?_) (fun c10 => ?_)
        · skip
          refine lv_aload_n hx hb dX11_lay_78 rfl (lv_at hl 0 rfl) ?_
          refine va_get (D := (dC, dI)) (ci := 11) (v := .ref la) (C := RX11) (T := TX11) (N := 35) hx hb hg inG11 hown hK.1 hP 0 rfl rfl 31 (Nat.le_of_ble_eq_true rfl) (hg _ wt_909) (fun _ h9 => h9) rfl dX11_lay_79 ?_
          refine lv_iload_n hx hb dX11_lay_82 rfl (lv_at hl 1 rfl) ?_
          refine va_iald hx hb hK.1 hP 1 0 rfl rfl (vp_in_nI (by first | omega | (have t_b4 := b4; have t_hkk := hkk; have t_c5 := neI c5; have t_b9 := b9; have t_hii := hii; have t_c10 := neI c10; have tqz_ := qz8_; have tnb_ := nib7 tn2156_ tn2157_ tn2158_ tn2159_ tn2160_ tn2161_ tn2162_; omega)) (by decide)) dX11_lay_83 ?_
          refine lv_cg (y := fla kk) (by rw [nI_clamp (by omega)]) ?_
          refine lv_iconst (v := 1) hx hb dX11_lay_84 rfl ?_
          refine lv_icmp_ne (tgt := 98) hx hb dX11_lay_85 rfl (fun c11 => ?_) (fun c11 => ?_)
          · skip
            refine lv_iload_n hx hb dX11_lay_98 rfl (lv_at hl 3 rfl) ?_
            refine va_iast hx hb hK.1 hP hD hS 3 0 rfl rfl (vp_in_nI (by first | omega | (have t_b4 := b4; have t_hkk := hkk; have t_c5 := neI c5; have t_b9 := b9; have t_hii := hii; have t_c10 := neI c10; have t_c11 := neI c11; have tqz_ := qz40_; have tnb_ := nib7 tn2156_ tn2157_ tn2158_ tn2159_ tn2160_ tn2161_ tn2162_; omega)) (by decide)) dX11_lay_99 (fun H locs hP hD hS => ?_)
            rw [nI_clamp (by omega)] at hP hD
            refine lv_iconst (v := 1) hx hb dX11_lay_100 rfl ?_
            have hpost : (1 : Int32) = if 0 ≤ (nI kk).toInt ∧ (nI kk).toInt < 4 then (if fla (nI kk).toNatClampNeg = -4 then -11 else if 0 ≤ (nI ii).toInt ∧ (nI ii).toInt < (flg (nI kk).toNatClampNeg).toInt then 1 else -12) else -1 := by
              rw [nI_clamp (by (have t_b4 := b4; have t_hkk := hkk; have t_c5 := neI c5; have t_b9 := b9; have t_hii := hii; have t_c10 := neI c10; have t_c11 := neI c11; have tqz_ := qz40_; have tnb_ := nib7 tn2156_ tn2157_ tn2158_ tn2159_ tn2160_ tn2161_ tn2162_; omega)), if_pos (by (have t_b4 := b4; have t_hkk := hkk; have t_c5 := neI c5; have t_b9 := b9; have t_hii := hii; have t_c10 := neI c10; have t_c11 := neI c11; have tqz_ := qz40_; have tnb_ := nib7 tn2156_ tn2157_ tn2158_ tn2159_ tn2160_ tn2161_ tn2162_; omega)), if_neg (by first | with_reducible assumption | assumption), if_pos (by (have t_b4 := b4; have t_hkk := hkk; have t_c5 := neI c5; have t_b9 := b9; have t_hii := hii; have t_c10 := neI c10; have t_c11 := neI c11; have tqz_ := qz40_; have tnb_ := nib7 tn2156_ tn2157_ tn2158_ tn2159_ tn2160_ tn2161_ tn2162_; omega))]
            obtain ⟨hP9, hD9⟩ := va_sub2 (ws' := [(h0, .inr (11, [.ref st, .int (nI N), .int (nI B), .ref rp, .int vrs, .int vrb, .int vhs, .int vca, .int vxs, .int vxb, .ref tp, .int (nI T), .int vfa, .int vbr, .int vba, .int vsp, .int vhe, .int vtk, .int vva, .ref cu, .ref lt, .ref od, .ref th, .ref be, .ref ln, .int (nI S), .ref ma, .int (nI M), .ref ah, .ref bh, .ref ik, .ref la, .ref lg, .ref ce, .int vto])), (la, .inl (G 0, 4, .inl fla)), (lg, .inl (G 0, 4, .inl flg)), (ce, .inl (G 0, 160, .inl (upd fce ((40 * kk) + ii) v)))]) hP hD [0, 1, 2, 3] (by decide +kernel) rfl
            refine W.widen (k := 0) (n := 0) (Nat.le_of_ble_eq_true rfl) (Nat.le_of_ble_eq_true rfl) ?_
            exact W.iret (v := 1) hx hb hr (fun t ht hW => ⟨⟨1, (upd fce ((40 * kk) + ii) v), rfl, ⟨hpost, (by clear hpost; have t_b4 := b4; have t_hkk := hkk; have t_c5 := neI c5; have t_b9 := b9; have t_hii := hii; have t_c10 := neI c10; have t_c11 := neI c11; have tqz_ := qz40_; have tnb_ := nib7 tn2156_ tn2157_ tn2158_ tn2159_ tn2160_ tn2161_ tn2162_; have tqz_ := qz46_; have z4 : (-4 : Int32).toInt = -4 := (by decide); have z10 : (10 : Int32).toInt = 10 := qI_10; have hzk := hz kk (by omega); have e9 := im1 (x := flg kk) hzk.1 hzk.2; rw [nI_clamp (by omega), nI_clamp (by omega), if_pos ⟨by omega, by assumption, by omega, by omega⟩]; unfold nrR; (try rw [if_pos (by first | with_reducible assumption | assumption)]); (try rw [if_neg (by first | with_reducible assumption | assumption)]); (try rw [if_pos (by first | with_reducible assumption | assumption)]); (try rw [if_neg (by first | with_reducible assumption | assumption)]); first | done | rfl)⟩, ⟨by rw [ht]; exact hP9, hD9⟩⟩, hS.F ht⟩) hS.2.2 dX11_lay_101
          · skip
            refine lv_iload_n hx hb dX11_lay_88 rfl (lv_at hl 3 rfl) ?_
            refine lv_bipush (v := 16) hx hb dX11_lay_89 rfl ?_
            refine lv_ishl hx hb dX11_lay_91 ?_
            refine lv_bipush (v := 16) hx hb dX11_lay_92 rfl ?_
            refine lv_ishr hx hb dX11_lay_94 ?_
            refine lv_goto (tgt := 99) hx hb dX11_lay_95 rfl ?_
            refine va_iast hx hb hK.1 hP hD hS 3 0 rfl rfl (vp_in_nI (by first | omega | (have t_b4 := b4; have t_hkk := hkk; have t_c5 := neI c5; have t_b9 := b9; have t_hii := hii; have t_c10 := neI c10; have t_c11 := eqI c11; have tqz_ := qz40_; have tnb_ := nib7 tn2156_ tn2157_ tn2158_ tn2159_ tn2160_ tn2161_ tn2162_; omega)) (by decide)) dX11_lay_99 (fun H locs hP hD hS => ?_)
            rw [nI_clamp (by omega)] at hP hD
            refine lv_iconst (v := 1) hx hb dX11_lay_100 rfl ?_
            have hpost : (1 : Int32) = if 0 ≤ (nI kk).toInt ∧ (nI kk).toInt < 4 then (if fla (nI kk).toNatClampNeg = -4 then -11 else if 0 ≤ (nI ii).toInt ∧ (nI ii).toInt < (flg (nI kk).toNatClampNeg).toInt then 1 else -12) else -1 := by
              rw [nI_clamp (by (have t_b4 := b4; have t_hkk := hkk; have t_c5 := neI c5; have t_b9 := b9; have t_hii := hii; have t_c10 := neI c10; have t_c11 := eqI c11; have tqz_ := qz40_; have tnb_ := nib7 tn2156_ tn2157_ tn2158_ tn2159_ tn2160_ tn2161_ tn2162_; omega)), if_pos (by (have t_b4 := b4; have t_hkk := hkk; have t_c5 := neI c5; have t_b9 := b9; have t_hii := hii; have t_c10 := neI c10; have t_c11 := eqI c11; have tqz_ := qz40_; have tnb_ := nib7 tn2156_ tn2157_ tn2158_ tn2159_ tn2160_ tn2161_ tn2162_; omega)), if_neg (by first | with_reducible assumption | assumption), if_pos (by (have t_b4 := b4; have t_hkk := hkk; have t_c5 := neI c5; have t_b9 := b9; have t_hii := hii; have t_c10 := neI c10; have t_c11 := eqI c11; have tqz_ := qz40_; have tnb_ := nib7 tn2156_ tn2157_ tn2158_ tn2159_ tn2160_ tn2161_ tn2162_; omega))]
            obtain ⟨hP9, hD9⟩ := va_sub2 (ws' := [(h0, .inr (11, [.ref st, .int (nI N), .int (nI B), .ref rp, .int vrs, .int vrb, .int vhs, .int vca, .int vxs, .int vxb, .ref tp, .int (nI T), .int vfa, .int vbr, .int vba, .int vsp, .int vhe, .int vtk, .int vva, .ref cu, .ref lt, .ref od, .ref th, .ref be, .ref ln, .int (nI S), .ref ma, .int (nI M), .ref ah, .ref bh, .ref ik, .ref la, .ref lg, .ref ce, .int vto])), (la, .inl (G 0, 4, .inl fla)), (lg, .inl (G 0, 4, .inl flg)), (ce, .inl (G 0, 160, .inl (upd fce ((40 * kk) + ii) ((v <<< ((16 : Int32) &&& 31)) >>> ((16 : Int32) &&& 31)))))]) hP hD [0, 1, 2, 3] (by decide +kernel) rfl
            refine W.widen (k := 0) (n := 0) (Nat.le_of_ble_eq_true rfl) (Nat.le_of_ble_eq_true rfl) ?_
            exact W.iret (v := 1) hx hb hr (fun t ht hW => ⟨⟨1, (upd fce ((40 * kk) + ii) ((v <<< ((16 : Int32) &&& 31)) >>> ((16 : Int32) &&& 31))), rfl, ⟨hpost, (by clear hpost; have t_b4 := b4; have t_hkk := hkk; have t_c5 := neI c5; have t_b9 := b9; have t_hii := hii; have t_c10 := neI c10; have t_c11 := eqI c11; have tqz_ := qz40_; have tnb_ := nib7 tn2156_ tn2157_ tn2158_ tn2159_ tn2160_ tn2161_ tn2162_; have tqz_ := qz46_; have z4 : (-4 : Int32).toInt = -4 := (by decide); have z10 : (10 : Int32).toInt = 10 := qI_10; have hzk := hz kk (by omega); have e9 := im1 (x := flg kk) hzk.1 hzk.2; rw [nI_clamp (by omega), nI_clamp (by omega), if_pos ⟨by omega, by assumption, by omega, by omega⟩]; unfold nrR; (try rw [if_pos (by first | with_reducible assumption | assumption)]); (try rw [if_neg (by first | with_reducible assumption | assumption)]); (try rw [if_pos (by first | with_reducible assumption | assumption)]); (try rw [if_neg (by first | with_reducible assumption | assumption)]); first | done | rfl)⟩, ⟨by rw [ht]; exact hP9, hD9⟩⟩, hS.F ht⟩) hS.2.2 dX11_lay_101
        · skip
          refine lv_iload_n hx hb dX11_lay_68 rfl (lv_at hl 3 rfl) ?_
          refine lv_bipush (v := 24) hx hb dX11_lay_69 rfl ?_
          refine lv_ishl hx hb dX11_lay_71 ?_
          refine lv_bipush (v := 24) hx hb dX11_lay_72 rfl ?_
          refine lv_ishr hx hb dX11_lay_74 ?_
          refine lv_goto (tgt := 99) hx hb dX11_lay_75 rfl ?_
          refine va_iast hx hb hK.1 hP hD hS 3 0 rfl rfl (vp_in_nI (by first | omega | (have t_b4 := b4; have t_hkk := hkk; have t_c5 := neI c5; have t_b9 := b9; have t_hii := hii; have t_c10 := eqI c10; have tqz_ := qz8_; have tnb_ := nib7 tn2156_ tn2157_ tn2158_ tn2159_ tn2160_ tn2161_ tn2162_; omega)) (by decide)) dX11_lay_99 (fun H locs hP hD hS => ?_)
          rw [nI_clamp (by omega)] at hP hD
          refine lv_iconst (v := 1) hx hb dX11_lay_100 rfl ?_
          have hpost : (1 : Int32) = if 0 ≤ (nI kk).toInt ∧ (nI kk).toInt < 4 then (if fla (nI kk).toNatClampNeg = -4 then -11 else if 0 ≤ (nI ii).toInt ∧ (nI ii).toInt < (flg (nI kk).toNatClampNeg).toInt then 1 else -12) else -1 := by
            rw [nI_clamp (by (have t_b4 := b4; have t_hkk := hkk; have t_c5 := neI c5; have t_b9 := b9; have t_hii := hii; have t_c10 := eqI c10; have tqz_ := qz8_; have tnb_ := nib7 tn2156_ tn2157_ tn2158_ tn2159_ tn2160_ tn2161_ tn2162_; omega)), if_pos (by (have t_b4 := b4; have t_hkk := hkk; have t_c5 := neI c5; have t_b9 := b9; have t_hii := hii; have t_c10 := eqI c10; have tqz_ := qz8_; have tnb_ := nib7 tn2156_ tn2157_ tn2158_ tn2159_ tn2160_ tn2161_ tn2162_; omega)), if_neg (by first | with_reducible assumption | assumption), if_pos (by (have t_b4 := b4; have t_hkk := hkk; have t_c5 := neI c5; have t_b9 := b9; have t_hii := hii; have t_c10 := eqI c10; have tqz_ := qz8_; have tnb_ := nib7 tn2156_ tn2157_ tn2158_ tn2159_ tn2160_ tn2161_ tn2162_; omega))]
          obtain ⟨hP9, hD9⟩ := va_sub2 (ws' := [(h0, .inr (11, [.ref st, .int (nI N), .int (nI B), .ref rp, .int vrs, .int vrb, .int vhs, .int vca, .int vxs, .int vxb, .ref tp, .int (nI T), .int vfa, .int vbr, .int vba, .int vsp, .int vhe, .int vtk, .int vva, .ref cu, .ref lt, .ref od, .ref th, .ref be, .ref ln, .int (nI S), .ref ma, .int (nI M), .ref ah, .ref bh, .ref ik, .ref la, .ref lg, .ref ce, .int vto])), (la, .inl (G 0, 4, .inl fla)), (lg, .inl (G 0, 4, .inl flg)), (ce, .inl (G 0, 160, .inl (upd fce ((40 * kk) + ii) ((v <<< ((24 : Int32) &&& 31)) >>> ((24 : Int32) &&& 31)))))]) hP hD [0, 1, 2, 3] (by decide +kernel) rfl
          refine W.widen (k := 0) (n := 0) (Nat.le_of_ble_eq_true rfl) (Nat.le_of_ble_eq_true rfl) ?_
          exact W.iret (v := 1) hx hb hr (fun t ht hW => ⟨⟨1, (upd fce ((40 * kk) + ii) ((v <<< ((24 : Int32) &&& 31)) >>> ((24 : Int32) &&& 31))), rfl, ⟨hpost, (by clear hpost; have t_b4 := b4; have t_hkk := hkk; have t_c5 := neI c5; have t_b9 := b9; have t_hii := hii; have t_c10 := eqI c10; have tqz_ := qz8_; have tnb_ := nib7 tn2156_ tn2157_ tn2158_ tn2159_ tn2160_ tn2161_ tn2162_; have tqz_ := qz46_; have z4 : (-4 : Int32).toInt = -4 := (by decide); have z10 : (10 : Int32).toInt = 10 := qI_10; have hzk := hz kk (by omega); have e9 := im1 (x := flg kk) hzk.1 hzk.2; rw [nI_clamp (by omega), nI_clamp (by omega), if_pos ⟨by omega, by assumption, by omega, by omega⟩]; unfold nrR; (try rw [if_pos (by first | with_reducible assumption | assumption)]); (try rw [if_neg (by first | with_reducible assumption | assumption)]); (try rw [if_pos (by first | with_reducible assumption | assumption)]); (try rw [if_neg (by first | with_reducible assumption | assumption)]); first | done | rfl)⟩, ⟨by rw [ht]; exact hP9, hD9⟩⟩, hS.F ht⟩) hS.2.2 dX11_lay_101
      · skip
        have b12 := if10_n c8
        refine lv_bipush (v := (-12)) hx hb dX11_lay_46 rfl ?_
        have hpost : ((-12) : Int32) = if 0 ≤ (nI kk).toInt ∧ (nI kk).toInt < 4 then (if fla (nI kk).toNatClampNeg = -4 then -11 else if 0 ≤ i.toInt ∧ i.toInt < (flg (nI kk).toNatClampNeg).toInt then 1 else -12) else -1 := by
          have hzk := hz kk (by (have t_b4 := b4; have t_hkk := hkk; have t_c5 := neI c5; have t_b12 := b12; have : ((-4) : Int32).toInt = -4 := qI_m4; have tnb_ := nib6 tn2156_ tn2157_ tn2158_ tn2159_ tn2160_ tn2161_; omega))
          have e9 := im1 (x := flg kk) hzk.1 hzk.2
          rw [nI_clamp (by (have t_b4 := b4; have t_hkk := hkk; have t_c5 := neI c5; have t_b12 := b12; have : ((-4) : Int32).toInt = -4 := qI_m4; have tnb_ := nib6 tn2156_ tn2157_ tn2158_ tn2159_ tn2160_ tn2161_; omega)), if_pos (by (have t_b4 := b4; have t_hkk := hkk; have t_c5 := neI c5; have t_b12 := b12; have : ((-4) : Int32).toInt = -4 := qI_m4; have tnb_ := nib6 tn2156_ tn2157_ tn2158_ tn2159_ tn2160_ tn2161_; omega)), if_neg (by first | with_reducible assumption | assumption), if_neg (by (have t_b4 := b4; have t_hkk := hkk; have t_c5 := neI c5; have t_b12 := b12; have : ((-4) : Int32).toInt = -4 := qI_m4; have tnb_ := nib6 tn2156_ tn2157_ tn2158_ tn2159_ tn2160_ tn2161_; omega))]
        obtain ⟨hP9, hD9⟩ := va_sub2 (ws' := [(h0, .inr (11, [.ref st, .int (nI N), .int (nI B), .ref rp, .int vrs, .int vrb, .int vhs, .int vca, .int vxs, .int vxb, .ref tp, .int (nI T), .int vfa, .int vbr, .int vba, .int vsp, .int vhe, .int vtk, .int vva, .ref cu, .ref lt, .ref od, .ref th, .ref be, .ref ln, .int (nI S), .ref ma, .int (nI M), .ref ah, .ref bh, .ref ik, .ref la, .ref lg, .ref ce, .int vto])), (la, .inl (G 0, 4, .inl fla)), (lg, .inl (G 0, 4, .inl flg)), (ce, .inl (G 0, 160, .inl fce))]) hP hD [0, 1, 2, 3] (by decide +kernel) rfl
        refine W.widen (k := 0) (n := 0) (Nat.le_of_ble_eq_true rfl) (Nat.le_of_ble_eq_true rfl) ?_
        exact W.iret (v := (-12)) hx hb hr (fun t ht hW => ⟨⟨(-12), fce, rfl, ⟨hpost, (by clear hpost; have t_b4 := b4; have t_hkk := hkk; have t_c5 := neI c5; have t_b12 := b12; have : ((-4) : Int32).toInt = -4 := qI_m4; have tnb_ := nib6 tn2156_ tn2157_ tn2158_ tn2159_ tn2160_ tn2161_; have tqz_ := qz46_; have z4 : (-4 : Int32).toInt = -4 := (by decide); have z10 : (10 : Int32).toInt = 10 := qI_10; first | (rw [if_neg (fun h9 => by have h8 := h9.1; omega)]; done) | (rw [nI_clamp (by omega), if_neg (fun h9 => h9.2.1 (by first | with_reducible assumption | assumption))]; done) | (have hzk := hz kk (by omega); have e9 := im1 (x := flg kk) hzk.1 hzk.2; rw [nI_clamp (by omega), if_neg (fun h9 => by have h8 := h9.2.2; omega)]; done))⟩, ⟨by rw [ht]; exact hP9, hD9⟩⟩, hS.F ht⟩) hS.2.2 dX11_lay_48
    · skip
      refine lv_bipush (v := (-11)) hx hb dX11_lay_25 rfl ?_
      have hpost : ((-11) : Int32) = if 0 ≤ (nI kk).toInt ∧ (nI kk).toInt < 4 then (if fla (nI kk).toNatClampNeg = -4 then -11 else if 0 ≤ i.toInt ∧ i.toInt < (flg (nI kk).toNatClampNeg).toInt then 1 else -12) else -1 := by
        rw [nI_clamp (by (have t_b4 := b4; have t_hkk := hkk; have t_c5 := eqI c5; have : ((-4) : Int32).toInt = -4 := qI_m4; have tnb_ := nib6 tn2156_ tn2157_ tn2158_ tn2159_ tn2160_ tn2161_; omega)), if_pos (by (have t_b4 := b4; have t_hkk := hkk; have t_c5 := eqI c5; have : ((-4) : Int32).toInt = -4 := qI_m4; have tnb_ := nib6 tn2156_ tn2157_ tn2158_ tn2159_ tn2160_ tn2161_; omega)), if_pos (by first | with_reducible assumption | assumption)]
      obtain ⟨hP9, hD9⟩ := va_sub2 (ws' := [(h0, .inr (11, [.ref st, .int (nI N), .int (nI B), .ref rp, .int vrs, .int vrb, .int vhs, .int vca, .int vxs, .int vxb, .ref tp, .int (nI T), .int vfa, .int vbr, .int vba, .int vsp, .int vhe, .int vtk, .int vva, .ref cu, .ref lt, .ref od, .ref th, .ref be, .ref ln, .int (nI S), .ref ma, .int (nI M), .ref ah, .ref bh, .ref ik, .ref la, .ref lg, .ref ce, .int vto])), (la, .inl (G 0, 4, .inl fla)), (lg, .inl (G 0, 4, .inl flg)), (ce, .inl (G 0, 160, .inl fce))]) hP hD [0, 1, 2, 3] (by decide +kernel) rfl
      refine W.widen (k := 0) (n := 0) (Nat.le_of_ble_eq_true rfl) (Nat.le_of_ble_eq_true rfl) ?_
      exact W.iret (v := (-11)) hx hb hr (fun t ht hW => ⟨⟨(-11), fce, rfl, ⟨hpost, (by clear hpost; have t_b4 := b4; have t_hkk := hkk; have t_c5 := eqI c5; have : ((-4) : Int32).toInt = -4 := qI_m4; have tnb_ := nib6 tn2156_ tn2157_ tn2158_ tn2159_ tn2160_ tn2161_; have tqz_ := qz46_; have z4 : (-4 : Int32).toInt = -4 := (by decide); have z10 : (10 : Int32).toInt = 10 := qI_10; first | (rw [if_neg (fun h9 => by have h8 := h9.1; omega)]; done) | (rw [nI_clamp (by omega), if_neg (fun h9 => h9.2.1 (by first | with_reducible assumption | assumption))]; done) | (have hzk := hz kk (by omega); have e9 := im1 (x := flg kk) hzk.1 hzk.2; rw [nI_clamp (by omega), if_neg (fun h9 => by have h8 := h9.2.2; omega)]; done))⟩, ⟨by rw [ht]; exact hP9, hD9⟩⟩, hS.F ht⟩) hS.2.2 dX11_lay_27
  · skip
    have b13 := if10_n c3
    refine lv_iconst (v := (-1)) hx hb dX11_lay_12 rfl ?_
    have hpost : ((-1) : Int32) = if 0 ≤ k.toInt ∧ k.toInt < 4 then (if fla k.toNatClampNeg = -4 then -11 else if 0 ≤ i.toInt ∧ i.toInt < (flg k.toNatClampNeg).toInt then 1 else -12) else -1 := by
      have t_b13 := b13
      have t_n0 : (nI N).toInt = (N : Int) := tn2156_ ()
      have t_n1 : (nI B).toInt = (B : Int) := tn2157_ ()
      have t_n2 : (nI T).toInt = (T : Int) := tn2158_ ()
      have t_n3 : (nI S).toInt = (S : Int) := tn2159_ ()
      have t_n4 : (nI M).toInt = (M : Int) := tn2160_ ()
      rw [if_neg (by omega)]
    obtain ⟨hP9, hD9⟩ := va_sub2 (ws' := [(h0, .inr (11, [.ref st, .int (nI N), .int (nI B), .ref rp, .int vrs, .int vrb, .int vhs, .int vca, .int vxs, .int vxb, .ref tp, .int (nI T), .int vfa, .int vbr, .int vba, .int vsp, .int vhe, .int vtk, .int vva, .ref cu, .ref lt, .ref od, .ref th, .ref be, .ref ln, .int (nI S), .ref ma, .int (nI M), .ref ah, .ref bh, .ref ik, .ref la, .ref lg, .ref ce, .int vto])), (la, .inl (G 0, 4, .inl fla)), (lg, .inl (G 0, 4, .inl flg)), (ce, .inl (G 0, 160, .inl fce))]) hP hD [0, 1, 2, 3] (by decide +kernel) rfl
    refine W.widen (k := 0) (n := 0) (Nat.le_of_ble_eq_true rfl) (Nat.le_of_ble_eq_true rfl) ?_
    exact W.iret (v := (-1)) hx hb hr (fun t ht hW => ⟨⟨(-1), fce, rfl, ⟨hpost, (by clear hpost; have t_b13 := b13; have tnb_ := nib5 tn2156_ tn2157_ tn2158_ tn2159_ tn2160_; have tqz_ := qz46_; have z4 : (-4 : Int32).toInt = -4 := (by decide); have z10 : (10 : Int32).toInt = 10 := qI_10; first | (rw [if_neg (fun h9 => by have h8 := h9.1; omega)]; done) | (rw [nI_clamp (by omega), if_neg (fun h9 => h9.2.1 (by first | with_reducible assumption | assumption))]; done) | (have hzk := hz kk (by omega); have e9 := im1 (x := flg kk) hzk.1 hzk.2; rw [nI_clamp (by omega), if_neg (fun h9 => by have h8 := h9.2.2; omega)]; done))⟩, ⟨by rw [ht]; exact hP9, hD9⟩⟩, hS.F ht⟩) hS.2.2 dX11_lay_13

set_option maxHeartbeats 1000000 in
set_option maxRecDepth 100000 in
theorem c_X10_layE (l : Launch) (dC : Nat → ClassId) (dI : Nat → Nat → Nat) (G : Nat → ClassId) (sz : Nat) (h0 rd wy tr im kp od ch cr le mk tl sh la si ce fi se : Nat) (tf rf k i v x8 x9 : Int32) (fl fz : Nat → Int32) (rc : Nat → Nat) (F : Nat → Nat → Int32) (hz : ∀ q : Nat, q < 4 → 0 ≤ (fz q).toInt ∧ (fz q).toInt ≤ 40) : Met l yX10_lay (Cond.code yX10_lay cX10_lay 5 (some .int) :: GT) ({ frames := 2, cells := 0, slots := 0, locals := 46 } : Room) (PcW [.ref h0, .int k, .int i, .int v] dC dI G (([(h0, .inr (10, [.ref rd, .ref wy, .ref tr, .ref im, .ref kp, .ref od, .ref ch, .ref cr, .ref le, .ref mk, .ref tl, .ref sh, .int tf, .int rf])), (sh, .inr (6, [.ref la, .ref si, .ref ce, .int x8, .int x9, .ref fi, .ref se])), (la, .inl (G 0, 4, .inl fl)), (si, .inl (G 0, 4, .inl fz)), (ce, .inl (G 4, 4, .inr (.inr (.inr (.inr (fun ir => if ir < 4 then some (rc ir) else none))))))] : va_W) ++ ((((List.range 4).map (fun iq => (rc iq, .inl (G 0, 40, .inl (F iq))))) : va_W) ++ [])) sz) (va_Qi (fun (r : Int32) (u : (Nat → Nat → Int32)) => match u with | u0 => (r = if 0 ≤ k.toInt ∧ k.toInt < 4 then (if fl k.toNatClampNeg = -1 then -11 else if 0 ≤ i.toInt ∧ i.toInt < (fz k.toNatClampNeg).toInt then 1 else -12) else -1) ∧ u0 = (if ((0 ≤ k.toInt ∧ k.toInt < 4) ∧ ¬ fl k.toNatClampNeg = -1 ∧ 0 ≤ i.toInt ∧ i.toInt < (fz k.toNatClampNeg).toInt) then va_up F k.toNatClampNeg (upd (F k.toNatClampNeg) i.toNatClampNeg (nrw (fl k.toNatClampNeg) v)) else F)) (fun (u : (Nat → Nat → Int32)) (t : State) => match u with | u0 => va_P (dC, dI) vwCl (([(h0, .inr (10, [.ref rd, .ref wy, .ref tr, .ref im, .ref kp, .ref od, .ref ch, .ref cr, .ref le, .ref mk, .ref tl, .ref sh, .int tf, .int rf])), (sh, .inr (6, [.ref la, .ref si, .ref ce, .int x8, .int x9, .ref fi, .ref se])), (la, .inl (G 0, 4, .inl fl)), (si, .inl (G 0, 4, .inl fz)), (ce, .inl (G 4, 4, .inr (.inr (.inr (.inr (fun ir => if ir < 4 then some (rc ir) else none))))))] : va_W) ++ ((((List.range 4).map (fun iq => (rc iq, .inl (G 0, 40, .inl (u0 iq))))) : va_W) ++ [])) t.heap ∧ va_D (va_A (([(h0, .inr (10, [.ref rd, .ref wy, .ref tr, .ref im, .ref kp, .ref od, .ref ch, .ref cr, .ref le, .ref mk, .ref tl, .ref sh, .int tf, .int rf])), (sh, .inr (6, [.ref la, .ref si, .ref ce, .int x8, .int x9, .ref fi, .ref se])), (la, .inl (G 0, 4, .inl fl)), (si, .inl (G 0, 4, .inl fz)), (ce, .inl (G 4, 4, .inr (.inr (.inr (.inr (fun ir => if ir < 4 then some (rc ir) else none))))))] : va_W) ++ ((((List.range 4).map (fun iq => (rc iq, .inl (G 0, 40, .inl (F iq))))) : va_W) ++ [])) sz) (([(h0, .inr (10, [.ref rd, .ref wy, .ref tr, .ref im, .ref kp, .ref od, .ref ch, .ref cr, .ref le, .ref mk, .ref tl, .ref sh, .int tf, .int rf])), (sh, .inr (6, [.ref la, .ref si, .ref ce, .int x8, .int x9, .ref fi, .ref se])), (la, .inl (G 0, 4, .inl fl)), (si, .inl (G 0, 4, .inl fz)), (ce, .inl (G 4, 4, .inr (.inr (.inr (.inr (fun ir => if ir < 4 then some (rc ir) else none))))))] : va_W) ++ ((((List.range 4).map (fun iq => (rc iq, .inl (G 0, 40, .inl (u0 iq))))) : va_W) ++ []))) (va_A (([(h0, .inr (10, [.ref rd, .ref wy, .ref tr, .ref im, .ref kp, .ref od, .ref ch, .ref cr, .ref le, .ref mk, .ref tl, .ref sh, .int tf, .int rf])), (sh, .inr (6, [.ref la, .ref si, .ref ce, .int x8, .int x9, .ref fi, .ref se])), (la, .inl (G 0, 4, .inl fl)), (si, .inl (G 0, 4, .inl fz)), (ce, .inl (G 4, 4, .inr (.inr (.inr (.inr (fun ir => if ir < 4 then some (rc ir) else none))))))] : va_W) ++ ((((List.range 4).map (fun iq => (rc iq, .inl (G 0, 40, .inl (F iq))))) : va_W) ++ [])) sz)) 0 0 (va_A (([(h0, .inr (10, [.ref rd, .ref wy, .ref tr, .ref im, .ref kp, .ref od, .ref ch, .ref cr, .ref le, .ref mk, .ref tl, .ref sh, .int tf, .int rf])), (sh, .inr (6, [.ref la, .ref si, .ref ce, .int x8, .int x9, .ref fi, .ref se])), (la, .inl (G 0, 4, .inl fl)), (si, .inl (G 0, 4, .inl fz)), (ce, .inl (G 4, 4, .inr (.inr (.inr (.inr (fun ir => if ir < 4 then some (rc ir) else none))))))] : va_W) ++ ((((List.range 4).map (fun iq => (rc iq, .inl (G 0, 40, .inl (F iq))))) : va_W) ++ [])) sz) := by
  refine Met.ofW (cc := cX10_lay) (maxL := 5) (ret := (some .int)) (by decide) rfl ?_
  intro p e s m args below meth c s₁ Bd hml hv
  obtain ⟨rfl, hsz, hP, hK, hD0⟩ := hv
  have hx := Bd.exec
  have hb := Bd.bytes
  have hr := Bd.returns
  have hg : ∀ w ∈ GT, w.before ([.ref h0, .int k, .int i, .int v] : List Value).toArray s = true := fun w h => atoms_spec (ws := Cond.code yX10_lay cX10_lay 5 (some .int) :: GT) Bd.pre w (List.mem_cons_of_mem _ h)
  have hown : s.vm.findClass RX10 = some m.cls := findClass_of_methodNamed Bd.named
  have hlocks := Bd.notSynchronized
  subst hsz
  have hD := hD0.self (sz := s.heap.size)
  generalize hAe : va_A (([(h0, .inr (10, [.ref rd, .ref wy, .ref tr, .ref im, .ref kp, .ref od, .ref ch, .ref cr, .ref le, .ref mk, .ref tl, .ref sh, .int tf, .int rf])), (sh, .inr (6, [.ref la, .ref si, .ref ce, .int x8, .int x9, .ref fi, .ref se])), (la, .inl (G 0, 4, .inl fl)), (si, .inl (G 0, 4, .inl fz)), (ce, .inl (G 4, 4, .inr (.inr (.inr (.inr (fun ir => if ir < 4 then some (rc ir) else none))))))] : va_W) ++ ((((List.range 4).map (fun iq => (rc iq, .inl (G 0, 40, .inl (F iq))))) : va_W) ++ [])) s.heap.size = A at hD ⊢
  have hA : ∀ q : Nat, s.heap.size ≤ q → A q := fun q h => by rw [← hAe]; exact Or.inr h
  have hS : va_S A s.heap s.heap [] := va_S.rf
  have hl := lv_entry ([.ref h0, .int k, .int i, .int v]) (n := 5) (Nat.le_of_ble_eq_true rfl)
  rw [lg_entry_eq]
  generalize (lg_sl ([.ref h0, .int k, .int i, .int v]) ++ List.replicate (5 - (lg_sl ([.ref h0, .int k, .int i, .int v])).length) Slot.unset).toArray = ls at hl ⊢
  have hl : lv_has ls 5 [(0, .ref h0), (1, .int k), (2, .int i), (3, .int v)] := hl
  refine lv_iload_n hx hb dX10_lay_0 rfl (lv_at hl 1 rfl) ?_
  have hPc := hP.sub (ws' := []) [] rfl
  refine va_calli (va_runSN (As := [.int k]) (rest := []) ⟨hx, hb, hml, hown, hg⟩ (c_X6_isSheet l dC dI G _ k) (kwSN hg hK mfX6_isSheet wn_823 ⟨Nat.le_of_ble_eq_true rfl, Nat.le_of_ble_eq_true rfl⟩) (preSR hK hPc) rfl rfl hl.1 rfl (lv_room (Nat.le_of_ble_eq_true rfl)) dX10_lay_1 ⟨Nat.le_of_ble_eq_true rfl, Nat.le_of_ble_eq_true rfl⟩) hS (fun q h1 h2 => absurd h2 (Nat.not_le.mpr h1)) (fun q h => hA q (Nat.le_trans hS.1 h)) (fun r1 ur1 t H1 locs ht hvm w2 hB hz1 hk1 hS => ?_)
  have hP := keepR hP hk1
  obtain ⟨w2, w2x⟩ := w2
  try simp only [l_ii, show (0 : Int32).toInt = 0 from by decide, show (4 : Int32).toInt = 4 from by decide] at w2
  subst w2
  refine lv_if_ne (tgt := 9) hx hb dX10_lay_4 rfl (fun c3 => ?_) (fun c3 => ?_)
  · skip
    have b4 := if10_p c3
    obtain ⟨kk, hkk, rfl⟩ : ∃ j : Nat, j < 4 ∧ k = nI j := by
      have t_b4 := b4
      exact i32_nat (by omega) (by omega)
    refine lv_aload_n hx hb dX10_lay_9 rfl (lv_at hl 0 rfl) ?_
    refine va_get (D := (dC, dI)) (ci := 10) (v := .ref sh) (C := RX10) (T := TX10) (N := 14) hx hb hg inG10 hown hK.1 hP 0 rfl rfl 11 (Nat.le_of_ble_eq_true rfl) (hg _ wt_313) (fun _ h9 => h9) rfl dX10_lay_10 ?_
    refine lv_iload_n hx hb dX10_lay_13 rfl (lv_at hl 1 rfl) ?_
    refine lv_iload_n hx hb dX10_lay_14 rfl (lv_at hl 2 rfl) ?_
    refine lv_i2l (v := i.toInt64) hx hb dX10_lay_15 rfl ?_
    have hPc := hP.sub (ws' := [(sh, .inr (6, [.ref la, .ref si, .ref ce, .int x8, .int x9, .ref fi, .ref se])), (la, .inl (G 0, 4, .inl fl)), (si, .inl (G 0, 4, .inl fz))]) [1, 2, 3] rfl
    have tn2163_ : nIT kk := fun _ => nI_toInt (by first | omega | (have t_b4 := b4; have t_hkk := hkk; omega))
    refine va_calli (va_runVN (As := [.int (nI kk), .long i.toInt64]) (rest := []) ⟨hx, hb, hml, hown, hg⟩ (c_X6_faultAt l dC dI G _ sh la si ce fi se kk x8 x9 i.toInt64 fl fz (by first | omega | (have t_b4 := b4; have t_hkk := hkk; have t_n0 : (nI kk).toInt = (kk : Int) := tn2163_ (); omega))) (kwVN hg hK mfX6_faultAt wn_838 ⟨Nat.le_of_ble_eq_true rfl, Nat.le_of_ble_eq_true rfl⟩) (preVR hK hPc (ci := 6) (r := (RX6, TX6, 7)) rfl rfl) rfl rfl hl.1 rfl (lv_room (Nat.le_of_ble_eq_true rfl)) dX10_lay_16 ⟨Nat.le_of_ble_eq_true rfl, Nat.le_of_ble_eq_true rfl⟩) hS (fun q h1 h2 => absurd h2 (Nat.not_le.mpr h1)) (fun q h => hA q (Nat.le_trans hS.1 h)) (fun r5 ur5 t H1 locs ht hvm w6 hB hz1 hk1 hS => ?_)
    have hP := keepR hP hk1
    obtain ⟨w6, w6x⟩ := w6
    refine lv_istore (lv' := [(4, .int r5), (0, .ref h0), (1, .int (nI kk)), (2, .int i), (3, .int v)]) hx hb dX10_lay_19 hl (by decide) rfl (fun ls hl => ?_)
    refine lv_iload hx hb dX10_lay_21 (lv_at hl 0 rfl) ?_
    refine lv_if_eq (tgt := 32) hx hb dX10_lay_23 rfl (fun c7 => ?_) (fun c7 => ?_)
    · skip
      have b8 := fz0 w6 c7
      refine lv_aload_n hx hb dX10_lay_32 rfl (lv_at hl 1 rfl) ?_
      refine va_get (D := (dC, dI)) (ci := 10) (v := .ref sh) (C := RX10) (T := TX10) (N := 14) hx hb hg inG10 hown hK.1 hP 0 rfl rfl 11 (Nat.le_of_ble_eq_true rfl) (hg _ wt_313) (fun _ h9 => h9) rfl dX10_lay_33 ?_
      refine lv_iload_n hx hb dX10_lay_36 rfl (lv_at hl 2 rfl) ?_
      refine lv_iload_n hx hb dX10_lay_37 rfl (lv_at hl 3 rfl) ?_
      refine lv_iload_n hx hb dX10_lay_38 rfl (lv_at hl 4 rfl) ?_
      obtain ⟨hPc, hDc, hFc⟩ := va_sub3 (ws' := (([(sh, .inr (6, [.ref la, .ref si, .ref ce, .int x8, .int x9, .ref fi, .ref se])), (la, .inl (G 0, 4, .inl fl)), (si, .inl (G 0, 4, .inl fz)), (ce, .inl (G 4, 4, .inr (.inr (.inr (.inr (fun ir => if ir < 4 then some (rc ir) else none))))))] : va_W) ++ ((((List.range 4).map (fun iq => (rc iq, .inl (G 0, 40, .inl (F iq))))) : va_W) ++ []))) hP hD hS hA [1, 2, 3, 4, 5, 6, 7, 8] (by decide +kernel) rfl
      refine va_callv (va_runVN (As := [.int (nI kk), .int i, .int v]) (rest := []) ⟨hx, hb, hml, hown, hg⟩ (c_X6_fillE l dC dI G _ sh la si ce fi se kk x8 x9 i v fl fz rc F (by omega) hz) (kwVN hg hK mfX6_fill wn_842 ⟨Nat.le_of_ble_eq_true rfl, Nat.le_of_ble_eq_true rfl⟩) (preVW hK hPc hDc (ci := 6) (r := (RX6, TX6, 7)) rfl rfl) rfl rfl hl.1 rfl (lv_room (Nat.le_of_ble_eq_true rfl)) dX10_lay_39 ⟨Nat.le_of_ble_eq_true rfl, Nat.le_of_ble_eq_true rfl⟩) hS (fun q _ h => hFc q h) hFc (fun ur9 t H1 locs ht hvm w10 hB hz1 hk1 hS => ?_)
      obtain ⟨u11, rfl⟩ : ∃ z, z = ur9 := ⟨_, rfl⟩
      obtain ⟨hP1, hD1⟩ := hB
      rw [ht] at hP1
      obtain ⟨hP, hD⟩ := va_join (wr := [(h0, .inr (10, [.ref rd, .ref wy, .ref tr, .ref im, .ref kp, .ref od, .ref ch, .ref cr, .ref le, .ref mk, .ref tl, .ref sh, .int tf, .int rf]))]) (w1 := (([(sh, .inr (6, [.ref la, .ref si, .ref ce, .int x8, .int x9, .ref fi, .ref se])), (la, .inl (G 0, 4, .inl fl)), (si, .inl (G 0, 4, .inl fz)), (ce, .inl (G 4, 4, .inr (.inr (.inr (.inr (fun ir => if ir < 4 then some (rc ir) else none))))))] : va_W) ++ ((((List.range 4).map (fun iq => (rc iq, .inl (G 0, 40, .inl (u11 iq))))) : va_W) ++ []))) hP hD [1, 2, 3, 4, 5, 6, 7, 8] [0] rfl rfl (by decide +kernel) (by decide +kernel) hk1 hFc hP1 hD1
      have w10 : u11 = (if (¬ fl kk = -1 ∧ 0 ≤ i.toInt ∧ i.toInt < (fz kk).toInt) then va_up F kk (upd (F kk) i.toNatClampNeg (nrw (fl kk) v)) else F) := w10
      generalize H1 = H at hP hS ⊢
      refine lv_iconst (v := 1) hx hb dX10_lay_42 rfl ?_
      have hpost : (1 : Int32) = if 0 ≤ (nI kk).toInt ∧ (nI kk).toInt < 4 then (if fl (nI kk).toNatClampNeg = -1 then -11 else if 0 ≤ i.toInt ∧ i.toInt < (fz (nI kk).toNatClampNeg).toInt then 1 else -12) else -1 := by
        have t_b4 := b4
        have t_hkk := hkk
        have t_b8 := b8
        have t_n0 : (nI kk).toInt = (kk : Int) := tn2163_ ()
        rw [nI_clamp (by omega), if_pos (by omega)]
        have q9 := w6
        simp only [l_ii] at q9
        have c9 : r5 = 0 := by assumption
        rw [c9] at q9
        split at q9
        · exact absurd q9 (by decide)
        · rename_i d; rw [if_neg d]; split at q9
          · exact absurd q9 (by decide)
          · rename_i g; rw [if_pos (by omega)]
      obtain ⟨hP9, hD9⟩ := va_sub2 (ws' := (([(h0, .inr (10, [.ref rd, .ref wy, .ref tr, .ref im, .ref kp, .ref od, .ref ch, .ref cr, .ref le, .ref mk, .ref tl, .ref sh, .int tf, .int rf])), (sh, .inr (6, [.ref la, .ref si, .ref ce, .int x8, .int x9, .ref fi, .ref se])), (la, .inl (G 0, 4, .inl fl)), (si, .inl (G 0, 4, .inl fz)), (ce, .inl (G 4, 4, .inr (.inr (.inr (.inr (fun ir => if ir < 4 then some (rc ir) else none))))))] : va_W) ++ ((((List.range 4).map (fun iq => (rc iq, .inl (G 0, 40, .inl (u11 iq))))) : va_W) ++ []))) hP hD [0, 1, 2, 3, 4, 5, 6, 7, 8] (by decide +kernel) rfl
      refine W.widen (k := 0) (n := 0) (Nat.le_of_ble_eq_true rfl) (Nat.le_of_ble_eq_true rfl) ?_
      exact W.iret (v := 1) hx hb hr (fun t ht hW => ⟨⟨1, u11, rfl, ⟨hpost, (by clear hpost; have t_b4 := b4; have t_hkk := hkk; have t_b8 := b8; have t_n0 : (nI kk).toInt = (kk : Int) := tn2163_ (); have tqz_ := qz46_; have z4 : (-4 : Int32).toInt = -4 := (by decide); have z10 : (10 : Int32).toInt = 10 := qI_10; have e64 := l_ii i; have q9 := fa0 w6 (by first | with_reducible assumption | assumption); rw [e64] at q9; have q8 := w10; rw [if_pos q9] at q8; rw [nI_clamp (by omega), if_pos ⟨by omega, q9⟩]; exact q8)⟩, ⟨by rw [ht]; exact hP9, hD9⟩⟩, hS.F ht⟩) hS.2.2 dX10_lay_43
    · skip
      refine lv_bipush (v := (-10)) hx hb dX10_lay_26 rfl ?_
      refine lv_iload hx hb dX10_lay_28 (lv_at hl 0 rfl) ?_
      refine lv_isub hx hb dX10_lay_30 ?_
      have hpost : ((-10) - r5 : Int32) = if 0 ≤ (nI kk).toInt ∧ (nI kk).toInt < 4 then (if fl (nI kk).toNatClampNeg = -1 then -11 else if 0 ≤ i.toInt ∧ i.toInt < (fz (nI kk).toNatClampNeg).toInt then 1 else -12) else -1 := by
        have t_b4 := b4
        have t_hkk := hkk
        have t_c7 := neI c7
        have : (0 : Int32).toInt = 0 := qI_0
        have t_n0 : (nI kk).toInt = (kk : Int) := tn2163_ ()
        rw [nI_clamp (by omega), if_pos (by omega)]
        have q9 := w6
        simp only [l_ii] at q9
        split at q9
        · rename_i d; rw [q9, if_pos d]; decide
        · rename_i d; rw [if_neg d]; split at q9
          · rename_i g; rw [q9, if_neg (by omega)]; decide
          · exact absurd q9 (by first | with_reducible assumption | assumption)
      obtain ⟨hP9, hD9⟩ := va_sub2 (ws' := (([(h0, .inr (10, [.ref rd, .ref wy, .ref tr, .ref im, .ref kp, .ref od, .ref ch, .ref cr, .ref le, .ref mk, .ref tl, .ref sh, .int tf, .int rf])), (sh, .inr (6, [.ref la, .ref si, .ref ce, .int x8, .int x9, .ref fi, .ref se])), (la, .inl (G 0, 4, .inl fl)), (si, .inl (G 0, 4, .inl fz)), (ce, .inl (G 4, 4, .inr (.inr (.inr (.inr (fun ir => if ir < 4 then some (rc ir) else none))))))] : va_W) ++ ((((List.range 4).map (fun iq => (rc iq, .inl (G 0, 40, .inl (F iq))))) : va_W) ++ []))) hP hD [0, 1, 2, 3, 4, 5, 6, 7, 8] (by decide +kernel) rfl
      refine W.widen (k := 0) (n := 0) (Nat.le_of_ble_eq_true rfl) (Nat.le_of_ble_eq_true rfl) ?_
      exact W.iret (v := (-10) - r5) hx hb hr (fun t ht hW => ⟨⟨(-10) - r5, F, rfl, ⟨hpost, (by clear hpost; have t_b4 := b4; have t_hkk := hkk; have t_c7 := neI c7; have : (0 : Int32).toInt = 0 := qI_0; have t_n0 : (nI kk).toInt = (kk : Int) := tn2163_ (); have tqz_ := qz46_; have z4 : (-4 : Int32).toInt = -4 := (by decide); have z10 : (10 : Int32).toInt = 10 := qI_10; have e64 := l_ii i; have q9 := faN w6 (by first | with_reducible assumption | assumption); rw [e64] at q9; rw [nI_clamp (by omega), if_neg (fun h9 => q9 h9.2)])⟩, ⟨by rw [ht]; exact hP9, hD9⟩⟩, hS.F ht⟩) hS.2.2 dX10_lay_31
  · skip
    have b12 := if10_n c3
    refine lv_iconst (v := (-1)) hx hb dX10_lay_7 rfl ?_
    have hpost : ((-1) : Int32) = if 0 ≤ k.toInt ∧ k.toInt < 4 then (if fl k.toNatClampNeg = -1 then -11 else if 0 ≤ i.toInt ∧ i.toInt < (fz k.toNatClampNeg).toInt then 1 else -12) else -1 := by
      have t_b12 := b12
      rw [if_neg (by omega)]
    obtain ⟨hP9, hD9⟩ := va_sub2 (ws' := (([(h0, .inr (10, [.ref rd, .ref wy, .ref tr, .ref im, .ref kp, .ref od, .ref ch, .ref cr, .ref le, .ref mk, .ref tl, .ref sh, .int tf, .int rf])), (sh, .inr (6, [.ref la, .ref si, .ref ce, .int x8, .int x9, .ref fi, .ref se])), (la, .inl (G 0, 4, .inl fl)), (si, .inl (G 0, 4, .inl fz)), (ce, .inl (G 4, 4, .inr (.inr (.inr (.inr (fun ir => if ir < 4 then some (rc ir) else none))))))] : va_W) ++ ((((List.range 4).map (fun iq => (rc iq, .inl (G 0, 40, .inl (F iq))))) : va_W) ++ []))) hP hD [0, 1, 2, 3, 4, 5, 6, 7, 8] (by decide +kernel) rfl
    refine W.widen (k := 0) (n := 0) (Nat.le_of_ble_eq_true rfl) (Nat.le_of_ble_eq_true rfl) ?_
    exact W.iret (v := (-1)) hx hb hr (fun t ht hW => ⟨⟨(-1), F, rfl, ⟨hpost, (by clear hpost; have t_b12 := b12; have tqz_ := qz46_; have z4 : (-4 : Int32).toInt = -4 := (by decide); have z10 : (10 : Int32).toInt = 10 := qI_10; have e64 := l_ii i; rw [if_neg (fun h9 => by have h8 := h9.1; omega)])⟩, ⟨by rw [ht]; exact hP9, hD9⟩⟩, hS.F ht⟩) hS.2.2 dX10_lay_8

set_option maxHeartbeats 1000000 in
set_option maxRecDepth 100000 in
theorem c_X10_sheetE (l : Launch) (dC : Nat → ClassId) (dI : Nat → Nat → Nat) (G : Nat → ClassId) (sz : Nat) (h0 rd wy tr im kp od ch cr le mk tl sh la si ce fi se : Nat) (tf rf k lane n x8 x9 : Int32) (fl fz : Nat → Int32) (rc : Nat → Nat) (F : Nat → Nat → Int32) (hz : ∀ q : Nat, q < 4 → 0 ≤ (fz q).toInt ∧ (fz q).toInt ≤ 40) : Met l yX10_sheet (Cond.code yX10_sheet cX10_sheet 4 (some .int) :: GT) ({ frames := 2, cells := 0, slots := 0, locals := 44 } : Room) (PcW [.ref h0, .int k, .int lane, .int n] dC dI G (([(h0, .inr (10, [.ref rd, .ref wy, .ref tr, .ref im, .ref kp, .ref od, .ref ch, .ref cr, .ref le, .ref mk, .ref tl, .ref sh, .int tf, .int rf])), (sh, .inr (6, [.ref la, .ref si, .ref ce, .int x8, .int x9, .ref fi, .ref se])), (la, .inl (G 0, 4, .inl fl)), (si, .inl (G 0, 4, .inl fz)), (ce, .inl (G 4, 4, .inr (.inr (.inr (.inr (fun ir => if ir < 4 then some (rc ir) else none))))))] : va_W) ++ ((((List.range 4).map (fun iq => (rc iq, .inl (G 0, 40, .inl (F iq))))) : va_W) ++ [])) sz) (va_Qi (fun (r : Int32) (u : (Nat → Int32) × (Nat → Int32) × (Nat → Nat → Int32)) => match u with | (u0, u1, u2) => (r = if (0 ≤ k.toInt ∧ k.toInt < 4) ∧ (0 ≤ lane.toInt ∧ lane.toInt ≤ 2) ∧ n.toInt ≤ 40 then (if n.toInt < 0 then -14 else 1) else -1) ∧ ((u0 = (if ((0 ≤ k.toInt ∧ k.toInt < 4) ∧ (0 ≤ lane.toInt ∧ lane.toInt ≤ 2) ∧ n.toInt ≤ 40 ∧ 0 ≤ n.toInt) then upd fl k.toNatClampNeg lane else fl) ∧ u1 = (if ((0 ≤ k.toInt ∧ k.toInt < 4) ∧ (0 ≤ lane.toInt ∧ lane.toInt ≤ 2) ∧ n.toInt ≤ 40 ∧ 0 ≤ n.toInt) then upd fz k.toNatClampNeg n else fz)) ∧ ∀ q : Nat, q < 4 → 0 ≤ (u1 q).toInt ∧ (u1 q).toInt ≤ 40) ∧ u2 = (if ((0 ≤ k.toInt ∧ k.toInt < 4) ∧ (0 ≤ lane.toInt ∧ lane.toInt ≤ 2) ∧ n.toInt ≤ 40 ∧ 0 ≤ n.toInt) then va_up F k.toNatClampNeg (zpF n.toNatClampNeg (F k.toNatClampNeg)) else F)) (fun (u : (Nat → Int32) × (Nat → Int32) × (Nat → Nat → Int32)) (t : State) => match u with | (u0, u1, u2) => va_P (dC, dI) vwCl (([(h0, .inr (10, [.ref rd, .ref wy, .ref tr, .ref im, .ref kp, .ref od, .ref ch, .ref cr, .ref le, .ref mk, .ref tl, .ref sh, .int tf, .int rf])), (sh, .inr (6, [.ref la, .ref si, .ref ce, .int x8, .int x9, .ref fi, .ref se])), (la, .inl (G 0, 4, .inl u0)), (si, .inl (G 0, 4, .inl u1)), (ce, .inl (G 4, 4, .inr (.inr (.inr (.inr (fun ir => if ir < 4 then some (rc ir) else none))))))] : va_W) ++ ((((List.range 4).map (fun iq => (rc iq, .inl (G 0, 40, .inl (u2 iq))))) : va_W) ++ [])) t.heap ∧ va_D (va_A (([(h0, .inr (10, [.ref rd, .ref wy, .ref tr, .ref im, .ref kp, .ref od, .ref ch, .ref cr, .ref le, .ref mk, .ref tl, .ref sh, .int tf, .int rf])), (sh, .inr (6, [.ref la, .ref si, .ref ce, .int x8, .int x9, .ref fi, .ref se])), (la, .inl (G 0, 4, .inl fl)), (si, .inl (G 0, 4, .inl fz)), (ce, .inl (G 4, 4, .inr (.inr (.inr (.inr (fun ir => if ir < 4 then some (rc ir) else none))))))] : va_W) ++ ((((List.range 4).map (fun iq => (rc iq, .inl (G 0, 40, .inl (F iq))))) : va_W) ++ [])) sz) (([(h0, .inr (10, [.ref rd, .ref wy, .ref tr, .ref im, .ref kp, .ref od, .ref ch, .ref cr, .ref le, .ref mk, .ref tl, .ref sh, .int tf, .int rf])), (sh, .inr (6, [.ref la, .ref si, .ref ce, .int x8, .int x9, .ref fi, .ref se])), (la, .inl (G 0, 4, .inl u0)), (si, .inl (G 0, 4, .inl u1)), (ce, .inl (G 4, 4, .inr (.inr (.inr (.inr (fun ir => if ir < 4 then some (rc ir) else none))))))] : va_W) ++ ((((List.range 4).map (fun iq => (rc iq, .inl (G 0, 40, .inl (u2 iq))))) : va_W) ++ []))) (va_A (([(h0, .inr (10, [.ref rd, .ref wy, .ref tr, .ref im, .ref kp, .ref od, .ref ch, .ref cr, .ref le, .ref mk, .ref tl, .ref sh, .int tf, .int rf])), (sh, .inr (6, [.ref la, .ref si, .ref ce, .int x8, .int x9, .ref fi, .ref se])), (la, .inl (G 0, 4, .inl fl)), (si, .inl (G 0, 4, .inl fz)), (ce, .inl (G 4, 4, .inr (.inr (.inr (.inr (fun ir => if ir < 4 then some (rc ir) else none))))))] : va_W) ++ ((((List.range 4).map (fun iq => (rc iq, .inl (G 0, 40, .inl (F iq))))) : va_W) ++ [])) sz)) 0 0 (va_A (([(h0, .inr (10, [.ref rd, .ref wy, .ref tr, .ref im, .ref kp, .ref od, .ref ch, .ref cr, .ref le, .ref mk, .ref tl, .ref sh, .int tf, .int rf])), (sh, .inr (6, [.ref la, .ref si, .ref ce, .int x8, .int x9, .ref fi, .ref se])), (la, .inl (G 0, 4, .inl fl)), (si, .inl (G 0, 4, .inl fz)), (ce, .inl (G 4, 4, .inr (.inr (.inr (.inr (fun ir => if ir < 4 then some (rc ir) else none))))))] : va_W) ++ ((((List.range 4).map (fun iq => (rc iq, .inl (G 0, 40, .inl (F iq))))) : va_W) ++ [])) sz) := by
  refine Met.ofW (cc := cX10_sheet) (maxL := 4) (ret := (some .int)) (by decide) rfl ?_
  intro p e s m args below meth c s₁ Bd hml hv
  obtain ⟨rfl, hsz, hP, hK, hD0⟩ := hv
  have hx := Bd.exec
  have hb := Bd.bytes
  have hr := Bd.returns
  have hg : ∀ w ∈ GT, w.before ([.ref h0, .int k, .int lane, .int n] : List Value).toArray s = true := fun w h => atoms_spec (ws := Cond.code yX10_sheet cX10_sheet 4 (some .int) :: GT) Bd.pre w (List.mem_cons_of_mem _ h)
  have hown : s.vm.findClass RX10 = some m.cls := findClass_of_methodNamed Bd.named
  have hlocks := Bd.notSynchronized
  subst hsz
  have hD := hD0.self (sz := s.heap.size)
  generalize hAe : va_A (([(h0, .inr (10, [.ref rd, .ref wy, .ref tr, .ref im, .ref kp, .ref od, .ref ch, .ref cr, .ref le, .ref mk, .ref tl, .ref sh, .int tf, .int rf])), (sh, .inr (6, [.ref la, .ref si, .ref ce, .int x8, .int x9, .ref fi, .ref se])), (la, .inl (G 0, 4, .inl fl)), (si, .inl (G 0, 4, .inl fz)), (ce, .inl (G 4, 4, .inr (.inr (.inr (.inr (fun ir => if ir < 4 then some (rc ir) else none))))))] : va_W) ++ ((((List.range 4).map (fun iq => (rc iq, .inl (G 0, 40, .inl (F iq))))) : va_W) ++ [])) s.heap.size = A at hD ⊢
  have hA : ∀ q : Nat, s.heap.size ≤ q → A q := fun q h => by rw [← hAe]; exact Or.inr h
  have hS : va_S A s.heap s.heap [] := va_S.rf
  have hl := lv_entry ([.ref h0, .int k, .int lane, .int n]) (n := 4) (Nat.le_of_ble_eq_true rfl)
  rw [lg_entry_eq]
  generalize (lg_sl ([.ref h0, .int k, .int lane, .int n]) ++ List.replicate (4 - (lg_sl ([.ref h0, .int k, .int lane, .int n])).length) Slot.unset).toArray = ls at hl ⊢
  have hl : lv_has ls 4 [(0, .ref h0), (1, .int k), (2, .int lane), (3, .int n)] := hl
  refine lv_iload_n hx hb dX10_sheet_0 rfl (lv_at hl 1 rfl) ?_
  have hPc := hP.sub (ws' := []) [] rfl
  refine va_calli (va_runSN (As := [.int k]) (rest := []) ⟨hx, hb, hml, hown, hg⟩ (c_X6_isSheet l dC dI G _ k) (kwSN hg hK mfX6_isSheet wn_823 ⟨Nat.le_of_ble_eq_true rfl, Nat.le_of_ble_eq_true rfl⟩) (preSR hK hPc) rfl rfl hl.1 rfl (lv_room (Nat.le_of_ble_eq_true rfl)) dX10_sheet_1 ⟨Nat.le_of_ble_eq_true rfl, Nat.le_of_ble_eq_true rfl⟩) hS (fun q h1 h2 => absurd h2 (Nat.not_le.mpr h1)) (fun q h => hA q (Nat.le_trans hS.1 h)) (fun r1 ur1 t H1 locs ht hvm w2 hB hz1 hk1 hS => ?_)
  have hP := keepR hP hk1
  obtain ⟨w2, w2x⟩ := w2
  try simp only [l_ii, show (0 : Int32).toInt = 0 from by decide, show (4 : Int32).toInt = 4 from by decide] at w2
  subst w2
  refine lv_if_eq (tgt := 20) hx hb dX10_sheet_4 rfl (fun c3 => ?_) (fun c3 => ?_)
  · skip
    have b4 := if10_n c3
    refine lv_iconst (v := (-1)) hx hb dX10_sheet_20 rfl ?_
    have hpost : ((-1) : Int32) = if (0 ≤ k.toInt ∧ k.toInt < 4) ∧ (0 ≤ lane.toInt ∧ lane.toInt ≤ 2) ∧ n.toInt ≤ 40 then (if n.toInt < 0 then -14 else 1) else -1 := by
      have t_b4 := b4
      first | rfl | ((repeat' split) <;> first | rfl | omega)
    obtain ⟨hP9, hD9⟩ := va_sub2 (ws' := (([(h0, .inr (10, [.ref rd, .ref wy, .ref tr, .ref im, .ref kp, .ref od, .ref ch, .ref cr, .ref le, .ref mk, .ref tl, .ref sh, .int tf, .int rf])), (sh, .inr (6, [.ref la, .ref si, .ref ce, .int x8, .int x9, .ref fi, .ref se])), (la, .inl (G 0, 4, .inl fl)), (si, .inl (G 0, 4, .inl fz)), (ce, .inl (G 4, 4, .inr (.inr (.inr (.inr (fun ir => if ir < 4 then some (rc ir) else none))))))] : va_W) ++ ((((List.range 4).map (fun iq => (rc iq, .inl (G 0, 40, .inl (F iq))))) : va_W) ++ []))) hP hD [0, 1, 2, 3, 4, 5, 6, 7, 8] (by decide +kernel) rfl
    refine W.widen (k := 0) (n := 0) (Nat.le_of_ble_eq_true rfl) (Nat.le_of_ble_eq_true rfl) ?_
    exact W.iret (v := (-1)) hx hb hr (fun t ht hW => ⟨⟨(-1), (fl, fz, F), rfl, ⟨hpost, ⟨(by have t_b4 := b4; refine ⟨⟨?_, ?_⟩, hz⟩ <;> rw [if_neg (by omega)]), (by have t_b4 := b4; rw [if_neg (by omega)])⟩⟩, ⟨by rw [ht]; exact hP9, hD9⟩⟩, hS.F ht⟩) hS.2.2 dX10_sheet_21
  · skip
    have b5 := if10_p c3
    refine lv_iload_n hx hb dX10_sheet_7 rfl (lv_at hl 2 rfl) ?_
    have hPc := hP.sub (ws' := []) [] rfl
    refine va_calli (va_runSN (As := [.int lane]) (rest := []) ⟨hx, hb, hml, hown, hg⟩ (c_X6_isLane l dC dI G _ lane) (kwSN hg hK mfX6_isLane wn_826 ⟨Nat.le_of_ble_eq_true rfl, Nat.le_of_ble_eq_true rfl⟩) (preSR hK hPc) rfl rfl hl.1 rfl (lv_room (Nat.le_of_ble_eq_true rfl)) dX10_sheet_8 ⟨Nat.le_of_ble_eq_true rfl, Nat.le_of_ble_eq_true rfl⟩) hS (fun q h1 h2 => absurd h2 (Nat.not_le.mpr h1)) (fun q h => hA q (Nat.le_trans hS.1 h)) (fun r6 ur6 t H1 locs ht hvm w7 hB hz1 hk1 hS => ?_)
    have hP := keepR hP hk1
    obtain ⟨w7, w7x⟩ := w7
    try simp only [l_ii, show (0 : Int32).toInt = 0 from by decide, show (2 : Int32).toInt = 2 from by decide] at w7
    subst w7
    refine lv_if_eq (tgt := 20) hx hb dX10_sheet_11 rfl (fun c8 => ?_) (fun c8 => ?_)
    · skip
      have b9 := if10_n c8
      refine lv_iconst (v := (-1)) hx hb dX10_sheet_20 rfl ?_
      have hpost : ((-1) : Int32) = if (0 ≤ k.toInt ∧ k.toInt < 4) ∧ (0 ≤ lane.toInt ∧ lane.toInt ≤ 2) ∧ n.toInt ≤ 40 then (if n.toInt < 0 then -14 else 1) else -1 := by
        have t_b5 := b5
        have t_b9 := b9
        first | rfl | ((repeat' split) <;> first | rfl | omega)
      obtain ⟨hP9, hD9⟩ := va_sub2 (ws' := (([(h0, .inr (10, [.ref rd, .ref wy, .ref tr, .ref im, .ref kp, .ref od, .ref ch, .ref cr, .ref le, .ref mk, .ref tl, .ref sh, .int tf, .int rf])), (sh, .inr (6, [.ref la, .ref si, .ref ce, .int x8, .int x9, .ref fi, .ref se])), (la, .inl (G 0, 4, .inl fl)), (si, .inl (G 0, 4, .inl fz)), (ce, .inl (G 4, 4, .inr (.inr (.inr (.inr (fun ir => if ir < 4 then some (rc ir) else none))))))] : va_W) ++ ((((List.range 4).map (fun iq => (rc iq, .inl (G 0, 40, .inl (F iq))))) : va_W) ++ []))) hP hD [0, 1, 2, 3, 4, 5, 6, 7, 8] (by decide +kernel) rfl
      refine W.widen (k := 0) (n := 0) (Nat.le_of_ble_eq_true rfl) (Nat.le_of_ble_eq_true rfl) ?_
      exact W.iret (v := (-1)) hx hb hr (fun t ht hW => ⟨⟨(-1), (fl, fz, F), rfl, ⟨hpost, ⟨(by have t_b5 := b5; have t_b9 := b9; refine ⟨⟨?_, ?_⟩, hz⟩ <;> rw [if_neg (by omega)]), (by have t_b5 := b5; have t_b9 := b9; rw [if_neg (by omega)])⟩⟩, ⟨by rw [ht]; exact hP9, hD9⟩⟩, hS.F ht⟩) hS.2.2 dX10_sheet_21
    · skip
      have b10 := if10_p c8
      refine lv_iload_n hx hb dX10_sheet_14 rfl (lv_at hl 3 rfl) ?_
      refine lv_bipush (v := 40) hx hb dX10_sheet_15 rfl ?_
      refine lv_icmp_le (tgt := 22) hx hb dX10_sheet_17 rfl (fun c11 => ?_) (fun c11 => ?_)
      · skip
        refine lv_iload_n hx hb dX10_sheet_22 rfl (lv_at hl 3 rfl) ?_
        refine lv_if_ge (tgt := 29) hx hb dX10_sheet_23 rfl (fun c12 => ?_) (fun c12 => ?_)
        · skip
          obtain ⟨kk, hkk, rfl⟩ : ∃ j : Nat, j < 4 ∧ k = nI j := by
            have t_b5 := b5
            have t_b10 := b10
            have t_c11 := leI c11
            have t_c12 := leI c12
            have : (0 : Int32).toInt = 0 := qI_0
            have : (40 : Int32).toInt = 40 := qI_40
            exact i32_nat (by omega) (by omega)
          obtain ⟨nn, hnn, rfl⟩ : ∃ j : Nat, j < 41 ∧ n = nI j := by
            have t_b5 := b5
            have t_b10 := b10
            have t_c11 := leI c11
            have t_c12 := leI c12
            have t_hkk := hkk
            have : (0 : Int32).toInt = 0 := qI_0
            have : (40 : Int32).toInt = 40 := qI_40
            have tn2164_ : nIT kk := fun _ => nI_toInt (by omega)
            have t_n0 : (nI kk).toInt = (kk : Int) := tn2164_ ()
            exact i32_nat (by omega) (by omega)
          refine lv_aload_n hx hb dX10_sheet_29 rfl (lv_at hl 0 rfl) ?_
          refine va_get (D := (dC, dI)) (ci := 10) (v := .ref sh) (C := RX10) (T := TX10) (N := 14) hx hb hg inG10 hown hK.1 hP 0 rfl rfl 11 (Nat.le_of_ble_eq_true rfl) (hg _ wt_313) (fun _ h9 => h9) rfl dX10_sheet_30 ?_
          refine lv_iload_n hx hb dX10_sheet_33 rfl (lv_at hl 1 rfl) ?_
          refine lv_iload_n hx hb dX10_sheet_34 rfl (lv_at hl 2 rfl) ?_
          refine lv_iload_n hx hb dX10_sheet_35 rfl (lv_at hl 3 rfl) ?_
          obtain ⟨hPc, hDc, hFc⟩ := va_sub3 (ws' := (([(sh, .inr (6, [.ref la, .ref si, .ref ce, .int x8, .int x9, .ref fi, .ref se])), (la, .inl (G 0, 4, .inl fl)), (si, .inl (G 0, 4, .inl fz)), (ce, .inl (G 4, 4, .inr (.inr (.inr (.inr (fun ir => if ir < 4 then some (rc ir) else none))))))] : va_W) ++ ((((List.range 4).map (fun iq => (rc iq, .inl (G 0, 40, .inl (F iq))))) : va_W) ++ []))) hP hD hS hA [1, 2, 3, 4, 5, 6, 7, 8] (by decide +kernel) rfl
          have tn2165_ : nIT kk := fun _ => nI_toInt (by first | omega | (have t_b5 := b5; have t_b10 := b10; have t_c11 := leI c11; have t_c12 := leI c12; have t_hkk := hkk; have t_hnn := hnn; have tqz_ := qz11_; omega))
          have tn2166_ : nIT nn := fun _ => nI_toInt (by first | omega | (have t_b5 := b5; have t_b10 := b10; have t_c11 := leI c11; have t_c12 := leI c12; have t_hkk := hkk; have t_hnn := hnn; have tqz_ := qz11_; omega))
          refine va_callv (va_runVN (As := [.int (nI kk), .int lane, .int (nI nn)]) (rest := []) ⟨hx, hb, hml, hown, hg⟩ (c_X6_renewE l dC dI G _ sh la si ce fi se kk nn x8 x9 lane fl fz rc F (by first | omega | (have t_b5 := b5; have t_b10 := b10; have t_c11 := leI c11; have t_c12 := leI c12; have t_hkk := hkk; have t_hnn := hnn; have tqz_ := qz11_; have tnb_ := nib2 tn2165_ tn2166_; omega)) (by first | omega | (have t_b5 := b5; have t_b10 := b10; have t_c11 := leI c11; have t_c12 := leI c12; have t_hkk := hkk; have t_hnn := hnn; have tqz_ := qz11_; have tnb_ := nib2 tn2165_ tn2166_; omega))) (kwVN hg hK mfX6_renew wn_829 ⟨Nat.le_of_ble_eq_true rfl, Nat.le_of_ble_eq_true rfl⟩) (preVW hK hPc hDc (ci := 6) (r := (RX6, TX6, 7)) rfl rfl) rfl rfl hl.1 rfl (lv_room (Nat.le_of_ble_eq_true rfl)) dX10_sheet_36 ⟨Nat.le_of_ble_eq_true rfl, Nat.le_of_ble_eq_true rfl⟩) hS (fun q _ h => hFc q h) hFc (fun ur13 t H1 locs ht hvm w14 hB hz1 hk1 hS => ?_)
          obtain ⟨u15, u16, u17⟩ := ur13
          obtain ⟨hP1, hD1⟩ := hB
          rw [ht] at hP1
          obtain ⟨hP, hD⟩ := va_join (wr := [(h0, .inr (10, [.ref rd, .ref wy, .ref tr, .ref im, .ref kp, .ref od, .ref ch, .ref cr, .ref le, .ref mk, .ref tl, .ref sh, .int tf, .int rf]))]) (w1 := (([(sh, .inr (6, [.ref la, .ref si, .ref ce, .int x8, .int x9, .ref fi, .ref se])), (la, .inl (G 0, 4, .inl u16)), (si, .inl (G 0, 4, .inl u17)), (ce, .inl (G 4, 4, .inr (.inr (.inr (.inr (fun ir => if ir < 4 then some (rc ir) else none))))))] : va_W) ++ ((((List.range 4).map (fun iq => (rc iq, .inl (G 0, 40, .inl (u15 iq))))) : va_W) ++ []))) hP hD [1, 2, 3, 4, 5, 6, 7, 8] [0] rfl rfl (by decide +kernel) (by decide +kernel) hk1 hFc hP1 hD1
          have w14 : u16 = upd fl kk lane ∧ u17 = upd fz kk (nI nn) ∧ u15 = va_up F kk (zpF nn (F kk)) := w14
          generalize H1 = H at hP hS ⊢
          refine lv_iconst (v := 1) hx hb dX10_sheet_39 rfl ?_
          have hpost : (1 : Int32) = if (0 ≤ (nI kk).toInt ∧ (nI kk).toInt < 4) ∧ (0 ≤ lane.toInt ∧ lane.toInt ≤ 2) ∧ (nI nn).toInt ≤ 40 then (if (nI nn).toInt < 0 then -14 else 1) else -1 := by
            have t_b5 := b5
            have t_b10 := b10
            have t_c11 := leI c11
            have t_c12 := leI c12
            have t_hkk := hkk
            have t_hnn := hnn
            have : (0 : Int32).toInt = 0 := qI_0
            have : (40 : Int32).toInt = 40 := qI_40
            have t_n0 : (nI kk).toInt = (kk : Int) := tn2165_ ()
            have t_n1 : (nI nn).toInt = (nn : Int) := tn2166_ ()
            first | rfl | ((repeat' split) <;> first | rfl | omega)
          obtain ⟨hP9, hD9⟩ := va_sub2 (ws' := (([(h0, .inr (10, [.ref rd, .ref wy, .ref tr, .ref im, .ref kp, .ref od, .ref ch, .ref cr, .ref le, .ref mk, .ref tl, .ref sh, .int tf, .int rf])), (sh, .inr (6, [.ref la, .ref si, .ref ce, .int x8, .int x9, .ref fi, .ref se])), (la, .inl (G 0, 4, .inl u16)), (si, .inl (G 0, 4, .inl u17)), (ce, .inl (G 4, 4, .inr (.inr (.inr (.inr (fun ir => if ir < 4 then some (rc ir) else none))))))] : va_W) ++ ((((List.range 4).map (fun iq => (rc iq, .inl (G 0, 40, .inl (u15 iq))))) : va_W) ++ []))) hP hD [0, 1, 2, 3, 4, 5, 6, 7, 8] (by decide +kernel) rfl
          refine W.widen (k := 0) (n := 0) (Nat.le_of_ble_eq_true rfl) (Nat.le_of_ble_eq_true rfl) ?_
          exact W.iret (v := 1) hx hb hr (fun t ht hW => ⟨⟨1, (u16, u17, u15), rfl, ⟨hpost, ⟨(by have t_b5 := b5; have t_b10 := b10; have t_c11 := leI c11; have t_c12 := leI c12; have t_hkk := hkk; have t_hnn := hnn; have tqz_ := qz11_; have tnb_ := nib2 tn2165_ tn2166_; have q9 := w14; refine ⟨⟨?_, ?_⟩, q9.2.1 ▸ hz_upd hz (by omega)⟩; (rw [if_pos (by omega), nI_clamp (by omega)]; exact q9.1); (rw [if_pos (by omega), nI_clamp (by omega)]; exact q9.2.1)), (by have t_b5 := b5; have t_b10 := b10; have t_c11 := leI c11; have t_c12 := leI c12; have t_hkk := hkk; have t_hnn := hnn; have tqz_ := qz11_; have tnb_ := nib2 tn2165_ tn2166_; rw [if_pos (by omega), nI_clamp (by omega), nI_clamp (by omega)]; exact w14.2.2)⟩⟩, ⟨by rw [ht]; exact hP9, hD9⟩⟩, hS.F ht⟩) hS.2.2 dX10_sheet_40
        · skip
          refine lv_bipush (v := (-14)) hx hb dX10_sheet_26 rfl ?_
          have hpost : ((-14) : Int32) = if (0 ≤ k.toInt ∧ k.toInt < 4) ∧ (0 ≤ lane.toInt ∧ lane.toInt ≤ 2) ∧ n.toInt ≤ 40 then (if n.toInt < 0 then -14 else 1) else -1 := by
            have t_b5 := b5
            have t_b10 := b10
            have t_c11 := leI c11
            have t_c12 := nleI c12
            have : (0 : Int32).toInt = 0 := qI_0
            have : (40 : Int32).toInt = 40 := qI_40
            first | rfl | ((repeat' split) <;> first | rfl | omega)
          obtain ⟨hP9, hD9⟩ := va_sub2 (ws' := (([(h0, .inr (10, [.ref rd, .ref wy, .ref tr, .ref im, .ref kp, .ref od, .ref ch, .ref cr, .ref le, .ref mk, .ref tl, .ref sh, .int tf, .int rf])), (sh, .inr (6, [.ref la, .ref si, .ref ce, .int x8, .int x9, .ref fi, .ref se])), (la, .inl (G 0, 4, .inl fl)), (si, .inl (G 0, 4, .inl fz)), (ce, .inl (G 4, 4, .inr (.inr (.inr (.inr (fun ir => if ir < 4 then some (rc ir) else none))))))] : va_W) ++ ((((List.range 4).map (fun iq => (rc iq, .inl (G 0, 40, .inl (F iq))))) : va_W) ++ []))) hP hD [0, 1, 2, 3, 4, 5, 6, 7, 8] (by decide +kernel) rfl
          refine W.widen (k := 0) (n := 0) (Nat.le_of_ble_eq_true rfl) (Nat.le_of_ble_eq_true rfl) ?_
          exact W.iret (v := (-14)) hx hb hr (fun t ht hW => ⟨⟨(-14), (fl, fz, F), rfl, ⟨hpost, ⟨(by have t_b5 := b5; have t_b10 := b10; have t_c11 := leI c11; have t_c12 := nleI c12; have tqz_ := qz11_; refine ⟨⟨?_, ?_⟩, hz⟩ <;> rw [if_neg (by omega)]), (by have t_b5 := b5; have t_b10 := b10; have t_c11 := leI c11; have t_c12 := nleI c12; have tqz_ := qz11_; rw [if_neg (by omega)])⟩⟩, ⟨by rw [ht]; exact hP9, hD9⟩⟩, hS.F ht⟩) hS.2.2 dX10_sheet_28
      · skip
        refine lv_iconst (v := (-1)) hx hb dX10_sheet_20 rfl ?_
        have hpost : ((-1) : Int32) = if (0 ≤ k.toInt ∧ k.toInt < 4) ∧ (0 ≤ lane.toInt ∧ lane.toInt ≤ 2) ∧ n.toInt ≤ 40 then (if n.toInt < 0 then -14 else 1) else -1 := by
          have t_b5 := b5
          have t_b10 := b10
          have t_c11 := nleI c11
          have : (40 : Int32).toInt = 40 := qI_40
          first | rfl | ((repeat' split) <;> first | rfl | omega)
        obtain ⟨hP9, hD9⟩ := va_sub2 (ws' := (([(h0, .inr (10, [.ref rd, .ref wy, .ref tr, .ref im, .ref kp, .ref od, .ref ch, .ref cr, .ref le, .ref mk, .ref tl, .ref sh, .int tf, .int rf])), (sh, .inr (6, [.ref la, .ref si, .ref ce, .int x8, .int x9, .ref fi, .ref se])), (la, .inl (G 0, 4, .inl fl)), (si, .inl (G 0, 4, .inl fz)), (ce, .inl (G 4, 4, .inr (.inr (.inr (.inr (fun ir => if ir < 4 then some (rc ir) else none))))))] : va_W) ++ ((((List.range 4).map (fun iq => (rc iq, .inl (G 0, 40, .inl (F iq))))) : va_W) ++ []))) hP hD [0, 1, 2, 3, 4, 5, 6, 7, 8] (by decide +kernel) rfl
        refine W.widen (k := 0) (n := 0) (Nat.le_of_ble_eq_true rfl) (Nat.le_of_ble_eq_true rfl) ?_
        exact W.iret (v := (-1)) hx hb hr (fun t ht hW => ⟨⟨(-1), (fl, fz, F), rfl, ⟨hpost, ⟨(by have t_b5 := b5; have t_b10 := b10; have t_c11 := nleI c11; have : (40 : Int32).toInt = 40 := qI_40; refine ⟨⟨?_, ?_⟩, hz⟩ <;> rw [if_neg (by omega)]), (by have t_b5 := b5; have t_b10 := b10; have t_c11 := nleI c11; have : (40 : Int32).toInt = 40 := qI_40; rw [if_neg (by omega)])⟩⟩, ⟨by rw [ht]; exact hP9, hD9⟩⟩, hS.F ht⟩) hS.2.2 dX10_sheet_21

set_option maxHeartbeats 1000000 in
set_option maxRecDepth 100000 in
theorem c_X11_changesO (l : Launch) (dC : Nat → ClassId) (dI : Nat → Nat → Nat) (G : Nat → ClassId) (sz : Nat) (h0 i k st N B rp tp T cu lt od th be ln S ma M ah bh ik la lg ce : Nat) (vrs vrb vhs vca vxs vxb vfa vbr vba vsp vhe vtk vva vto : Int32) (fst : Nat → Int32) (hN : N ≤ 10) (hB : B ≤ 6) (hT : T ≤ 320) (hS0 : S ≤ 8) (hM : M ≤ 6) (hst : OKS fst) (hi : i < 10) (hk : k < 10) : Met l yX11_changes (Cond.code yX11_changes cX11_changes 4 none :: GT) ({ frames := 0, cells := 0, slots := 0, locals := 0 } : Room) (PcW [.ref h0, .int (nI i), .int (nI k)] dC dI G [(h0, .inr (11, [.ref st, .int (nI N), .int (nI B), .ref rp, .int vrs, .int vrb, .int vhs, .int vca, .int vxs, .int vxb, .ref tp, .int (nI T), .int vfa, .int vbr, .int vba, .int vsp, .int vhe, .int vtk, .int vva, .ref cu, .ref lt, .ref od, .ref th, .ref be, .ref ln, .int (nI S), .ref ma, .int (nI M), .ref ah, .ref bh, .ref ik, .ref la, .ref lg, .ref ce, .int vto])), (st, .inl (G 0, 196, .inl fst))] sz) (va_Qv (fun (u : (Nat → Int32)) => match u with | ost => OKS ost ∧ ost = xch fst i k) (fun (u : (Nat → Int32)) (t : State) => match u with | ost => va_P (dC, dI) vwCl [(h0, .inr (11, [.ref st, .int (nI N), .int (nI B), .ref rp, .int vrs, .int vrb, .int vhs, .int vca, .int vxs, .int vxb, .ref tp, .int (nI T), .int vfa, .int vbr, .int vba, .int vsp, .int vhe, .int vtk, .int vva, .ref cu, .ref lt, .ref od, .ref th, .ref be, .ref ln, .int (nI S), .ref ma, .int (nI M), .ref ah, .ref bh, .ref ik, .ref la, .ref lg, .ref ce, .int vto])), (st, .inl (G 0, 196, .inl ost))] t.heap ∧ va_D (va_A [(h0, .inr (11, [.ref st, .int (nI N), .int (nI B), .ref rp, .int vrs, .int vrb, .int vhs, .int vca, .int vxs, .int vxb, .ref tp, .int (nI T), .int vfa, .int vbr, .int vba, .int vsp, .int vhe, .int vtk, .int vva, .ref cu, .ref lt, .ref od, .ref th, .ref be, .ref ln, .int (nI S), .ref ma, .int (nI M), .ref ah, .ref bh, .ref ik, .ref la, .ref lg, .ref ce, .int vto])), (st, .inl (G 0, 196, .inl fst))] sz) [(h0, .inr (11, [.ref st, .int (nI N), .int (nI B), .ref rp, .int vrs, .int vrb, .int vhs, .int vca, .int vxs, .int vxb, .ref tp, .int (nI T), .int vfa, .int vbr, .int vba, .int vsp, .int vhe, .int vtk, .int vva, .ref cu, .ref lt, .ref od, .ref th, .ref be, .ref ln, .int (nI S), .ref ma, .int (nI M), .ref ah, .ref bh, .ref ik, .ref la, .ref lg, .ref ce, .int vto])), (st, .inl (G 0, 196, .inl ost))]) (va_A [(h0, .inr (11, [.ref st, .int (nI N), .int (nI B), .ref rp, .int vrs, .int vrb, .int vhs, .int vca, .int vxs, .int vxb, .ref tp, .int (nI T), .int vfa, .int vbr, .int vba, .int vsp, .int vhe, .int vtk, .int vva, .ref cu, .ref lt, .ref od, .ref th, .ref be, .ref ln, .int (nI S), .ref ma, .int (nI M), .ref ah, .ref bh, .ref ik, .ref la, .ref lg, .ref ce, .int vto])), (st, .inl (G 0, 196, .inl fst))] sz)) 0 0 (va_A [(h0, .inr (11, [.ref st, .int (nI N), .int (nI B), .ref rp, .int vrs, .int vrb, .int vhs, .int vca, .int vxs, .int vxb, .ref tp, .int (nI T), .int vfa, .int vbr, .int vba, .int vsp, .int vhe, .int vtk, .int vva, .ref cu, .ref lt, .ref od, .ref th, .ref be, .ref ln, .int (nI S), .ref ma, .int (nI M), .ref ah, .ref bh, .ref ik, .ref la, .ref lg, .ref ce, .int vto])), (st, .inl (G 0, 196, .inl fst))] sz) := by
  have tn2167_ : nIT N := fun _ => nI_toInt (by omega)
  have tn2168_ : nIT B := fun _ => nI_toInt (by omega)
  have tn2169_ : nIT T := fun _ => nI_toInt (by omega)
  have tn2170_ : nIT S := fun _ => nI_toInt (by omega)
  have tn2171_ : nIT M := fun _ => nI_toInt (by omega)
  refine Met.ofW (cc := cX11_changes) (maxL := 4) (ret := none) (by decide) rfl ?_
  intro p e s m args below meth c s₁ Bd hml hv
  obtain ⟨rfl, hsz, hP, hK, hD0⟩ := hv
  have hx := Bd.exec
  have hb := Bd.bytes
  have hr := Bd.returns
  have hg : ∀ w ∈ GT, w.before ([.ref h0, .int (nI i), .int (nI k)] : List Value).toArray s = true := fun w h => atoms_spec (ws := Cond.code yX11_changes cX11_changes 4 none :: GT) Bd.pre w (List.mem_cons_of_mem _ h)
  have hown : s.vm.findClass RX11 = some m.cls := findClass_of_methodNamed Bd.named
  have hlocks := Bd.notSynchronized
  subst hsz
  have hD := hD0.self (sz := s.heap.size)
  generalize hAe : va_A [(h0, .inr (11, [.ref st, .int (nI N), .int (nI B), .ref rp, .int vrs, .int vrb, .int vhs, .int vca, .int vxs, .int vxb, .ref tp, .int (nI T), .int vfa, .int vbr, .int vba, .int vsp, .int vhe, .int vtk, .int vva, .ref cu, .ref lt, .ref od, .ref th, .ref be, .ref ln, .int (nI S), .ref ma, .int (nI M), .ref ah, .ref bh, .ref ik, .ref la, .ref lg, .ref ce, .int vto])), (st, .inl (G 0, 196, .inl fst))] s.heap.size = A at hD ⊢
  have hA : ∀ q : Nat, s.heap.size ≤ q → A q := fun q h => by rw [← hAe]; exact Or.inr h
  have hS : va_S A s.heap s.heap [] := va_S.rf
  have hl := lv_entry ([.ref h0, .int (nI i), .int (nI k)]) (n := 4) (Nat.le_of_ble_eq_true rfl)
  rw [lg_entry_eq]
  generalize (lg_sl ([.ref h0, .int (nI i), .int (nI k)]) ++ List.replicate (4 - (lg_sl ([.ref h0, .int (nI i), .int (nI k)])).length) Slot.unset).toArray = ls at hl ⊢
  have hl : lv_has ls 4 [(0, .ref h0), (1, .int (nI i)), (2, .int (nI k))] := hl
  refine lv_aload_n hx hb dX11_changes_0 rfl (lv_at hl 0 rfl) ?_
  refine va_get (D := (dC, dI)) (ci := 11) (v := .ref st) (C := RX11) (T := TX11) (N := 35) hx hb hg inG11 hown hK.1 hP 0 rfl rfl 0 (Nat.le_of_ble_eq_true rfl) (hg _ wt_878) (fun _ h9 => h9) rfl dX11_changes_1 ?_
  refine lv_bipush (v := 38) hx hb dX11_changes_4 rfl ?_
  refine lv_iload_n hx hb dX11_changes_6 rfl (lv_at hl 1 rfl) ?_
  refine lv_iadd hx hb dX11_changes_7 ?_
  refine lv_cg (y := nI (38 + i)) (by rw [show (38 : Int32) = nI 38 from rfl]; exact nI_add _ _) ?_
  have tn2172_ : nIT i := fun _ => nI_toInt (by omega)
  have tn2173_ : nIT k := fun _ => nI_toInt (by omega)
  refine va_iald hx hb hK.1 hP 1 0 rfl rfl (vp_in_nI (by first | omega | (have tnb_ := nib7 tn2172_ tn2173_ tn2167_ tn2168_ tn2169_ tn2170_ tn2171_; omega)) (by decide)) dX11_changes_8 ?_
  refine lv_cg (y := fst (38 + i)) (by rw [nI_clamp (by omega)]) ?_
  refine lv_istore_n (lv' := [(3, .int (fst (38 + i))), (0, .ref h0), (1, .int (nI i)), (2, .int (nI k))]) hx hb dX11_changes_9 rfl hl (by decide) rfl (fun ls hl => ?_)
  refine lv_aload_n hx hb dX11_changes_10 rfl (lv_at hl 1 rfl) ?_
  refine va_get (D := (dC, dI)) (ci := 11) (v := .ref st) (C := RX11) (T := TX11) (N := 35) hx hb hg inG11 hown hK.1 hP 0 rfl rfl 0 (Nat.le_of_ble_eq_true rfl) (hg _ wt_878) (fun _ h9 => h9) rfl dX11_changes_11 ?_
  refine lv_bipush (v := 38) hx hb dX11_changes_14 rfl ?_
  refine lv_iload_n hx hb dX11_changes_16 rfl (lv_at hl 2 rfl) ?_
  refine lv_iadd hx hb dX11_changes_17 ?_
  refine lv_cg (y := nI (38 + i)) (by rw [show (38 : Int32) = nI 38 from rfl]; exact nI_add _ _) ?_
  refine lv_aload_n hx hb dX11_changes_18 rfl (lv_at hl 1 rfl) ?_
  refine va_get (D := (dC, dI)) (ci := 11) (v := .ref st) (C := RX11) (T := TX11) (N := 35) hx hb hg inG11 hown hK.1 hP 0 rfl rfl 0 (Nat.le_of_ble_eq_true rfl) (hg _ wt_878) (fun _ h9 => h9) rfl dX11_changes_19 ?_
  refine lv_bipush (v := 38) hx hb dX11_changes_22 rfl ?_
  refine lv_iload_n hx hb dX11_changes_24 rfl (lv_at hl 3 rfl) ?_
  refine lv_iadd hx hb dX11_changes_25 ?_
  refine lv_cg (y := nI (38 + k)) (by rw [show (38 : Int32) = nI 38 from rfl]; exact nI_add _ _) ?_
  refine va_iald hx hb hK.1 hP 1 0 rfl rfl (vp_in_nI (by first | omega | (have tnb_ := nib7 tn2172_ tn2173_ tn2167_ tn2168_ tn2169_ tn2170_ tn2171_; omega)) (by decide)) dX11_changes_26 ?_
  refine lv_cg (y := fst (38 + k)) (by rw [nI_clamp (by omega)]) ?_
  refine va_iast hx hb hK.1 hP hD hS 1 0 rfl rfl (vp_in_nI (by first | omega | (have tnb_ := nib7 tn2172_ tn2173_ tn2167_ tn2168_ tn2169_ tn2170_ tn2171_; omega)) (by decide)) dX11_changes_27 (fun H locs hP hD hS => ?_)
  rw [nI_clamp (by omega)] at hP hD
  refine lv_aload_n hx hb dX11_changes_28 rfl (lv_at hl 1 rfl) ?_
  refine va_get (D := (dC, dI)) (ci := 11) (v := .ref st) (C := RX11) (T := TX11) (N := 35) hx hb hg inG11 hown hK.1 hP 0 rfl rfl 0 (Nat.le_of_ble_eq_true rfl) (hg _ wt_878) (fun _ h9 => h9) rfl dX11_changes_29 ?_
  refine lv_bipush (v := 38) hx hb dX11_changes_32 rfl ?_
  refine lv_iload_n hx hb dX11_changes_34 rfl (lv_at hl 3 rfl) ?_
  refine lv_iadd hx hb dX11_changes_35 ?_
  refine lv_cg (y := nI (38 + k)) (by rw [show (38 : Int32) = nI 38 from rfl]; exact nI_add _ _) ?_
  refine lv_iload_n hx hb dX11_changes_36 rfl (lv_at hl 0 rfl) ?_
  refine va_iast hx hb hK.1 hP hD hS 1 0 rfl rfl (vp_in_nI (by first | omega | (have tnb_ := nib7 tn2172_ tn2173_ tn2167_ tn2168_ tn2169_ tn2170_ tn2171_; omega)) (by decide)) dX11_changes_37 (fun H locs hP hD hS => ?_)
  rw [nI_clamp (by omega)] at hP hD
  obtain ⟨hP9, hD9⟩ := va_sub2 (ws' := [(h0, .inr (11, [.ref st, .int (nI N), .int (nI B), .ref rp, .int vrs, .int vrb, .int vhs, .int vca, .int vxs, .int vxb, .ref tp, .int (nI T), .int vfa, .int vbr, .int vba, .int vsp, .int vhe, .int vtk, .int vva, .ref cu, .ref lt, .ref od, .ref th, .ref be, .ref ln, .int (nI S), .ref ma, .int (nI M), .ref ah, .ref bh, .ref ik, .ref la, .ref lg, .ref ce, .int vto])), (st, .inl (G 0, 196, .inl (upd (upd fst (38 + i) (fst (38 + k))) (38 + k) (fst (38 + i)))))]) hP hD [0, 1] (by decide +kernel) rfl
  refine W.widen (k := 0) (n := 0) (Nat.le_of_ble_eq_true rfl) (Nat.le_of_ble_eq_true rfl) ?_
  exact W.vret hx hb hr (fun t ht hW => ⟨⟨(upd (upd fst (38 + i) (fst (38 + k))) (38 + k) (fst (38 + i))), rfl, ⟨((hst.upd (okS_mv hst (by omega) (by omega) (by omega) (by omega))).upd (okS_mv hst (by omega) (by omega) (by omega) (by omega))), rfl⟩, ⟨by rw [ht]; exact hP9, hD9⟩⟩, hS.F ht⟩) hS.2.2 dX11_changes_38


def OR (f O : Nat → Int32) : Prop := ∀ i : Nat, i < 10 → O i = f i
def SO (o : Nat) (st O : Nat → Int32) : Prop := ∀ i : Nat, i < 10 → st (o + i) = O i
theorem OR.set {C : Prop} [Decidable C] {j : Nat} {v : Int32} {f O : Nat → Int32} (h : OR f O) : OR (if C then upd f j v else f) (if C then upd O j v else O) := by
  split
  · intro i hi
    show (if i = j then v else O i) = (if i = j then v else f i)
    rw [h i hi]
  · exact h
theorem SO.set {C : Prop} [Decidable C] {o j : Nat} {v : Int32} {st O : Nat → Int32} (h : SO o st O) : SO o (if C then upd st (o + j) v else st) (if C then upd O j v else O) := by
  split
  · intro i hi
    show (if o + i = o + j then v else st (o + i)) = (if i = j then v else O i)
    by_cases e : i = j
    · rw [if_pos e, if_pos (by omega)]
    · rw [if_neg e, if_neg (by omega)]; exact h i hi
  · exact h
theorem SO.oth {C : Prop} [Decidable C] {o j : Nat} {v : Int32} {st O : Nat → Int32} (h : SO o st O) (ho : C → j < o ∨ o + 10 ≤ j) : SO o (if C then upd st j v else st) O := by
  split
  · rename_i c
    intro i hi
    have := ho c
    exact (if_neg (by omega)).trans (h i hi)
  · exact h
theorem rdO_pt {a b o o2 : Nat → Int32} {i : Nat} (h : o i = o2 i) : ∀ n : Nat, rdO a b o n i = rdO a b o2 n i := by
  intro n
  induction n with
  | zero => exact h
  | succ n ih =>
    show (if i = (a n).toNatClampNeg then b n else rdO a b o n i) = (if i = (a n).toNatClampNeg then b n else rdO a b o2 n i)
    rw [ih]
theorem rdF_pt {N B m : Nat} {a b o o2 : Nat → Int32} {i : Nat} (h : o i = o2 i) : rdF N B a b m o i = rdF N B a b m o2 i := by
  unfold rdF
  split
  · exact h
  · exact rdO_pt h m
theorem rdF_cg {N B m : Nat} {a b a2 b2 o : Nat → Int32} (ha : ∀ q : Nat, q < m → a q = a2 q) (hb : ∀ q : Nat, q < m → b q = b2 q) : rdF N B a b m o = rdF N B a2 b2 m o := by
  unfold rdF
  rw [rdI_cg ha hb m 0 (by omega), rdO_cg ha hb m (Nat.le_refl m)]
theorem rdR_cg {N B m : Nat} {a b a2 b2 : Nat → Int32} (ha : ∀ q : Nat, q < m → a q = a2 q) (hb : ∀ q : Nat, q < m → b q = b2 q) : rdR N B a b m = rdR N B a2 b2 m := by
  unfold rdR
  rw [rdI_cg ha hb m 0 (by omega)]
/-- pairs that are taken lie within the size -/
theorem tpK_in {L lane : Int32} {z f : Int} {n q : Nat} (h : q < tpK L lane z f n) : 0 ≤ f + 2 * (q : Int) ∧ f + 2 * (q : Int) + 1 < z := by
  unfold tpK at h
  split at h
  · have go : ∀ (n s : Nat), s ≤ q → q < tpM z f n s → 0 ≤ f + 2 * (q : Int) ∧ f + 2 * (q : Int) + 1 < z := by
      intro n
      induction n with
      | zero => intro s h1 h2; exact absurd (show q < s from h2) (by omega)
      | succ n ih =>
        intro s h1 h2
        have h3 : q < (if 0 ≤ f + 2 * (s : Int) ∧ f + 2 * (s : Int) + 1 < z then tpM z f n (s + 1) else s) := h2
        by_cases c : 0 ≤ f + 2 * (s : Int) ∧ f + 2 * (s : Int) + 1 < z
        · rw [if_pos c] at h3
          by_cases e : s = q
          · rw [← e]; exact c
          · exact ih (s + 1) (by omega) h3
        · rw [if_neg c] at h3; exact absurd h3 (by omega)
    exact go n 0 (Nat.zero_le q) h
  · exact absurd h (Nat.not_lt_zero q)
def CEc (Z : Nat → Int32) (F : Nat → Nat → Int32) (C : Nat → Int32) : Prop := ∀ k i : Nat, k < 4 → (i : Int) < (Z k).toInt → F k i = C (40 * k + i)
def CEr (Z fc C : Nat → Int32) : Prop := ∀ k i : Nat, k < 4 → (i : Int) < (Z k).toInt → fc (40 * k + i) = C (40 * k + i)

theorem OR.cpy {f e O : Nat → Int32} (h : OR f O) : OR (va_cpy f e 0 0 10) O := fun i hi => (h i hi).trans (cpy_i hi).symm
theorem OR.kp {k c : Int32} {f e O O1 : Nat → Int32} (h : OR f O) (h1 : OR e O1) : OR (if k = c then va_cpy f e 0 0 10 else e) (if k = c then O else O1) := by
  split
  · exact h.cpy
  · exact h1
theorem OR.bk {k : Int32} {K f a b O O1 O2 : Nat → Int32} (h : OR f O) (h1 : OR a O1) (h2 : OR b O2) : OR (if k = 0 ∧ ¬ K 0 = 0 then va_cpy a f 0 0 10 else if k = 1 ∧ ¬ K 1 = 0 then va_cpy b f 0 0 10 else f) (bkW k K O O1 O2) := by
  unfold bkW
  split
  · exact h1.cpy
  · split
    · exact h2.cpy
    · exact h
def txO (f : Nat → Int32) (T : Nat) (O : Nat → Int32) : Nat → Int32 := if 0 < (txF f T).toInt then O else fun i => (TQ f T).1.2.2.2.2.2.2.2 (38 + i)
theorem OR.text {f : Nat → Int32} {T : Nat} {f3 O : Nat → Int32} (h3 : T ≤ 320) {x3 : Int32} {g1 g2 g3 g4 g5 g6 : Nat → Int32} (h : OR f3 O) : OR (if (cFN T (cRA f T x3 g1 g2 g3 g4 g5 g6).1).1 = 0 then va_cpy ((cRA f T x3 g1 g2 g3 g4 g5 g6).1.2.2.2.2.2.2.2.2.2.2.1) f3 0 0 10 else f3) (txO f T O) := by
  have ts := text_sim (f := f) h3 x3 g1 g2 g3 g4 g5 g6 0 0 0 0 (fun _ => 0)
  unfold txO txF TQ
  generalize cRA f T x3 g1 g2 g3 g4 g5 g6 = Q at ts ⊢
  generalize txQ f T 0 0 0 0 (fun _ => 0) = X at ts ⊢
  rcases ts with ⟨p, q, _, w, _⟩ | g
  · rw [if_pos p, q, if_neg (by decide)]
    obtain ⟨⟨w1, w2, w3, w4, w5, w6⟩, w7, w8, w9, w10, w11⟩ := w
    exact OR.cpy (fun i hi => w10 i hi)
  · rw [if_neg g.m, if_pos g.pos]
    exact h
theorem SO.text {f : Nat → Int32} {T : Nat} {st O : Nat → Int32} (h3 : T ≤ 320) {ba : Int32} {he : Nat} {tk va : Int32} {fp : Nat → Int32} (h : SO 38 st O) : SO 38 (if 0 < (txE (txQ f T ba he tk va fp).1).1.toInt then st else cpF 49 (txQ f T ba he tk va fp).1.2.2.2.2.2.2.2 st) (txO f T O) := by
  have ta := text_sim (f := f) h3 0 (fun _ => 0) (fun _ => 0) (fun _ => 0) (fun _ => 0) (fun _ => 0) (fun _ => 0) 0 0 0 0 (fun _ => 0)
  have tb := text_sim (f := f) h3 0 (fun _ => 0) (fun _ => 0) (fun _ => 0) (fun _ => 0) (fun _ => 0) (fun _ => 0) ba he tk va fp
  unfold txO txF TQ
  generalize cRA f T 0 (fun _ => 0) (fun _ => 0) (fun _ => 0) (fun _ => 0) (fun _ => 0) (fun _ => 0) = Q at ta tb ⊢
  generalize txQ f T 0 0 0 0 (fun _ => 0) = X0 at ta ⊢
  generalize txQ f T ba he tk va fp = X at tb ⊢
  rcases ta with ⟨p, q, _, w, _⟩ | g
  · rcases tb with ⟨p', q', _, w', _⟩ | g'
    · rw [q, q', if_neg (by decide), if_neg (by decide)]
      obtain ⟨_, _, _, _, w10, _⟩ := w
      obtain ⟨_, _, _, _, v10, _⟩ := w'
      intro i hi
      show (if 38 + i < 49 then X.1.2.2.2.2.2.2.2 (38 + i) else st (38 + i)) = X0.1.2.2.2.2.2.2.2 (38 + i)
      rw [if_pos (by omega)]
      exact (v10 i hi).trans (w10 i hi).symm
    · exact absurd p g'.m
  · rcases tb with ⟨p', q', _, w', _⟩ | g'
    · exact absurd p' g.m
    · rw [if_pos g.pos, if_pos g'.pos]
      exact h
theorem SO.texto {o : Nat} {st fp O : Nat → Int32} {C : Prop} [Decidable C] (h : SO o st O) (ho : 49 ≤ o) : SO o (if C then st else cpF 49 fp st) O := by
  split
  · exact h
  · intro i hi
    exact (if_neg (by omega)).trans (h i hi)
theorem SO.kp0 {k : Int32} {st O : Nat → Int32} (h : SO 38 st O) : SO 38 (if 0 ≤ k.toInt ∧ k.toInt < 2 then cpj 0 (49 * (k.toNatClampNeg + 1)) 49 st else st) O := by
  split
  · intro i hi
    exact (cpj_out (by omega)).trans (h i hi)
  · exact h
theorem SO.kp1 {k : Int32} {st O O1 : Nat → Int32} (h : SO 38 st O) (h1 : SO 87 st O1) : SO 87 (if 0 ≤ k.toInt ∧ k.toInt < 2 then cpj 0 (49 * (k.toNatClampNeg + 1)) 49 st else st) (if k = 0 then O else O1) := by
  by_cases c : 0 ≤ k.toInt ∧ k.toInt < 2
  · rw [if_pos c]
    rcases k01 c with e | e
    · subst e
      rw [if_pos rfl]
      intro i hi
      have q : cpj 0 (49 * ((0 : Int32).toNatClampNeg + 1)) 49 st (49 + (38 + i)) = st (0 + (38 + i)) := cpj_in (by omega)
      rw [Nat.zero_add, ← Nat.add_assoc] at q
      exact q.trans (h i hi)
    · subst e
      rw [if_neg (by decide)]
      intro i hi
      have e1 : (1 : Int32).toNatClampNeg = 1 := by decide
      rw [e1]
      exact (cpj_out (by omega)).trans (h1 i hi)
  · rw [if_neg c, if_neg (fun e => c (by rw [e]; decide))]
    exact h1
theorem SO.kp2 {k : Int32} {st O O2 : Nat → Int32} (h : SO 38 st O) (h2 : SO 136 st O2) : SO 136 (if 0 ≤ k.toInt ∧ k.toInt < 2 then cpj 0 (49 * (k.toNatClampNeg + 1)) 49 st else st) (if k = 1 then O else O2) := by
  by_cases c : 0 ≤ k.toInt ∧ k.toInt < 2
  · rw [if_pos c]
    rcases k01 c with e | e
    · subst e
      rw [if_neg (by decide)]
      intro i hi
      have e1 : (0 : Int32).toNatClampNeg = 0 := by decide
      rw [e1]
      exact (cpj_out (by omega)).trans (h2 i hi)
    · subst e
      rw [if_pos rfl]
      intro i hi
      have q : cpj 0 (49 * ((1 : Int32).toNatClampNeg + 1)) 49 st (98 + (38 + i)) = st (0 + (38 + i)) := cpj_in (by omega)
      rw [Nat.zero_add, ← Nat.add_assoc] at q
      exact q.trans (h i hi)
  · rw [if_neg c, if_neg (fun e => c (by rw [e]; decide))]
    exact h2

def od0 (d : Nat) : Nat → Int64 := fun q => if q = d then 1 else 0
theorem od_s1 {g : Nat → Int64} {d j : Nat} (h : ∀ q : Nat, q < j → g q = od0 d q) (e : j = d) : ∀ q : Nat, q < j + 1 → vp_updL g j 1 q = od0 d q := by
  intro q hq
  by_cases c : q = j
  · rw [c, upL_eq]; exact (if_pos e).symm
  · rw [upL_ne c]; exact h q (by omega)
theorem od_s0 {g : Nat → Int64} {d j : Nat} (h : ∀ q : Nat, q < j → g q = od0 d q) (e : ¬ j = d) : ∀ q : Nat, q < j + 1 → vp_updL g j 0 q = od0 d q := by
  intro q hq
  by_cases c : q = j
  · rw [c, upL_eq]; exact (if_neg e).symm
  · rw [upL_ne c]; exact h q (by omega)
def pst1 (fr : Nat) (h : Int32) (x : Int64) (g : Nat → Int64) : Nat → Int64 := vp_updL (vp_updL g (fr - 1) (g (fr - 1) + x * h.toInt64)) (min 9 (fr + 1)) (vp_updL g (fr - 1) (g (fr - 1) + x * h.toInt64) (min 9 (fr + 1)) + x * (20 - h).toInt64)
def psF (b : Bool) (d : Nat) : Nat := if b = true then min 9 (d + 2) else d
def psR (b : Bool) (h : Int32) (a : Nat → Int64) : Nat → Nat → Int64
  | 0 => fun q => if q = 0 then a 0 * 20 else 0
  | d + 1 => pst1 (psF b (d + 1)) h (a (d + 1)) (psR b h a d)
theorem pst1_cg {fr : Nat} {h : Int32} {x : Int64} {g g' : Nat → Int64} (hf : fr ≤ 9) (e : ∀ q : Nat, q < 10 → g q = g' q) : ∀ q : Nat, q < 10 → pst1 fr h x g q = pst1 fr h x g' q := by
  intro q hq
  unfold pst1
  have e1 : ∀ q : Nat, q < 10 → vp_updL g (fr - 1) (g (fr - 1) + x * h.toInt64) q = vp_updL g' (fr - 1) (g' (fr - 1) + x * h.toInt64) q := by
    intro q hq
    rw [e (fr - 1) (by omega)]
    by_cases c : q = fr - 1
    · rw [c, upL_eq, upL_eq]
    · rw [upL_ne c, upL_ne c]; exact e q hq
  by_cases c : q = min 9 (fr + 1)
  · rw [c, upL_eq, upL_eq, e1 _ (by omega)]
  · rw [upL_ne c, upL_ne c]; exact e1 q hq
theorem psF_le {b : Bool} {d : Nat} (h : d ≤ 9) : psF b d ≤ 9 := by
  unfold psF
  split <;> omega
theorem psR_cg {b : Bool} {h : Int32} {a a' : Nat → Int64} (e : ∀ q : Nat, q < 10 → a q = a' q) : ∀ d : Nat, d ≤ 9 → ∀ q : Nat, q < 10 → psR b h a d q = psR b h a' d q := by
  intro d
  induction d with
  | zero => intro _ q hq; show (if q = 0 then a 0 * 20 else 0) = (if q = 0 then a' 0 * 20 else 0); rw [e 0 (by decide)]
  | succ d ih =>
    intro hd q hq
    show pst1 (psF b (d + 1)) h (a (d + 1)) (psR b h a d) q = pst1 (psF b (d + 1)) h (a' (d + 1)) (psR b h a' d) q
    rw [e (d + 1) (by omega)]
    exact pst1_cg (psF_le hd) (ih (by omega)) q hq
/-- a turn of the loop over the depths -/
theorem ps_step {b : Bool} {h : Int32} {g a f : Nat → Int64} {j fr : Nat} (hj : 1 ≤ j) (h1 : j < 10) (hf : fr = psF b j) (ha : a j = f j) (hg : ∀ q : Nat, q < 10 → g q = psR b h f (j - 1) q) : ∀ q : Nat, q < 10 → pst1 fr h (a j) g q = psR b h f (j + 1 - 1) q := by
  intro q hq
  obtain ⟨d, rfl⟩ : ∃ d : Nat, j = d + 1 := ⟨j - 1, by omega⟩
  rw [ha, hf]
  exact pst1_cg (psF_le (by omega)) hg q hq
theorem ps_zero {b : Bool} {h : Int32} {g a f : Nat → Int64} (hz : ∀ q : Nat, q < 10 → g q = 0) (ha : a 0 = f 0) : ∀ q : Nat, q < 10 → vp_updL g 0 (a 0 * 20) q = psR b h f (1 - 1) q := by
  intro q hq
  show vp_updL g 0 (a 0 * 20) q = (if q = 0 then f 0 * 20 else 0)
  by_cases c : q = 0
  · rw [c, upL_eq, if_pos rfl, ha]
  · rw [upL_ne c, if_neg c]; exact hz q hq
def dpR (a : Nat → Int64) : Nat → Nat → Int64
  | 0 => fun q => if q = 0 then a 0 else 0
  | d + 1 => vp_updL (dpR a d) (min 9 (d + 1 + 2)) (dpR a d (min 9 (d + 1 + 2)) + a (d + 1))
theorem dp_zero {g a f : Nat → Int64} (hz : ∀ q : Nat, q < 10 → g q = 0) (ha : a 0 = f 0) : ∀ q : Nat, q < 10 → vp_updL g 0 (a 0) q = dpR f (1 - 1) q := by
  intro q hq
  show vp_updL g 0 (a 0) q = (if q = 0 then f 0 else 0)
  by_cases c : q = 0
  · rw [c, upL_eq, if_pos rfl, ha]
  · rw [upL_ne c, if_neg c]; exact hz q hq
theorem dp_step {g a f : Nat → Int64} {j : Nat} (hj : 1 ≤ j) (h1 : j < 10) (ha : a j = f j) (hg : ∀ q : Nat, q < 10 → g q = dpR f (j - 1) q) : ∀ q : Nat, q < 10 → vp_updL g (min 9 (j + 2)) (g (min 9 (j + 2)) + a j) q = dpR f (j + 1 - 1) q := by
  intro q hq
  obtain ⟨d, rfl⟩ : ∃ d : Nat, j = d + 1 := ⟨j - 1, by omega⟩
  show vp_updL g (min 9 (d + 1 + 2)) (g (min 9 (d + 1 + 2)) + a (d + 1)) q = vp_updL (dpR f d) (min 9 (d + 1 + 2)) (dpR f d (min 9 (d + 1 + 2)) + f (d + 1)) q
  have hg : ∀ q : Nat, q < 10 → g q = dpR f d q := hg
  rw [ha, hg _ (by omega)]
  by_cases c : q = min 9 (d + 1 + 2)
  · rw [c, upL_eq, upL_eq]
  · rw [upL_ne c, upL_ne c]; exact hg q hq
theorem dpR_cg {a a' : Nat → Int64} (e : ∀ q : Nat, q < 10 → a q = a' q) : ∀ d : Nat, d ≤ 9 → ∀ q : Nat, q < 10 → dpR a d q = dpR a' d q := by
  intro d
  induction d with
  | zero => intro _ q hq; show (if q = 0 then a 0 else 0) = (if q = 0 then a' 0 else 0); rw [e 0 (by decide)]
  | succ d ih =>
    intro hd q hq
    show vp_updL (dpR a d) (min 9 (d + 1 + 2)) (dpR a d (min 9 (d + 1 + 2)) + a (d + 1)) q = vp_updL (dpR a' d) (min 9 (d + 1 + 2)) (dpR a' d (min 9 (d + 1 + 2)) + a' (d + 1)) q
    have ih := ih (by omega)
    rw [e (d + 1) (by omega), ih _ (by omega)]
    by_cases c : q = min 9 (d + 1 + 2)
    · rw [c, upL_eq, upL_eq]
    · rw [upL_ne c, upL_ne c]; exact ih q hq
-- a drop, and then a stretch: the same as both at once
def psT (lo hi : Nat) (h : Int32) (x : Int64) (g : Nat → Int64) : Nat → Int64 := fun q => g q + (if q = lo then x * h.toInt64 else 0) + (if q = hi then x * (20 - h).toInt64 else 0)
theorem pst1_T {fr : Nat} {h : Int32} {x : Int64} {g : Nat → Int64} (hf : fr ≤ 9) (h0 : 1 ≤ fr) : pst1 fr h x g = psT (fr - 1) (min 9 (fr + 1)) h x g := by
  funext q
  unfold pst1 psT
  by_cases c : q = min 9 (fr + 1)
  · have n : ¬ q = fr - 1 := by omega
    rw [c, upL_eq, if_pos rfl, ← c, upL_ne n, if_neg n, Int64.add_zero]
  · rw [upL_ne c, if_neg c, Int64.add_zero]
    by_cases d : q = fr - 1
    · rw [d, upL_eq, if_pos rfl]
    · rw [upL_ne d, if_neg d, Int64.add_zero]
theorem psR_f {h : Int32} {a : Nat → Int64} : psR false h a 9 = psT 8 9 h (a 9) (psT 7 9 h (a 8) (psT 6 8 h (a 7) (psT 5 7 h (a 6) (psT 4 6 h (a 5) (psT 3 5 h (a 4) (psT 2 4 h (a 3) (psT 1 3 h (a 2) (psT 0 2 h (a 1) (fun q => if q = 0 then a 0 * 20 else 0))))))))) := by
  show pst1 9 h (a 9) (pst1 8 h (a 8) (pst1 7 h (a 7) (pst1 6 h (a 6) (pst1 5 h (a 5) (pst1 4 h (a 4) (pst1 3 h (a 3) (pst1 2 h (a 2) (pst1 1 h (a 1) (fun q => if q = 0 then a 0 * 20 else 0))))))))) = _
  rw [pst1_T (fr := 9) (by decide) (by decide), pst1_T (fr := 8) (by decide) (by decide), pst1_T (fr := 7) (by decide) (by decide), pst1_T (fr := 6) (by decide) (by decide), pst1_T (fr := 5) (by decide) (by decide), pst1_T (fr := 4) (by decide) (by decide), pst1_T (fr := 3) (by decide) (by decide), pst1_T (fr := 2) (by decide) (by decide), pst1_T (fr := 1) (by decide) (by decide)]
  rfl
theorem psR_t {h : Int32} {a : Nat → Int64} : psR true h a 9 = psT 8 9 h (a 9) (psT 8 9 h (a 8) (psT 8 9 h (a 7) (psT 7 9 h (a 6) (psT 6 8 h (a 5) (psT 5 7 h (a 4) (psT 4 6 h (a 3) (psT 3 5 h (a 2) (psT 2 4 h (a 1) (fun q => if q = 0 then a 0 * 20 else 0))))))))) := by
  show pst1 9 h (a 9) (pst1 9 h (a 8) (pst1 9 h (a 7) (pst1 8 h (a 6) (pst1 7 h (a 5) (pst1 6 h (a 4) (pst1 5 h (a 3) (pst1 4 h (a 2) (pst1 3 h (a 1) (fun q => if q = 0 then a 0 * 20 else 0))))))))) = _
  rw [pst1_T (fr := 9) (by decide) (by decide), pst1_T (fr := 9) (by decide) (by decide), pst1_T (fr := 9) (by decide) (by decide), pst1_T (fr := 8) (by decide) (by decide), pst1_T (fr := 7) (by decide) (by decide), pst1_T (fr := 6) (by decide) (by decide), pst1_T (fr := 5) (by decide) (by decide), pst1_T (fr := 4) (by decide) (by decide), pst1_T (fr := 3) (by decide) (by decide)]
  rfl
theorem dpR9 {a : Nat → Int64} : dpR a 9 0 = a 0 ∧ dpR a 9 1 = 0 ∧ dpR a 9 2 = 0 ∧ dpR a 9 3 = 0 + a 1 ∧ dpR a 9 4 = 0 + a 2 ∧ dpR a 9 5 = 0 + a 3 ∧ dpR a 9 6 = 0 + a 4 ∧ dpR a 9 7 = 0 + a 5 ∧ dpR a 9 8 = 0 + a 6 ∧ dpR a 9 9 = 0 + a 7 + a 8 + a 9 := ⟨rfl, rfl, rfl, rfl, rfl, rfl, rfl, rfl, rfl, rfl⟩
theorem ps_drop {h : Int32} {a : Nat → Int64} : ∀ q : Nat, q < 10 → psR false h (dpR a 9) 9 q = psR true h a 9 q := by
  intro q hq
  obtain ⟨d0, d1, d2, d3, d4, d5, d6, d7, d8, d9⟩ := dpR9 (a := a)
  rw [psR_f, psR_t, d0, d1, d2, d3, d4, d5, d6, d7, d8, d9]
  simp only [Int64.zero_add]
  generalize a 0 = x0
  generalize a 1 = x1
  generalize a 2 = x2
  generalize a 3 = x3
  generalize a 4 = x4
  generalize a 5 = x5
  generalize a 6 = x6
  generalize a 7 = x7
  generalize a 8 = x8
  generalize a 9 = x9
  rcases (show q = 0 ∨ q = 1 ∨ q = 2 ∨ q = 3 ∨ q = 4 ∨ q = 5 ∨ q = 6 ∨ q = 7 ∨ q = 8 ∨ q = 9 by omega) with e|e|e|e|e|e|e|e|e|e <;> subst e <;> simp [psT, Int64.add_mul, Int64.add_assoc]
def odR (H : Nat → Int32) (d : Nat) (dr : Int32) : Nat → Nat → Int64
  | 0 => od0 d
  | j + 1 => psR (decide (nI j = dr)) (H j) (odR H d dr j) 9
def odS (H : Nat → Int32) (d : Nat) (dr : Int32) : Nat → Nat → Int64
  | 0 => od0 d
  | j + 1 => psR false (H j) (if nI j = dr then dpR (odS H d dr j) 9 else odS H d dr j) 9
theorem odS_R {H H' : Nat → Int32} {d : Nat} {dr : Int32} : ∀ n : Nat, (∀ j : Nat, j < n → H j = H' j) → ∀ q : Nat, q < 10 → odS H d dr n q = odR H' d dr n q := by
  intro n
  induction n with
  | zero => intro _ q _; rfl
  | succ n ih =>
    intro hh q hq
    have ih := ih (fun j hj => hh j (by omega))
    show psR false (H n) (if nI n = dr then dpR (odS H d dr n) 9 else odS H d dr n) 9 q = psR (decide (nI n = dr)) (H' n) (odR H' d dr n) 9 q
    rw [hh n (by omega)]
    by_cases c : nI n = dr
    · rw [if_pos c, decide_eq_true c, ps_drop q hq]
      exact psR_cg ih 9 (by decide) q hq
    · rw [if_neg c, decide_eq_false c]
      exact psR_cg ih 9 (by decide) q hq
theorem odR_cg {H H' : Nat → Int32} {d : Nat} {dr : Int32} : ∀ n : Nat, (∀ j : Nat, j < n → H j = H' j) → odR H d dr n = odR H' d dr n := by
  intro n
  induction n with
  | zero => intro _; rfl
  | succ n ih =>
    intro hh
    show psR (decide (nI n = dr)) (H n) (odR H d dr n) 9 = psR (decide (nI n = dr)) (H' n) (odR H' d dr n) 9
    rw [hh n (by omega), ih (fun j hj => hh j (by omega))]
-- Euclid
def euG : Nat → Int64 → Int64 → Int64
  | 0, a, _ => a
  | n + 1, a, b => if b.toInt = 0 then a else euG n b (a - a / b * b)
theorem rem_abs {a b : Int64} (hb : b.toInt ≠ 0) : (a - a / b * b).toInt.natAbs = a.toInt.natAbs % b.toInt.natAbs := by
  have e1 : (a - a / b * b).toInt = (a.toInt - (a / b * b).toInt).bmod (2 ^ 64) := Int64.toInt_sub a (a / b * b)
  have e2 : (a / b * b).toInt = ((a / b).toInt * b.toInt).bmod (2 ^ 64) := Int64.toInt_mul (a / b) b
  have e3 : (a / b).toInt = (a.toInt.tdiv b.toInt).bmod (2 ^ 64) := Int64.toInt_div a b
  have e4 : (a - a / b * b).toInt = (a.toInt - a.toInt.tdiv b.toInt * b.toInt).bmod (2 ^ 64) := by
    rw [e1, e2, e3]
    simp only [Int.sub_bmod_bmod, Int.bmod_mul_bmod]
  have e5 : a.toInt - a.toInt.tdiv b.toInt * b.toInt = a.toInt.tmod b.toInt := by
    have := Int.tmod_add_mul_tdiv a.toInt b.toInt
    have c := Int.mul_comm b.toInt (a.toInt.tdiv b.toInt)
    omega
  have hl := b.toInt_lt
  have hg := b.le_toInt
  have hlt : (a.toInt.tmod b.toInt).natAbs < b.toInt.natAbs := by
    rw [Int.natAbs_tmod]
    exact Nat.mod_lt _ (by omega)
  rw [e4, e5, Int.bmod_eq_of_le (by omega) (by omega)]
  exact Int.natAbs_tmod _ _
theorem mod_half {b c : Nat} (h0 : 0 < c) (h : c < b) : 2 * (b % c) < b := by
  have h1 := Nat.mod_lt b h0
  have h2 : b % c ≤ b - c := by
    rw [Nat.mod_eq_sub_mod (by omega)]
    exact Nat.mod_le _ _
  omega
theorem euG_0 {n : Nat} {a b : Int64} (h : b.toInt = 0) : euG n a b = a := by
  cases n with
  | zero => rfl
  | succ n => exact if_pos h
theorem euG_s {n : Nat} {a b : Int64} (h : b.toInt ≠ 0) : euG (n + 1) a b = euG n b (a - a / b * b) := if_neg h
theorem euG_st : ∀ (k n m : Nat) (a b : Int64), b.toInt.natAbs < 2 ^ k → 2 * k + 1 ≤ n → 2 * k + 1 ≤ m → euG n a b = euG m a b := by
  intro k
  induction k with
  | zero =>
    intro n m a b h _ _
    have e : b.toInt = 0 := by
      have h' : b.toInt.natAbs < 1 := h
      omega
    rw [euG_0 e, euG_0 e]
  | succ k ih =>
    intro n m a b h hn hm
    by_cases e : b.toInt = 0
    · rw [euG_0 e, euG_0 e]
    · obtain ⟨n, rfl⟩ : ∃ j : Nat, n = j + 1 := ⟨n - 1, by omega⟩
      obtain ⟨m, rfl⟩ : ∃ j : Nat, m = j + 1 := ⟨m - 1, by omega⟩
      rw [euG_s e, euG_s e]
      have r1 := rem_abs (a := a) e
      have l1 : a.toInt.natAbs % b.toInt.natAbs < b.toInt.natAbs := Nat.mod_lt _ (by omega)
      generalize a - a / b * b = c at r1 ⊢
      by_cases e2 : c.toInt = 0
      · rw [euG_0 e2, euG_0 e2]
      · obtain ⟨n, rfl⟩ : ∃ j : Nat, n = j + 1 := ⟨n - 1, by omega⟩
        obtain ⟨m, rfl⟩ : ∃ j : Nat, m = j + 1 := ⟨m - 1, by omega⟩
        rw [euG_s e2, euG_s e2]
        have r2 := rem_abs (a := b) e2
        have l2 := mod_half (b := b.toInt.natAbs) (c := c.toInt.natAbs) (by omega) (by omega)
        refine ih n m _ _ ?_ (by omega) (by omega)
        rw [r2]
        have p2 : 2 ^ (k + 1) = 2 ^ k * 2 := rfl
        omega
def euV (a b : Int64) : Int64 := euG 200 a b
theorem euV_0 {a b : Int64} (h : b.toInt = 0) : euV a b = a := euG_0 h
theorem euV_s {a b : Int64} (h : b.toInt ≠ 0) : euV a b = euV b (a - a / b * b) := by
  have hl := b.toInt_lt
  have hg := b.le_toInt
  have e := euG_st 64 200 201 a b (by omega) (by decide) (by decide)
  exact e.trans (euG_s h)
theorem euV_ne : ∀ (k : Nat) (a b : Int64), b.toInt.natAbs < k → (a.toInt ≠ 0 ∨ b.toInt ≠ 0) → (euV a b).toInt ≠ 0 := by
  intro k
  induction k with
  | zero => intro a b h; exact absurd h (Nat.not_lt_zero _)
  | succ k ih =>
    intro a b h ho
    by_cases e : b.toInt = 0
    · rw [euV_0 e]; exact ho.resolve_right (fun z => z e)
    · rw [euV_s e]
      refine ih _ _ ?_ (Or.inl e)
      rw [rem_abs e]
      have := Nat.mod_lt a.toInt.natAbs (show 0 < b.toInt.natAbs by omega)
      omega
def frF (p w : Int64) (what : Int32) : Int64 := (if what = 0 then p else w) / euV p w
theorem ta_step {s a f : Nat → Int64} {j : Nat} (h : (∀ q : Nat, q < j → s q = 0 ∧ a q = f q) ∧ (∀ q : Nat, j ≤ q → s q = f q)) : (∀ q : Nat, q < j + 1 → vp_updL s j 0 q = 0 ∧ vp_updL a j (s j) q = f q) ∧ (∀ q : Nat, j + 1 ≤ q → vp_updL s j 0 q = f q) := by
  refine ⟨fun q hq => ?_, fun q hq => ?_⟩
  · by_cases c : q = j
    · rw [c, upL_eq, upL_eq]; exact ⟨rfl, h.2 j (Nat.le_refl j)⟩
    · rw [upL_ne c, upL_ne c]; exact h.1 q (by omega)
  · rw [upL_ne (by omega)]; exact h.2 q (by omega)
theorem wk_n {H : Nat → Int32} {d j : Nat} {dr : Int32} {g u : Nat → Int64} (hne : ¬ nI j = dr) (hg : ∀ q : Nat, q < 10 → g q = odS H d dr j q) (hu : ∀ q : Nat, q < 10 → u q = psR false (H j) g 9 q) : ∀ q : Nat, q < 10 → u q = odS H d dr (j + 1) q := by
  intro q hq
  rw [hu q hq]
  show _ = psR false (H j) (if nI j = dr then dpR (odS H d dr j) 9 else odS H d dr j) 9 q
  rw [if_neg hne]
  exact psR_cg hg 9 (by decide) q hq
theorem wk_d {H : Nat → Int32} {d j : Nat} {dr : Int32} {g s u : Nat → Int64} (he : nI j = dr) (hg : ∀ q : Nat, q < 10 → g q = odS H d dr j q) (hs : ∀ q : Nat, q < 10 → s q = dpR g 9 q) (hu : ∀ q : Nat, q < 10 → u q = psR false (H j) s 9 q) : ∀ q : Nat, q < 10 → u q = odS H d dr (j + 1) q := by
  intro q hq
  rw [hu q hq]
  show _ = psR false (H j) (if nI j = dr then dpR (odS H d dr j) 9 else odS H d dr j) 9 q
  rw [if_pos he]
  exact psR_cg (fun q hq => (hs q hq).trans (dpR_cg hg 9 (by decide) q hq)) 9 (by decide) q hq
/-- the same, as the reference writes it -/
theorem ps_stepR {b : Bool} {h : Int32} {g a f : Nat → Int64} {j fr : Nat} (hj : 1 ≤ j) (h1 : j < 10) (hf : fr = psF b j) (ha : a j = f j) (hg : ∀ q : Nat, q < 10 → g q = psR b h f (j - 1) q) : ∀ q : Nat, q < 10 → vp_updL (vp_updL g (fr - 1) (g (fr - 1) + h.toInt64 * a j)) (min 9 (fr + 1)) (vp_updL g (fr - 1) (g (fr - 1) + h.toInt64 * a j) (min 9 (fr + 1)) + (20 - h).toInt64 * a j) q = psR b h f (j + 1 - 1) q := by
  rw [Int64.mul_comm h.toInt64 (a j), Int64.mul_comm (20 - h).toInt64 (a j)]
  exact ps_step hj h1 hf ha hg
theorem ps_zeroR {b : Bool} {h : Int32} {g a f : Nat → Int64} (hz : ∀ q : Nat, q < 10 → g q = 0) (ha : a 0 = f 0) : ∀ q : Nat, q < 10 → vp_updL g 0 (20 * a 0) q = psR b h f (1 - 1) q := by
  rw [Int64.mul_comm 20 (a 0)]
  exact ps_zero hz ha
def sdN (st : Nat → Int32) : Nat := (st 48 + 5).toNatClampNeg
theorem sdN_ok {st : Nat → Int32} (h : okS 48 (st 48)) : st 48 + 5 = nI (sdN st) ∧ 1 ≤ sdN st ∧ sdN st ≤ 9 := by
  obtain ⟨k, e, h1, h2⟩ := start_nat h
  have e2 : sdN st = k := by
    unfold sdN
    rw [e, nI_clamp (by omega)]
  rw [e2]
  exact ⟨e, h1, h2⟩
def qbF (x : Int32) (j : Nat) : Int32 := if ((x >>> (nI j &&& 31)) &&& 1) = 1 then 1 else 0
def rhO (st : Nat → Int32) (i : Nat) (q : Int32) : Int32 := if i = 0 then rhN st i (st (38 + i)).toNatClampNeg q else rhB st i (st (38 + i - 1)).toNatClampNeg (st (38 + i)).toNatClampNeg q
theorem or_step {H : Nat → Int32} {d j : Nat} {dr : Int32} {g t u : Nat → Int64} (hg : ∀ q : Nat, q < 10 → g q = odR H d dr j q) (ht : ∀ q : Nat, q < 10 → t q = psR (decide (nI j = dr)) (H j) g 9 q) (hu : ∀ q : Nat, q < 10 → u q = t q) : ∀ q : Nat, q < 10 → u q = odR H d dr (j + 1) q := by
  intro q hq
  rw [hu q hq, ht q hq]
  exact psR_cg hg 9 (by decide) q hq
theorem zr_step {g : Nat → Int64} {j : Nat} (h : ∀ q : Nat, q < j → g q = 0) : ∀ q : Nat, q < j + 1 → vp_updL g j 0 q = 0 := by
  intro q hq
  by_cases c : q = j
  · rw [c, upL_eq]
  · rw [upL_ne c]; exact h q (by omega)
theorem cp_step {g t : Nat → Int64} {j : Nat} (h : ∀ q : Nat, q < j → g q = t q) : ∀ q : Nat, q < j + 1 → vp_updL g j (t j) q = t q := by
  intro q hq
  by_cases c : q = j
  · rw [c, upL_eq]
  · rw [upL_ne c]; exact h q (by omega)
theorem psF_t {j : Nat} {x : Int32} (h : nI j = x) (d : Nat) : min 9 (d + 2) = psF (decide (nI j = x)) d := by
  rw [decide_eq_true h]; rfl
theorem psF_n {j : Nat} {x : Int32} (h : ¬ nI j = x) (d : Nat) : d = psF (decide (nI j = x)) d := by
  rw [decide_eq_false h]; rfl

set_option maxHeartbeats 1000000 in
set_option maxRecDepth 100000 in
theorem c_X10_commonDivisorE (l : Launch) (dC : Nat → ClassId) (dI : Nat → Nat → Nat) (G : Nat → ClassId) (sz : Nat) (v q1 : Int64)  : Met l yX10_commonDivisor (Cond.code yX10_commonDivisor cX10_commonDivisor 11 (some .long) :: GT) ({ frames := 0, cells := 0, slots := 0, locals := 0 } : Room) (PcR [.long v, .long q1] dC dI G [] sz) (va_Ql (fun (r : Int64) (u : Unit) => match u with | _ => (r = euV v q1) ∧ True) (fun _ _ => True) (fun q : Nat => sz ≤ q)) 0 0 (fun q : Nat => sz ≤ q) := by
  refine Met.ofW (cc := cX10_commonDivisor) (maxL := 11) (ret := (some .long)) (by decide) rfl ?_
  intro p e s m args below meth c s₁ Bd hml hv
  obtain ⟨rfl, hsz, hP, hK⟩ := hv
  have hx := Bd.exec
  have hb := Bd.bytes
  have hr := Bd.returns
  have hg : ∀ w ∈ GT, w.before ([.long v, .long q1] : List Value).toArray s = true := fun w h => atoms_spec (ws := Cond.code yX10_commonDivisor cX10_commonDivisor 11 (some .long) :: GT) Bd.pre w (List.mem_cons_of_mem _ h)
  have hown : s.vm.findClass RX10 = some m.cls := findClass_of_methodNamed Bd.named
  have hlocks := Bd.notSynchronized
  subst hsz
  have hA : ∀ q : Nat, s.heap.size ≤ q → (fun q : Nat => s.heap.size ≤ q) q := fun _ h => h
  have hS : va_S (fun q : Nat => s.heap.size ≤ q) s.heap s.heap [] := va_S.rf
  have hl := lv_entry ([.long v, .long q1]) (n := 11) (Nat.le_of_ble_eq_true rfl)
  rw [lg_entry_eq]
  generalize (lg_sl ([.long v, .long q1]) ++ List.replicate (11 - (lg_sl ([.long v, .long q1])).length) Slot.unset).toArray = ls at hl ⊢
  have hl : lv_has ls 11 [(0, .long v), (2, .long q1)] := hl
  refine lv_lload_n hx hb dX10_commonDivisor_0 rfl (lv_at hl 0 rfl) ?_
  refine lv_lstore (lv' := [(4, .long v), (0, .long v), (2, .long q1)]) hx hb dX10_commonDivisor_1 hl (by decide) rfl (fun ls hl => ?_)
  refine lv_lload_n hx hb dX10_commonDivisor_3 rfl (lv_at hl 2 rfl) ?_
  refine lv_lstore (lv' := [(6, .long q1), (4, .long v), (0, .long v), (2, .long q1)]) hx hb dX10_commonDivisor_4 hl (by decide) rfl (fun ls hl => ?_)
  refine lv_iconst (v := 0) hx hb dX10_commonDivisor_6 rfl ?_
  refine lv_istore (lv' := [(8, .int 0), (6, .long q1), (4, .long v), (0, .long v), (2, .long q1)]) hx hb dX10_commonDivisor_7 hl (by decide) rfl (fun ls hl => ?_)
  have loop9_4 : ∀ (nf j1 : Nat), 200 + 1 ≤ j1 + nf → j1 ≤ 200 → ∀ (y2 : Int64) (y3 : Int64) (H : Heap) (locs : List Loc), euG (200 - j1) y3 y2 = euG 200 v q1 → va_P (dC, dI) vwCl [] H → va_S (fun q : Nat => s.heap.size ≤ q) s.heap H locs → ∀ (ls : Array Slot), lv_has ls 11 [(8, .int (nI j1)), (6, .long y2), (4, .long y3), (0, .long v), (2, .long q1)] → W p l e (headSpec (Cond.code yX10_commonDivisor cX10_commonDivisor 11 (some .long) :: GT) ({ frames := 0, cells := 0, slots := 0, locals := 0 } : Room)).room s m ([.long v, .long q1] : List Value).toArray below meth c H locs 0 0 (MQ below (va_Ql (fun (r : Int64) (u : Unit) => match u with | _ => (r = euV v q1) ∧ True) (fun _ _ => True) (fun q : Nat => s.heap.size ≤ q)) ([.long v, .long q1] : List Value).toArray s 0 0 (fun q : Nat => s.heap.size ≤ q)) (F0 m 9 ls []) := by
    intro nf
    induction nf with
    | zero => intro j1 h1 h2; exact absurd h1 (by omega)
    | succ nf ih9_4 =>
      intro j1 hn5 hj6 y2 y3 H locs hinv hP hS ls hl
      refine lv_iload hx hb dX10_commonDivisor_9 (lv_at hl 0 rfl) ?_
      refine lv_sipush (v := 200) hx hb dX10_commonDivisor_11 rfl ?_
      refine lv_icmp_ge (tgt := 45) hx hb dX10_commonDivisor_14 rfl (fun c7 => ?_) (fun c7 => ?_)
      · skip
        have tn2230_ : nIT j1 := fun _ => nI_toInt (by first | omega | (have t := leI c7; omega))
        have n8 : 200 ≤ j1 := by have t := leI c7; rw [show (nI (j1)).toInt = ((j1 : Nat) : Int) from tn2230_ ()] at t; have : (200 : Int32).toInt = 200 := qI_200; omega
        refine lv_lload hx hb dX10_commonDivisor_45 (lv_at hl 2 rfl) ?_
        have hpost : (y3 : Int64) = euV v q1 := by
          have t_hj6 := hj6
          have t_n8 := n8
          have t_n0 : (nI j1).toInt = (j1 : Int) := tn2230_ ()
          first | (exact (euG_0 (by omega)).symm.trans hinv) | (have h9 := hinv; rw [show 200 - j1 = 0 by omega] at h9; exact h9)
        refine W.widen (k := 0) (n := 0) (Nat.le_of_ble_eq_true rfl) (Nat.le_of_ble_eq_true rfl) ?_
        exact W.lret (v := y3) hx hb hr (fun t ht hW => ⟨⟨y3, (), rfl, ⟨hpost, trivial⟩, trivial⟩, hS.F ht⟩) hS.2.2 dX10_commonDivisor_47
      · skip
        have tn2231_ : nIT j1 := fun _ => nI_toInt (by first | omega | (have t := nleI c7; omega))
        have n9 : j1 < 200 := by have t := nleI c7; rw [show (nI (j1)).toInt = ((j1 : Nat) : Int) from tn2231_ ()] at t; have : (200 : Int32).toInt = 200 := qI_200; omega
        refine lv_lload hx hb dX10_commonDivisor_17 (lv_at hl 1 rfl) ?_
        refine lv_lconst (v := 0) hx hb dX10_commonDivisor_19 (by decide) ?_
        refine W.lcmp hx hb dX10_commonDivisor_20 ?_
        refine lv_if_eq (tgt := 45) hx hb dX10_commonDivisor_21 rfl (fun c10 => ?_) (fun c10 => ?_)
        · skip
          refine lv_lload hx hb dX10_commonDivisor_45 (lv_at hl 2 rfl) ?_
          have hpost : (y3 : Int64) = euV v q1 := by
            have t_hj6 := hj6
            have t_n9 := n9
            have t_c10 := lcm_eq_t c10
            have : (0 : Int64).toInt = 0 := qL_0
            have t_n0 : (nI j1).toInt = (j1 : Int) := tn2231_ ()
            first | (exact (euG_0 (by omega)).symm.trans hinv) | (have h9 := hinv; rw [show 200 - j1 = 0 by omega] at h9; exact h9)
          refine W.widen (k := 0) (n := 0) (Nat.le_of_ble_eq_true rfl) (Nat.le_of_ble_eq_true rfl) ?_
          exact W.lret (v := y3) hx hb hr (fun t ht hW => ⟨⟨y3, (), rfl, ⟨hpost, trivial⟩, trivial⟩, hS.F ht⟩) hS.2.2 dX10_commonDivisor_47
        · skip
          refine lv_lload hx hb dX10_commonDivisor_24 (lv_at hl 2 rfl) ?_
          refine lv_lload hx hb dX10_commonDivisor_26 (lv_at hl 1 rfl) ?_
          refine lv_lrem hx hb dX10_commonDivisor_28 (by intro h0; have t0 := congrArg Int64.toInt h0; have z0 : (0 : Int64).toInt = 0 := qL_0; have t_hj6 := hj6; have t_n9 := n9; have t_c10 := lcm_eq_f c10; have : (0 : Int64).toInt = 0 := qL_0; have t_n0 : (nI j1).toInt = (j1 : Int) := tn2231_ (); omega) ?_
          refine lv_lstore (lv' := [(9, .long (y3 - y3 / y2 * y2)), (8, .int (nI j1)), (6, .long y2), (4, .long y3), (0, .long v), (2, .long q1)]) hx hb dX10_commonDivisor_29 hl (by decide) rfl (fun ls hl => ?_)
          refine lv_lload hx hb dX10_commonDivisor_31 (lv_at hl 2 rfl) ?_
          refine lv_lstore (lv' := [(4, .long y2), (9, .long (y3 - y3 / y2 * y2)), (8, .int (nI j1)), (6, .long y2), (0, .long v), (2, .long q1)]) hx hb dX10_commonDivisor_33 hl (by decide) rfl (fun ls hl => ?_)
          refine lv_lload hx hb dX10_commonDivisor_35 (lv_at hl 1 rfl) ?_
          refine lv_lstore (lv' := [(6, .long (y3 - y3 / y2 * y2)), (4, .long y2), (9, .long (y3 - y3 / y2 * y2)), (8, .int (nI j1)), (0, .long v), (2, .long q1)]) hx hb dX10_commonDivisor_37 hl (by decide) rfl (fun ls hl => ?_)
          refine lv_iinc (v := nI (j1 + 1)) (lv' := [(8, .int (nI (j1 + 1))), (6, .long (y3 - y3 / y2 * y2)), (4, .long y2), (9, .long (y3 - y3 / y2 * y2)), (0, .long v), (2, .long q1)]) hx hb dX10_commonDivisor_39 hl (k := 3) rfl (by rw [show Int32.ofInt 1 = nI 1 from by decide]; exact nI_add _ _) (by decide) rfl (fun ls hl => ?_)
          refine lv_goto (tgt := 9) hx hb dX10_commonDivisor_42 rfl ?_
          exact ih9_4 (j1 + 1) (by omega) (by omega) (y3 - y3 / y2 * y2) y2 _ _ (by have t_hj6 := hj6; have t_n9 := n9; have t_c10 := lcm_eq_f c10; have : (0 : Int64).toInt = 0 := qL_0; have t_n0 : (nI j1).toInt = (j1 : Int) := tn2231_ (); rw [← hinv, show 200 - j1 = 200 - (j1 + 1) + 1 by omega]; exact (euG_s (by omega)).symm) hP hS ls (lv_sub hl [0, 1, 2, 4, 5] rfl)
  exact loop9_4 (200 + 1) 0 (by omega) (by omega) q1 v _ _ rfl hP hS ls (lv_sub hl [0, 1, 2, 3, 4] rfl)

set_option maxHeartbeats 1000000 in
set_option maxRecDepth 100000 in
theorem c_X10_fractionE (l : Launch) (dC : Nat → ClassId) (dI : Nat → Nat → Nat) (G : Nat → ClassId) (sz : Nat) (i : Int32) (v q1 : Int64) (hx2 : q1.toInt ≠ 0) : Met l yX10_fraction (Cond.code yX10_fraction cX10_fraction 7 (some .long) :: GT) ({ frames := 1, cells := 0, slots := 0, locals := 30 } : Room) (PcR [.long v, .long q1, .int i] dC dI G [] sz) (va_Ql (fun (r : Int64) (u : Unit) => match u with | _ => (r = frF v q1 i) ∧ True) (fun _ _ => True) (fun q : Nat => sz ≤ q)) 0 0 (fun q : Nat => sz ≤ q) := by
  refine Met.ofW (cc := cX10_fraction) (maxL := 7) (ret := (some .long)) (by decide) rfl ?_
  intro p e s m args below meth c s₁ Bd hml hv
  obtain ⟨rfl, hsz, hP, hK⟩ := hv
  have hx := Bd.exec
  have hb := Bd.bytes
  have hr := Bd.returns
  have hg : ∀ w ∈ GT, w.before ([.long v, .long q1, .int i] : List Value).toArray s = true := fun w h => atoms_spec (ws := Cond.code yX10_fraction cX10_fraction 7 (some .long) :: GT) Bd.pre w (List.mem_cons_of_mem _ h)
  have hown : s.vm.findClass RX10 = some m.cls := findClass_of_methodNamed Bd.named
  have hlocks := Bd.notSynchronized
  subst hsz
  have hA : ∀ q : Nat, s.heap.size ≤ q → (fun q : Nat => s.heap.size ≤ q) q := fun _ h => h
  have hS : va_S (fun q : Nat => s.heap.size ≤ q) s.heap s.heap [] := va_S.rf
  have hl := lv_entry ([.long v, .long q1, .int i]) (n := 7) (Nat.le_of_ble_eq_true rfl)
  rw [lg_entry_eq]
  generalize (lg_sl ([.long v, .long q1, .int i]) ++ List.replicate (7 - (lg_sl ([.long v, .long q1, .int i])).length) Slot.unset).toArray = ls at hl ⊢
  have hl : lv_has ls 7 [(0, .long v), (2, .long q1), (4, .int i)] := hl
  refine lv_lload_n hx hb dX10_fraction_0 rfl (lv_at hl 0 rfl) ?_
  refine lv_lload_n hx hb dX10_fraction_1 rfl (lv_at hl 1 rfl) ?_
  have hPc := hP.sub (ws' := []) [] rfl
  refine va_calll (va_runS (As := [.long v, .long q1]) (rest := []) ⟨hx, hb, hml, hown, hg⟩ (c_X10_commonDivisorE l dC dI G _ v q1) (kwS hg mfX10_commonDivisor wt_638 ⟨Nat.le_of_ble_eq_true rfl, Nat.le_of_ble_eq_true rfl⟩) (preSR hK hPc) rfl rfl hl.1 rfl (lv_room (Nat.le_of_ble_eq_true rfl)) dX10_fraction_2 ⟨Nat.le_of_ble_eq_true rfl, Nat.le_of_ble_eq_true rfl⟩) hS (fun q h1 h2 => absurd h2 (Nat.not_le.mpr h1)) (fun q h => hA q (Nat.le_trans hS.1 h)) (fun r1 ur1 t H1 locs ht hvm w2 hB hz1 hk1 hS => ?_)
  have hP := keepR hP hk1
  obtain ⟨w2, w2x⟩ := w2
  subst w2
  refine lv_lstore (lv' := [(5, .long (euV v q1)), (0, .long v), (2, .long q1), (4, .int i)]) hx hb dX10_fraction_5 hl (by decide) rfl (fun ls hl => ?_)
  refine lv_lload hx hb dX10_fraction_7 (lv_at hl 0 rfl) ?_
  refine lv_lconst (v := 0) hx hb dX10_fraction_9 (by decide) ?_
  refine W.lcmp hx hb dX10_fraction_10 ?_
  refine lv_if_ne (tgt := 18) hx hb dX10_fraction_11 rfl (fun c3 => ?_) (fun c3 => ?_)
  · skip
    refine lv_iload hx hb dX10_fraction_18 (lv_at hl 3 rfl) ?_
    refine lv_if_ne (tgt := 27) hx hb dX10_fraction_20 rfl (fun c4 => ?_) (fun c4 => ?_)
    · skip
      refine lv_lload_n hx hb dX10_fraction_27 rfl (lv_at hl 2 rfl) ?_
      refine lv_lload hx hb dX10_fraction_28 (lv_at hl 0 rfl) ?_
      refine lv_ldiv hx hb dX10_fraction_30 (by intro h0; have t0 := congrArg Int64.toInt h0; have z0 : (0 : Int64).toInt = 0 := qL_0; have t_c3 := lcm_ne_t c3; have t_c4 := neI c4; have tqz_ := qz4_; omega) ?_
      have hpost : (q1 / (euV v q1) : Int64) = frF v q1 i := by
        have t_c3 := lcm_ne_t c3
        have t_c4 := neI c4
        have : (0 : Int32).toInt = 0 := qI_0
        have : (0 : Int64).toInt = 0 := qL_0
        have z0 : (0 : Int32).toInt = 0 := qI_0
        have z1 : (1 : Int32).toInt = 1 := qI_1
        have z2 : (2 : Int32).toInt = 2 := qI_2
        have z3 : (3 : Int32).toInt = 3 := qI_3
        have z5 : (5 : Int32).toInt = 5 := qI_5
        have z9 : (9 : Int32).toInt = 9 := qI_9
        unfold frF
        by_cases h9 : i = 0
        · have h8 := congrArg Int32.toInt h9; rw [if_pos h9]; first | done | (exfalso; omega)
        · rw [if_neg h9]; first | done | (exfalso; exact h9 (Int32.toInt_inj.mp (by omega)))
      refine W.widen (k := 0) (n := 0) (Nat.le_of_ble_eq_true rfl) (Nat.le_of_ble_eq_true rfl) ?_
      exact W.lret (v := q1 / (euV v q1)) hx hb hr (fun t ht hW => ⟨⟨q1 / (euV v q1), (), rfl, ⟨hpost, trivial⟩, trivial⟩, hS.F ht⟩) hS.2.2 dX10_fraction_31
    · skip
      refine lv_lload_n hx hb dX10_fraction_23 rfl (lv_at hl 1 rfl) ?_
      refine lv_goto (tgt := 28) hx hb dX10_fraction_24 rfl ?_
      refine lv_lload hx hb dX10_fraction_28 (lv_at hl 0 rfl) ?_
      refine lv_ldiv hx hb dX10_fraction_30 (by intro h0; have t0 := congrArg Int64.toInt h0; have z0 : (0 : Int64).toInt = 0 := qL_0; have t_c3 := lcm_ne_t c3; have t_c4 := eqI c4; have tqz_ := qz4_; omega) ?_
      have hpost : (v / (euV v q1) : Int64) = frF v q1 i := by
        have t_c3 := lcm_ne_t c3
        have t_c4 := eqI c4
        have : (0 : Int32).toInt = 0 := qI_0
        have : (0 : Int64).toInt = 0 := qL_0
        have z0 : (0 : Int32).toInt = 0 := qI_0
        have z1 : (1 : Int32).toInt = 1 := qI_1
        have z2 : (2 : Int32).toInt = 2 := qI_2
        have z3 : (3 : Int32).toInt = 3 := qI_3
        have z5 : (5 : Int32).toInt = 5 := qI_5
        have z9 : (9 : Int32).toInt = 9 := qI_9
        unfold frF
        by_cases h9 : i = 0
        · have h8 := congrArg Int32.toInt h9; rw [if_pos h9]; first | done | (exfalso; omega)
        · rw [if_neg h9]; first | done | (exfalso; exact h9 (Int32.toInt_inj.mp (by omega)))
      refine W.widen (k := 0) (n := 0) (Nat.le_of_ble_eq_true rfl) (Nat.le_of_ble_eq_true rfl) ?_
      exact W.lret (v := v / (euV v q1)) hx hb hr (fun t ht hW => ⟨⟨v / (euV v q1), (), rfl, ⟨hpost, trivial⟩, trivial⟩, hS.F ht⟩) hS.2.2 dX10_fraction_31
  · skip
    refine lv_ldc2 (v := (-1)) hx hb hown (hg _ wt_607) dX10_fraction_14 ?_
    have hpost : ((-1) : Int64) = frF v q1 i := by
      have t_c3 := lcm_ne_f c3
      have : (0 : Int64).toInt = 0 := qL_0
      have z0 : (0 : Int32).toInt = 0 := qI_0
      have z1 : (1 : Int32).toInt = 1 := qI_1
      have z2 : (2 : Int32).toInt = 2 := qI_2
      have z3 : (3 : Int32).toInt = 3 := qI_3
      have z5 : (5 : Int32).toInt = 5 := qI_5
      have z9 : (9 : Int32).toInt = 9 := qI_9
      exfalso
      have n9 := euV_ne _ v q1 (Nat.lt_succ_self _) (Or.inr hx2)
      omega
    refine W.widen (k := 0) (n := 0) (Nat.le_of_ble_eq_true rfl) (Nat.le_of_ble_eq_true rfl) ?_
    exact W.lret (v := (-1)) hx hb hr (fun t ht hW => ⟨⟨(-1), (), rfl, ⟨hpost, trivial⟩, trivial⟩, hS.F ht⟩) hS.2.2 dX10_fraction_17

set_option maxHeartbeats 1000000 in
set_option maxRecDepth 100000 in
theorem c_X4_beginE (l : Launch) (dC : Nat → ClassId) (dI : Nat → Nat → Nat) (G : Nat → ClassId) (sz : Nat) (h0 sa aa dd : Nat) (w0 : Int64) (f g : Nat → Int64) (hdd : dd ≤ 9) : Met l yX4_begin (Cond.code yX4_begin cX4_begin 3 none :: GT) ({ frames := 0, cells := 0, slots := 0, locals := 0 } : Room) (PcW [.ref h0, .int (nI dd)] dC dI G [(h0, .inr (4, [.long w0, .ref sa, .ref aa])), (sa, .inl (G 1, 10, .inr (.inl f))), (aa, .inl (G 1, 10, .inr (.inl g)))] sz) (va_Qv (fun (u : Int64 × (Nat → Int64) × (Nat → Int64)) => match u with | (u0, u1, u2) => u0 = 1 ∧ ∀ q9 : Nat, q9 < 10 → u1 q9 = od0 dd q9) (fun (u : Int64 × (Nat → Int64) × (Nat → Int64)) (t : State) => match u with | (u0, u1, u2) => va_P (dC, dI) vwCl [(h0, .inr (4, [.long u0, .ref sa, .ref aa])), (sa, .inl (G 1, 10, .inr (.inl u1))), (aa, .inl (G 1, 10, .inr (.inl u2)))] t.heap ∧ va_D (va_A [(h0, .inr (4, [.long w0, .ref sa, .ref aa])), (sa, .inl (G 1, 10, .inr (.inl f))), (aa, .inl (G 1, 10, .inr (.inl g)))] sz) [(h0, .inr (4, [.long u0, .ref sa, .ref aa])), (sa, .inl (G 1, 10, .inr (.inl u1))), (aa, .inl (G 1, 10, .inr (.inl u2)))]) (va_A [(h0, .inr (4, [.long w0, .ref sa, .ref aa])), (sa, .inl (G 1, 10, .inr (.inl f))), (aa, .inl (G 1, 10, .inr (.inl g)))] sz)) 0 0 (va_A [(h0, .inr (4, [.long w0, .ref sa, .ref aa])), (sa, .inl (G 1, 10, .inr (.inl f))), (aa, .inl (G 1, 10, .inr (.inl g)))] sz) := by
  refine Met.ofW (cc := cX4_begin) (maxL := 3) (ret := none) (by decide) rfl ?_
  intro p e s m args below meth c s₁ Bd hml hv
  obtain ⟨rfl, hsz, hP, hK, hD0⟩ := hv
  have hx := Bd.exec
  have hb := Bd.bytes
  have hr := Bd.returns
  have hg : ∀ w ∈ GT, w.before ([.ref h0, .int (nI dd)] : List Value).toArray s = true := fun w h => atoms_spec (ws := Cond.code yX4_begin cX4_begin 3 none :: GT) Bd.pre w (List.mem_cons_of_mem _ h)
  have hown : s.vm.findClass RX4 = some m.cls := findClass_of_methodNamed Bd.named
  have hlocks := Bd.notSynchronized
  subst hsz
  have hD := hD0.self (sz := s.heap.size)
  generalize hAe : va_A [(h0, .inr (4, [.long w0, .ref sa, .ref aa])), (sa, .inl (G 1, 10, .inr (.inl f))), (aa, .inl (G 1, 10, .inr (.inl g)))] s.heap.size = A at hD ⊢
  have hA : ∀ q : Nat, s.heap.size ≤ q → A q := fun q h => by rw [← hAe]; exact Or.inr h
  have hS : va_S A s.heap s.heap [] := va_S.rf
  have hl := lv_entry ([.ref h0, .int (nI dd)]) (n := 3) (Nat.le_of_ble_eq_true rfl)
  rw [lg_entry_eq]
  generalize (lg_sl ([.ref h0, .int (nI dd)]) ++ List.replicate (3 - (lg_sl ([.ref h0, .int (nI dd)])).length) Slot.unset).toArray = ls at hl ⊢
  have hl : lv_has ls 3 [(0, .ref h0), (1, .int (nI dd))] := hl
  refine lv_aload_n hx hb dX4_begin_0 rfl (lv_at hl 0 rfl) ?_
  refine lv_lconst (v := 1) hx hb dX4_begin_1 (by decide) ?_
  refine va_put (D := (dC, dI)) (ci := 4) (v := .long 1) (ty := .long) (C := RX4) (T := TX4) (N := 3) hx hb hg inG4 tyX4 tyX4_ok nmX4 hown hK.1 hP hD hS 0 rfl rfl 0 (Nat.le_of_ble_eq_true rfl) (hg _ wt_156) (fun _ h9 => h9) rfl (by decide +kernel) rfl rfl (Nat.le_of_ble_eq_true rfl) dX4_begin_2 (fun H locs hP hD hS => ?_)
  refine lv_iconst (v := 0) hx hb dX4_begin_5 rfl ?_
  refine lv_istore_n (lv' := [(2, .int 0), (0, .ref h0), (1, .int (nI dd))]) hx hb dX4_begin_6 rfl hl (by decide) rfl (fun ls hl => ?_)
  have loop7_3 : ∀ (nf j1 : Nat), 10 + 1 ≤ j1 + nf → j1 ≤ 10 → ∀ (g2 : Nat → Int64) (H : Heap) (locs : List Loc), (∀ q9 : Nat, q9 < j1 → g2 q9 = od0 dd q9) → va_P (dC, dI) vwCl [(h0, .inr (4, [.long 1, .ref sa, .ref aa])), (sa, .inl (G 1, 10, .inr (.inl g2))), (aa, .inl (G 1, 10, .inr (.inl g)))] H → va_D A [(h0, .inr (4, [.long 1, .ref sa, .ref aa])), (sa, .inl (G 1, 10, .inr (.inl g2))), (aa, .inl (G 1, 10, .inr (.inl g)))] → va_S A s.heap H locs → ∀ (ls : Array Slot), lv_has ls 3 [(2, .int (nI j1)), (0, .ref h0), (1, .int (nI dd))] → W p l e (headSpec (Cond.code yX4_begin cX4_begin 3 none :: GT) ({ frames := 0, cells := 0, slots := 0, locals := 0 } : Room)).room s m ([.ref h0, .int (nI dd)] : List Value).toArray below meth c H locs 0 0 (MQ below (va_Qv (fun (u : Int64 × (Nat → Int64) × (Nat → Int64)) => match u with | (u0, u1, u2) => u0 = 1 ∧ ∀ q9 : Nat, q9 < 10 → u1 q9 = od0 dd q9) (fun (u : Int64 × (Nat → Int64) × (Nat → Int64)) (t : State) => match u with | (u0, u1, u2) => va_P (dC, dI) vwCl [(h0, .inr (4, [.long u0, .ref sa, .ref aa])), (sa, .inl (G 1, 10, .inr (.inl u1))), (aa, .inl (G 1, 10, .inr (.inl u2)))] t.heap ∧ va_D A [(h0, .inr (4, [.long u0, .ref sa, .ref aa])), (sa, .inl (G 1, 10, .inr (.inl u1))), (aa, .inl (G 1, 10, .inr (.inl u2)))]) A) ([.ref h0, .int (nI dd)] : List Value).toArray s 0 0 A) (F0 m 7 ls []) := by
    intro nf
    induction nf with
    | zero => intro j1 h1 h2; exact absurd h1 (by omega)
    | succ nf ih7_3 =>
      intro j1 hn4 hj5 g2 H locs hinv hP hD hS ls hl
      refine lv_iload_n hx hb dX4_begin_7 rfl (lv_at hl 0 rfl) ?_
      refine lv_bipush (v := 10) hx hb dX4_begin_8 rfl ?_
      refine lv_icmp_ge (tgt := 35) hx hb dX4_begin_10 rfl (fun c6 => ?_) (fun c6 => ?_)
      · skip
        have tn2232_ : nIT j1 := fun _ => nI_toInt (by first | omega | (have t := leI c6; omega))
        have n7 : 10 ≤ j1 := by have t := leI c6; rw [show (nI (j1)).toInt = ((j1 : Nat) : Int) from tn2232_ ()] at t; have : (10 : Int32).toInt = 10 := qI_10; omega
        obtain ⟨hP9, hD9⟩ := va_sub2 (ws' := [(h0, .inr (4, [.long 1, .ref sa, .ref aa])), (sa, .inl (G 1, 10, .inr (.inl g2))), (aa, .inl (G 1, 10, .inr (.inl g)))]) hP hD [0, 1, 2] (by decide +kernel) rfl
        refine W.widen (k := 0) (n := 0) (Nat.le_of_ble_eq_true rfl) (Nat.le_of_ble_eq_true rfl) ?_
        exact W.vret hx hb hr (fun t ht hW => ⟨⟨(1, g2, g), rfl, ⟨rfl, fun q9 h9 => hinv q9 (by omega)⟩, ⟨by rw [ht]; exact hP9, hD9⟩⟩, hS.F ht⟩) hS.2.2 dX4_begin_35
      · skip
        have tn2233_ : nIT j1 := fun _ => nI_toInt (by first | omega | (have t := nleI c6; omega))
        have n8 : j1 < 10 := by have t := nleI c6; rw [show (nI (j1)).toInt = ((j1 : Nat) : Int) from tn2233_ ()] at t; have : (10 : Int32).toInt = 10 := qI_10; omega
        refine lv_aload_n hx hb dX4_begin_13 rfl (lv_at hl 1 rfl) ?_
        refine va_get (D := (dC, dI)) (ci := 4) (v := .ref sa) (C := RX4) (T := TX4) (N := 3) hx hb hg inG4 hown hK.1 hP 0 rfl rfl 1 (Nat.le_of_ble_eq_true rfl) (hg _ wt_158) (fun _ h9 => h9) rfl dX4_begin_14 ?_
        refine lv_iload_n hx hb dX4_begin_17 rfl (lv_at hl 0 rfl) ?_
        refine lv_iload_n hx hb dX4_begin_18 rfl (lv_at hl 0 rfl) ?_
        refine lv_iload_n hx hb dX4_begin_19 rfl (lv_at hl 2 rfl) ?_
        refine lv_icmp_ne (tgt := 27) hx hb dX4_begin_20 rfl (fun c9 => ?_) (fun c9 => ?_)
        · skip
          have tn2234_ : nIT dd := fun _ => nI_toInt (by omega)
          have n10 : j1 ≠ dd := by have t := neI c9; rw [show (nI (j1)).toInt = ((j1 : Nat) : Int) from tn2233_ ()] at t; rw [show (nI (dd)).toInt = ((dd : Nat) : Int) from tn2234_ ()] at t; omega
          refine lv_lconst (v := 0) hx hb dX4_begin_27 (by decide) ?_
          refine va_last hx hb hK.1 hP hD hS 1 1 rfl rfl (vp_in_nI (by first | omega | (have t_hj5 := hj5; have t_n8 := n8; have t_n10 := n10; have tnb_ := nib2 tn2234_ tn2233_; omega)) (by decide)) dX4_begin_28 (fun H locs hP hD hS => ?_)
          rw [nI_clamp (by omega)] at hP hD
          refine lv_iinc (v := nI (j1 + 1)) (lv' := [(2, .int (nI (j1 + 1))), (0, .ref h0), (1, .int (nI dd))]) hx hb dX4_begin_29 hl (k := 0) rfl (by rw [show Int32.ofInt 1 = nI 1 from by decide]; exact nI_add _ _) (by decide) rfl (fun ls hl => ?_)
          refine lv_goto (tgt := 7) hx hb dX4_begin_32 rfl ?_
          exact ih7_3 (j1 + 1) (by omega) (by omega) (vp_updL g2 j1 0) _ _ (by first | exact od_s1 hinv (by omega) | exact od_s0 hinv (by omega)) hP hD hS ls (lv_sub hl [0, 1, 2] rfl)
        · skip
          have tn2235_ : nIT dd := fun _ => nI_toInt (by omega)
          have n11 : j1 = dd := by have t := eqI c9; rw [show (nI (j1)).toInt = ((j1 : Nat) : Int) from tn2233_ ()] at t; rw [show (nI (dd)).toInt = ((dd : Nat) : Int) from tn2235_ ()] at t; omega
          refine lv_lconst (v := 1) hx hb dX4_begin_23 (by decide) ?_
          refine lv_goto (tgt := 28) hx hb dX4_begin_24 rfl ?_
          refine va_last hx hb hK.1 hP hD hS 1 1 rfl rfl (vp_in_nI (by first | omega | (have t_hj5 := hj5; have t_n8 := n8; have t_n11 := n11; have tnb_ := nib2 tn2235_ tn2233_; omega)) (by decide)) dX4_begin_28 (fun H locs hP hD hS => ?_)
          rw [nI_clamp (by omega)] at hP hD
          refine lv_iinc (v := nI (j1 + 1)) (lv' := [(2, .int (nI (j1 + 1))), (0, .ref h0), (1, .int (nI dd))]) hx hb dX4_begin_29 hl (k := 0) rfl (by rw [show Int32.ofInt 1 = nI 1 from by decide]; exact nI_add _ _) (by decide) rfl (fun ls hl => ?_)
          refine lv_goto (tgt := 7) hx hb dX4_begin_32 rfl ?_
          exact ih7_3 (j1 + 1) (by omega) (by omega) (vp_updL g2 j1 1) _ _ (by first | exact od_s1 hinv (by omega) | exact od_s0 hinv (by omega)) hP hD hS ls (lv_sub hl [0, 1, 2] rfl)
  exact loop7_3 (10 + 1) 0 (by omega) (by omega) f _ _ (fun q9 h9 => absurd h9 (Nat.not_lt_zero _)) hP hD hS ls (lv_sub hl [0, 1, 2] rfl)

set_option maxHeartbeats 1000000 in
set_option maxRecDepth 100000 in
theorem c_X4_takeAheadE (l : Launch) (dC : Nat → ClassId) (dI : Nat → Nat → Nat) (G : Nat → ClassId) (sz : Nat) (h0 sa aa : Nat) (w0 : Int64) (f g : Nat → Int64)  : Met l yX4_takeAhead (Cond.code yX4_takeAhead cX4_takeAhead 2 none :: GT) ({ frames := 0, cells := 0, slots := 0, locals := 0 } : Room) (PcW [.ref h0] dC dI G [(h0, .inr (4, [.long w0, .ref sa, .ref aa])), (sa, .inl (G 1, 10, .inr (.inl f))), (aa, .inl (G 1, 10, .inr (.inl g)))] sz) (va_Qv (fun (u : Int64 × (Nat → Int64) × (Nat → Int64)) => match u with | (u0, u1, u2) => u0 = w0 ∧ ∀ q9 : Nat, q9 < 10 → u1 q9 = 0 ∧ u2 q9 = f q9) (fun (u : Int64 × (Nat → Int64) × (Nat → Int64)) (t : State) => match u with | (u0, u1, u2) => va_P (dC, dI) vwCl [(h0, .inr (4, [.long u0, .ref sa, .ref aa])), (sa, .inl (G 1, 10, .inr (.inl u1))), (aa, .inl (G 1, 10, .inr (.inl u2)))] t.heap ∧ va_D (va_A [(h0, .inr (4, [.long w0, .ref sa, .ref aa])), (sa, .inl (G 1, 10, .inr (.inl f))), (aa, .inl (G 1, 10, .inr (.inl g)))] sz) [(h0, .inr (4, [.long u0, .ref sa, .ref aa])), (sa, .inl (G 1, 10, .inr (.inl u1))), (aa, .inl (G 1, 10, .inr (.inl u2)))]) (va_A [(h0, .inr (4, [.long w0, .ref sa, .ref aa])), (sa, .inl (G 1, 10, .inr (.inl f))), (aa, .inl (G 1, 10, .inr (.inl g)))] sz)) 0 0 (va_A [(h0, .inr (4, [.long w0, .ref sa, .ref aa])), (sa, .inl (G 1, 10, .inr (.inl f))), (aa, .inl (G 1, 10, .inr (.inl g)))] sz) := by
  refine Met.ofW (cc := cX4_takeAhead) (maxL := 2) (ret := none) (by decide) rfl ?_
  intro p e s m args below meth c s₁ Bd hml hv
  obtain ⟨rfl, hsz, hP, hK, hD0⟩ := hv
  have hx := Bd.exec
  have hb := Bd.bytes
  have hr := Bd.returns
  have hg : ∀ w ∈ GT, w.before ([.ref h0] : List Value).toArray s = true := fun w h => atoms_spec (ws := Cond.code yX4_takeAhead cX4_takeAhead 2 none :: GT) Bd.pre w (List.mem_cons_of_mem _ h)
  have hown : s.vm.findClass RX4 = some m.cls := findClass_of_methodNamed Bd.named
  have hlocks := Bd.notSynchronized
  subst hsz
  have hD := hD0.self (sz := s.heap.size)
  generalize hAe : va_A [(h0, .inr (4, [.long w0, .ref sa, .ref aa])), (sa, .inl (G 1, 10, .inr (.inl f))), (aa, .inl (G 1, 10, .inr (.inl g)))] s.heap.size = A at hD ⊢
  have hA : ∀ q : Nat, s.heap.size ≤ q → A q := fun q h => by rw [← hAe]; exact Or.inr h
  have hS : va_S A s.heap s.heap [] := va_S.rf
  have hl := lv_entry ([.ref h0]) (n := 2) (Nat.le_of_ble_eq_true rfl)
  rw [lg_entry_eq]
  generalize (lg_sl ([.ref h0]) ++ List.replicate (2 - (lg_sl ([.ref h0])).length) Slot.unset).toArray = ls at hl ⊢
  have hl : lv_has ls 2 [(0, .ref h0)] := hl
  refine lv_iconst (v := 0) hx hb dX4_takeAhead_0 rfl ?_
  refine lv_istore_n (lv' := [(1, .int 0), (0, .ref h0)]) hx hb dX4_takeAhead_1 rfl hl (by decide) rfl (fun ls hl => ?_)
  have loop2_4 : ∀ (nf j1 : Nat), 10 + 1 ≤ j1 + nf → j1 ≤ 10 → ∀ (g2 : Nat → Int64) (g3 : Nat → Int64) (H : Heap) (locs : List Loc), ((∀ q9 : Nat, q9 < j1 → g2 q9 = 0 ∧ g3 q9 = f q9) ∧ (∀ q9 : Nat, j1 ≤ q9 → g2 q9 = f q9)) → va_P (dC, dI) vwCl [(h0, .inr (4, [.long w0, .ref sa, .ref aa])), (sa, .inl (G 1, 10, .inr (.inl g2))), (aa, .inl (G 1, 10, .inr (.inl g3)))] H → va_D A [(h0, .inr (4, [.long w0, .ref sa, .ref aa])), (sa, .inl (G 1, 10, .inr (.inl g2))), (aa, .inl (G 1, 10, .inr (.inl g3)))] → va_S A s.heap H locs → ∀ (ls : Array Slot), lv_has ls 2 [(1, .int (nI j1)), (0, .ref h0)] → W p l e (headSpec (Cond.code yX4_takeAhead cX4_takeAhead 2 none :: GT) ({ frames := 0, cells := 0, slots := 0, locals := 0 } : Room)).room s m ([.ref h0] : List Value).toArray below meth c H locs 0 0 (MQ below (va_Qv (fun (u : Int64 × (Nat → Int64) × (Nat → Int64)) => match u with | (u0, u1, u2) => u0 = w0 ∧ ∀ q9 : Nat, q9 < 10 → u1 q9 = 0 ∧ u2 q9 = f q9) (fun (u : Int64 × (Nat → Int64) × (Nat → Int64)) (t : State) => match u with | (u0, u1, u2) => va_P (dC, dI) vwCl [(h0, .inr (4, [.long u0, .ref sa, .ref aa])), (sa, .inl (G 1, 10, .inr (.inl u1))), (aa, .inl (G 1, 10, .inr (.inl u2)))] t.heap ∧ va_D A [(h0, .inr (4, [.long u0, .ref sa, .ref aa])), (sa, .inl (G 1, 10, .inr (.inl u1))), (aa, .inl (G 1, 10, .inr (.inl u2)))]) A) ([.ref h0] : List Value).toArray s 0 0 A) (F0 m 2 ls []) := by
    intro nf
    induction nf with
    | zero => intro j1 h1 h2; exact absurd h1 (by omega)
    | succ nf ih2_4 =>
      intro j1 hn5 hj6 g2 g3 H locs hinv hP hD hS ls hl
      refine lv_iload_n hx hb dX4_takeAhead_2 rfl (lv_at hl 0 rfl) ?_
      refine lv_bipush (v := 10) hx hb dX4_takeAhead_3 rfl ?_
      refine lv_icmp_ge (tgt := 33) hx hb dX4_takeAhead_5 rfl (fun c7 => ?_) (fun c7 => ?_)
      · skip
        have tn2236_ : nIT j1 := fun _ => nI_toInt (by first | omega | (have t := leI c7; omega))
        have n8 : 10 ≤ j1 := by have t := leI c7; rw [show (nI (j1)).toInt = ((j1 : Nat) : Int) from tn2236_ ()] at t; have : (10 : Int32).toInt = 10 := qI_10; omega
        obtain ⟨hP9, hD9⟩ := va_sub2 (ws' := [(h0, .inr (4, [.long w0, .ref sa, .ref aa])), (sa, .inl (G 1, 10, .inr (.inl g2))), (aa, .inl (G 1, 10, .inr (.inl g3)))]) hP hD [0, 1, 2] (by decide +kernel) rfl
        refine W.widen (k := 0) (n := 0) (Nat.le_of_ble_eq_true rfl) (Nat.le_of_ble_eq_true rfl) ?_
        exact W.vret hx hb hr (fun t ht hW => ⟨⟨(w0, g2, g3), rfl, ⟨rfl, fun q9 h9 => hinv.1 q9 (by omega)⟩, ⟨by rw [ht]; exact hP9, hD9⟩⟩, hS.F ht⟩) hS.2.2 dX4_takeAhead_33
      · skip
        have tn2237_ : nIT j1 := fun _ => nI_toInt (by first | omega | (have t := nleI c7; omega))
        have n9 : j1 < 10 := by have t := nleI c7; rw [show (nI (j1)).toInt = ((j1 : Nat) : Int) from tn2237_ ()] at t; have : (10 : Int32).toInt = 10 := qI_10; omega
        refine lv_aload_n hx hb dX4_takeAhead_8 rfl (lv_at hl 1 rfl) ?_
        refine va_get (D := (dC, dI)) (ci := 4) (v := .ref aa) (C := RX4) (T := TX4) (N := 3) hx hb hg inG4 hown hK.1 hP 0 rfl rfl 2 (Nat.le_of_ble_eq_true rfl) (hg _ wt_160) (fun _ h9 => h9) rfl dX4_takeAhead_9 ?_
        refine lv_iload_n hx hb dX4_takeAhead_12 rfl (lv_at hl 0 rfl) ?_
        refine lv_aload_n hx hb dX4_takeAhead_13 rfl (lv_at hl 1 rfl) ?_
        refine va_get (D := (dC, dI)) (ci := 4) (v := .ref sa) (C := RX4) (T := TX4) (N := 3) hx hb hg inG4 hown hK.1 hP 0 rfl rfl 1 (Nat.le_of_ble_eq_true rfl) (hg _ wt_158) (fun _ h9 => h9) rfl dX4_takeAhead_14 ?_
        refine lv_iload_n hx hb dX4_takeAhead_17 rfl (lv_at hl 0 rfl) ?_
        refine va_lald hx hb hK.1 hP 1 1 rfl rfl (vp_in_nI (by first | omega | (have t_hj6 := hj6; have t_n9 := n9; have t_n0 : (nI j1).toInt = (j1 : Int) := tn2237_ (); omega)) (by decide)) dX4_takeAhead_18 ?_
        refine lv_cgl (y := g2 j1) (by rw [nI_clamp (by omega)]) ?_
        refine va_last hx hb hK.1 hP hD hS 2 1 rfl rfl (vp_in_nI (by first | omega | (have t_hj6 := hj6; have t_n9 := n9; have t_n0 : (nI j1).toInt = (j1 : Int) := tn2237_ (); omega)) (by decide)) dX4_takeAhead_19 (fun H locs hP hD hS => ?_)
        rw [nI_clamp (by omega)] at hP hD
        refine lv_aload_n hx hb dX4_takeAhead_20 rfl (lv_at hl 1 rfl) ?_
        refine va_get (D := (dC, dI)) (ci := 4) (v := .ref sa) (C := RX4) (T := TX4) (N := 3) hx hb hg inG4 hown hK.1 hP 0 rfl rfl 1 (Nat.le_of_ble_eq_true rfl) (hg _ wt_158) (fun _ h9 => h9) rfl dX4_takeAhead_21 ?_
        refine lv_iload_n hx hb dX4_takeAhead_24 rfl (lv_at hl 0 rfl) ?_
        refine lv_lconst (v := 0) hx hb dX4_takeAhead_25 (by decide) ?_
        refine va_last hx hb hK.1 hP hD hS 1 1 rfl rfl (vp_in_nI (by first | omega | (have t_hj6 := hj6; have t_n9 := n9; have t_n0 : (nI j1).toInt = (j1 : Int) := tn2237_ (); omega)) (by decide)) dX4_takeAhead_26 (fun H locs hP hD hS => ?_)
        rw [nI_clamp (by omega)] at hP hD
        refine lv_iinc (v := nI (j1 + 1)) (lv' := [(1, .int (nI (j1 + 1))), (0, .ref h0)]) hx hb dX4_takeAhead_27 hl (k := 0) rfl (by rw [show Int32.ofInt 1 = nI 1 from by decide]; exact nI_add _ _) (by decide) rfl (fun ls hl => ?_)
        refine lv_goto (tgt := 2) hx hb dX4_takeAhead_30 rfl ?_
        exact ih2_4 (j1 + 1) (by omega) (by omega) (vp_updL g2 j1 0) (vp_updL g3 j1 (g2 j1)) _ _ (ta_step hinv) hP hD hS ls (lv_sub hl [0, 1] rfl)
  exact loop2_4 (10 + 1) 0 (by omega) (by omega) f g _ _ ⟨fun q9 h9 => absurd h9 (Nat.not_lt_zero _), fun _ _ => rfl⟩ hP hD hS ls (lv_sub hl [0, 1] rfl)

set_option maxHeartbeats 1000000 in
set_option maxRecDepth 100000 in
theorem c_X4_passE (l : Launch) (dC : Nat → ClassId) (dI : Nat → Nat → Nat) (G : Nat → ClassId) (sz : Nat) (h0 sa aa : Nat) (i : Int32) (w0 : Int64) (f g : Nat → Int64)  : Met l yX4_pass (Cond.code yX4_pass cX4_pass 3 none :: GT) ({ frames := 1, cells := 0, slots := 0, locals := 21 } : Room) (PcW [.ref h0, .int i] dC dI G [(h0, .inr (4, [.long w0, .ref sa, .ref aa])), (sa, .inl (G 1, 10, .inr (.inl f))), (aa, .inl (G 1, 10, .inr (.inl g)))] sz) (va_Qv (fun (u : Int64 × (Nat → Int64) × (Nat → Int64)) => match u with | (u0, u1, u2) => u0 = w0 * 20 ∧ ∀ q9 : Nat, q9 < 10 → u1 q9 = psR false i f 9 q9) (fun (u : Int64 × (Nat → Int64) × (Nat → Int64)) (t : State) => match u with | (u0, u1, u2) => va_P (dC, dI) vwCl [(h0, .inr (4, [.long u0, .ref sa, .ref aa])), (sa, .inl (G 1, 10, .inr (.inl u1))), (aa, .inl (G 1, 10, .inr (.inl u2)))] t.heap ∧ va_D (va_A [(h0, .inr (4, [.long w0, .ref sa, .ref aa])), (sa, .inl (G 1, 10, .inr (.inl f))), (aa, .inl (G 1, 10, .inr (.inl g)))] sz) [(h0, .inr (4, [.long u0, .ref sa, .ref aa])), (sa, .inl (G 1, 10, .inr (.inl u1))), (aa, .inl (G 1, 10, .inr (.inl u2)))]) (va_A [(h0, .inr (4, [.long w0, .ref sa, .ref aa])), (sa, .inl (G 1, 10, .inr (.inl f))), (aa, .inl (G 1, 10, .inr (.inl g)))] sz)) 0 0 (va_A [(h0, .inr (4, [.long w0, .ref sa, .ref aa])), (sa, .inl (G 1, 10, .inr (.inl f))), (aa, .inl (G 1, 10, .inr (.inl g)))] sz) := by
  refine Met.ofW (cc := cX4_pass) (maxL := 3) (ret := none) (by decide) rfl ?_
  intro p e s m args below meth c s₁ Bd hml hv
  obtain ⟨rfl, hsz, hP, hK, hD0⟩ := hv
  have hx := Bd.exec
  have hb := Bd.bytes
  have hr := Bd.returns
  have hg : ∀ w ∈ GT, w.before ([.ref h0, .int i] : List Value).toArray s = true := fun w h => atoms_spec (ws := Cond.code yX4_pass cX4_pass 3 none :: GT) Bd.pre w (List.mem_cons_of_mem _ h)
  have hown : s.vm.findClass RX4 = some m.cls := findClass_of_methodNamed Bd.named
  have hlocks := Bd.notSynchronized
  subst hsz
  have hD := hD0.self (sz := s.heap.size)
  generalize hAe : va_A [(h0, .inr (4, [.long w0, .ref sa, .ref aa])), (sa, .inl (G 1, 10, .inr (.inl f))), (aa, .inl (G 1, 10, .inr (.inl g)))] s.heap.size = A at hD ⊢
  have hA : ∀ q : Nat, s.heap.size ≤ q → A q := fun q h => by rw [← hAe]; exact Or.inr h
  have hS : va_S A s.heap s.heap [] := va_S.rf
  have hl := lv_entry ([.ref h0, .int i]) (n := 3) (Nat.le_of_ble_eq_true rfl)
  rw [lg_entry_eq]
  generalize (lg_sl ([.ref h0, .int i]) ++ List.replicate (3 - (lg_sl ([.ref h0, .int i])).length) Slot.unset).toArray = ls at hl ⊢
  have hl : lv_has ls 3 [(0, .ref h0), (1, .int i)] := hl
  refine lv_aload_n hx hb dX4_pass_0 rfl (lv_at hl 0 rfl) ?_
  obtain ⟨hPc, hDc, hFc⟩ := va_sub3 (ws' := [(h0, .inr (4, [.long w0, .ref sa, .ref aa])), (sa, .inl (G 1, 10, .inr (.inl f))), (aa, .inl (G 1, 10, .inr (.inl g)))]) hP hD hS hA [0, 1, 2] (by decide +kernel) rfl
  refine va_callv (va_runV (As := []) (rest := []) ⟨hx, hb, hml, hown, hg⟩ (c_X4_takeAheadE l dC dI G _ h0 sa aa w0 f g) (kwV hg mfX4_takeAhead wt_620 ⟨Nat.le_of_ble_eq_true rfl, Nat.le_of_ble_eq_true rfl⟩) (preVW hK hPc hDc (ci := 4) (r := (RX4, TX4, 3)) rfl rfl) rfl rfl hl.1 rfl (lv_room (Nat.le_of_ble_eq_true rfl)) dX4_pass_1 ⟨Nat.le_of_ble_eq_true rfl, Nat.le_of_ble_eq_true rfl⟩) hS (fun q _ h => hFc q h) hFc (fun ur1 t H1 locs ht hvm w2 hB hz1 hk1 hS => ?_)
  obtain ⟨u3, u4, u5⟩ := ur1
  obtain ⟨hP1, hD1⟩ := hB
  rw [ht] at hP1
  obtain ⟨hP, hD⟩ := va_join (wr := []) (w1 := [(h0, .inr (4, [.long u3, .ref sa, .ref aa])), (sa, .inl (G 1, 10, .inr (.inl u4))), (aa, .inl (G 1, 10, .inr (.inl u5)))]) hP hD [0, 1, 2] [] rfl rfl (by decide +kernel) (by decide +kernel) hk1 hFc hP1 hD1
  have w2 : u3 = w0 ∧ ∀ q9 : Nat, q9 < 10 → u4 q9 = 0 ∧ u5 q9 = f q9 := w2
  generalize H1 = H at hP hS ⊢
  refine lv_aload_n hx hb dX4_pass_4 rfl (lv_at hl 0 rfl) ?_
  refine lv_dup hx hb dX4_pass_5 rfl ?_
  refine va_get (D := (dC, dI)) (ci := 4) (v := .long u3) (C := RX4) (T := TX4) (N := 3) hx hb hg inG4 hown hK.1 hP 0 rfl rfl 0 (Nat.le_of_ble_eq_true rfl) (hg _ wt_156) (fun _ h9 => h9) rfl dX4_pass_6 ?_
  refine lv_ldc2 (v := 20) hx hb hown (hg _ wt_634) dX4_pass_9 ?_
  refine lv_lmul hx hb dX4_pass_12 ?_
  refine va_put (D := (dC, dI)) (ci := 4) (v := .long (u3 * 20)) (ty := .long) (C := RX4) (T := TX4) (N := 3) hx hb hg inG4 tyX4 tyX4_ok nmX4 hown hK.1 hP hD hS 0 rfl rfl 0 (Nat.le_of_ble_eq_true rfl) (hg _ wt_156) (fun _ h9 => h9) rfl (by decide +kernel) rfl rfl (Nat.le_of_ble_eq_true rfl) dX4_pass_13 (fun H locs hP hD hS => ?_)
  refine lv_aload_n hx hb dX4_pass_16 rfl (lv_at hl 0 rfl) ?_
  refine va_get (D := (dC, dI)) (ci := 4) (v := .ref sa) (C := RX4) (T := TX4) (N := 3) hx hb hg inG4 hown hK.1 hP 0 rfl rfl 1 (Nat.le_of_ble_eq_true rfl) (hg _ wt_158) (fun _ h9 => h9) rfl dX4_pass_17 ?_
  refine lv_iconst (v := 0) hx hb dX4_pass_20 rfl ?_
  refine lv_aload_n hx hb dX4_pass_21 rfl (lv_at hl 0 rfl) ?_
  refine va_get (D := (dC, dI)) (ci := 4) (v := .ref aa) (C := RX4) (T := TX4) (N := 3) hx hb hg inG4 hown hK.1 hP 0 rfl rfl 2 (Nat.le_of_ble_eq_true rfl) (hg _ wt_160) (fun _ h9 => h9) rfl dX4_pass_22 ?_
  refine lv_iconst (v := 0) hx hb dX4_pass_25 rfl ?_
  refine va_lald hx hb hK.1 hP 2 1 rfl rfl (vp_in_iff.mpr ⟨by decide, by decide⟩) dX4_pass_26 ?_
  refine lv_cgl (y := u5 0) (by rfl) ?_
  refine lv_ldc2 (v := 20) hx hb hown (hg _ wt_634) dX4_pass_27 ?_
  refine lv_lmul hx hb dX4_pass_30 ?_
  refine va_last hx hb hK.1 hP hD hS 1 1 rfl rfl (vp_in_iff.mpr ⟨by decide, by decide⟩) dX4_pass_31 (fun H locs hP hD hS => ?_)
  refine lv_iconst (v := 1) hx hb dX4_pass_32 rfl ?_
  refine lv_istore_n (lv' := [(2, .int 1), (0, .ref h0), (1, .int i)]) hx hb dX4_pass_33 rfl hl (by decide) rfl (fun ls hl => ?_)
  have loop34_8 : ∀ (nf j6 : Nat), 10 + 1 ≤ j6 + nf → j6 ≤ 10 → 1 ≤ j6 → ∀ (g7 : Nat → Int64) (H : Heap) (locs : List Loc), (∀ q9 : Nat, q9 < 10 → g7 q9 = psR false i f (j6 - 1) q9) → va_P (dC, dI) vwCl [(h0, .inr (4, [.long (u3 * 20), .ref sa, .ref aa])), (sa, .inl (G 1, 10, .inr (.inl g7))), (aa, .inl (G 1, 10, .inr (.inl u5)))] H → va_D A [(h0, .inr (4, [.long (u3 * 20), .ref sa, .ref aa])), (sa, .inl (G 1, 10, .inr (.inl g7))), (aa, .inl (G 1, 10, .inr (.inl u5)))] → va_S A s.heap H locs → ∀ (ls : Array Slot), lv_has ls 3 [(2, .int (nI j6)), (0, .ref h0), (1, .int i)] → W p l e (headSpec (Cond.code yX4_pass cX4_pass 3 none :: GT) ({ frames := 1, cells := 0, slots := 0, locals := 21 } : Room)).room s m ([.ref h0, .int i] : List Value).toArray below meth c H locs 0 0 (MQ below (va_Qv (fun (u : Int64 × (Nat → Int64) × (Nat → Int64)) => match u with | (u0, u1, u2) => u0 = w0 * 20 ∧ ∀ q9 : Nat, q9 < 10 → u1 q9 = psR false i f 9 q9) (fun (u : Int64 × (Nat → Int64) × (Nat → Int64)) (t : State) => match u with | (u0, u1, u2) => va_P (dC, dI) vwCl [(h0, .inr (4, [.long u0, .ref sa, .ref aa])), (sa, .inl (G 1, 10, .inr (.inl u1))), (aa, .inl (G 1, 10, .inr (.inl u2)))] t.heap ∧ va_D A [(h0, .inr (4, [.long u0, .ref sa, .ref aa])), (sa, .inl (G 1, 10, .inr (.inl u1))), (aa, .inl (G 1, 10, .inr (.inl u2)))]) A) ([.ref h0, .int i] : List Value).toArray s 0 0 A) (F0 m 34 ls []) := by
    intro nf
    induction nf with
    | zero => intro j6 h1 h2; exact absurd h1 (by omega)
    | succ nf ih34_8 =>
      intro j6 hn9 hj10 hlo_j6 g7 H locs hinv hP hD hS ls hl
      refine lv_iload_n hx hb dX4_pass_34 rfl (lv_at hl 0 rfl) ?_
      refine lv_bipush (v := 10) hx hb dX4_pass_35 rfl ?_
      refine lv_icmp_ge (tgt := 94) hx hb dX4_pass_37 rfl (fun c11 => ?_) (fun c11 => ?_)
      · skip
        have tn2238_ : nIT j6 := fun _ => nI_toInt (by first | omega | (have t := leI c11; omega))
        have n12 : 10 ≤ j6 := by have t := leI c11; rw [show (nI (j6)).toInt = ((j6 : Nat) : Int) from tn2238_ ()] at t; have : (10 : Int32).toInt = 10 := qI_10; omega
        obtain ⟨hP9, hD9⟩ := va_sub2 (ws' := [(h0, .inr (4, [.long (u3 * 20), .ref sa, .ref aa])), (sa, .inl (G 1, 10, .inr (.inl g7))), (aa, .inl (G 1, 10, .inr (.inl u5)))]) hP hD [0, 1, 2] (by decide +kernel) rfl
        refine W.widen (k := 0) (n := 0) (Nat.le_of_ble_eq_true rfl) (Nat.le_of_ble_eq_true rfl) ?_
        exact W.vret hx hb hr (fun t ht hW => ⟨⟨((u3 * 20), g7, u5), rfl, ⟨(by rw [w2.1]), fun q9 h9 => by have e9 := hinv q9 h9; rw [show j6 - 1 = 9 by omega] at e9; exact e9⟩, ⟨by rw [ht]; exact hP9, hD9⟩⟩, hS.F ht⟩) hS.2.2 dX4_pass_94
      · skip
        have tn2239_ : nIT j6 := fun _ => nI_toInt (by first | omega | (have t := nleI c11; omega))
        have n13 : j6 < 10 := by have t := nleI c11; rw [show (nI (j6)).toInt = ((j6 : Nat) : Int) from tn2239_ ()] at t; have : (10 : Int32).toInt = 10 := qI_10; omega
        refine lv_aload_n hx hb dX4_pass_40 rfl (lv_at hl 1 rfl) ?_
        refine va_get (D := (dC, dI)) (ci := 4) (v := .ref sa) (C := RX4) (T := TX4) (N := 3) hx hb hg inG4 hown hK.1 hP 0 rfl rfl 1 (Nat.le_of_ble_eq_true rfl) (hg _ wt_158) (fun _ h9 => h9) rfl dX4_pass_41 ?_
        refine lv_iload_n hx hb dX4_pass_44 rfl (lv_at hl 0 rfl) ?_
        refine lv_iconst (v := 1) hx hb dX4_pass_45 rfl ?_
        refine lv_isub hx hb dX4_pass_46 ?_
        refine lv_cg (y := nI (j6 - 1)) (by rw [show (1 : Int32) = nI 1 from rfl]; exact pk_sub (by have t_hj10 := hj10; have t_hlo_j6 := hlo_j6; have t_n13 := n13; have t_n0 : (nI j6).toInt = (j6 : Int) := tn2239_ (); omega)) ?_
        refine lv_dup2_11 hx hb dX4_pass_47 rfl rfl ?_
        refine va_lald hx hb hK.1 hP 1 1 rfl rfl (vp_in_nI (by first | omega | (have t_hj10 := hj10; have t_hlo_j6 := hlo_j6; have t_n13 := n13; have t_n0 : (nI j6).toInt = (j6 : Int) := tn2239_ (); omega)) (by decide)) dX4_pass_48 ?_
        refine lv_cgl (y := g7 (j6 - 1)) (by rw [nI_clamp (by omega)]) ?_
        refine lv_aload_n hx hb dX4_pass_49 rfl (lv_at hl 1 rfl) ?_
        refine va_get (D := (dC, dI)) (ci := 4) (v := .ref aa) (C := RX4) (T := TX4) (N := 3) hx hb hg inG4 hown hK.1 hP 0 rfl rfl 2 (Nat.le_of_ble_eq_true rfl) (hg _ wt_160) (fun _ h9 => h9) rfl dX4_pass_50 ?_
        refine lv_iload_n hx hb dX4_pass_53 rfl (lv_at hl 0 rfl) ?_
        refine va_lald hx hb hK.1 hP 2 1 rfl rfl (vp_in_nI (by first | omega | (have t_hj10 := hj10; have t_hlo_j6 := hlo_j6; have t_n13 := n13; have t_n0 : (nI j6).toInt = (j6 : Int) := tn2239_ (); omega)) (by decide)) dX4_pass_54 ?_
        refine lv_cgl (y := u5 j6) (by rw [nI_clamp (by omega)]) ?_
        refine lv_iload_n hx hb dX4_pass_55 rfl (lv_at hl 2 rfl) ?_
        refine lv_i2l (v := i.toInt64) hx hb dX4_pass_56 rfl ?_
        refine lv_lmul hx hb dX4_pass_57 ?_
        refine lv_ladd hx hb dX4_pass_58 ?_
        refine va_last hx hb hK.1 hP hD hS 1 1 rfl rfl (vp_in_nI (by first | omega | (have t_hj10 := hj10; have t_hlo_j6 := hlo_j6; have t_n13 := n13; have t_n0 : (nI j6).toInt = (j6 : Int) := tn2239_ (); omega)) (by decide)) dX4_pass_59 (fun H locs hP hD hS => ?_)
        rw [nI_clamp (by omega)] at hP hD
        refine lv_aload_n hx hb dX4_pass_60 rfl (lv_at hl 1 rfl) ?_
        refine va_get (D := (dC, dI)) (ci := 4) (v := .ref sa) (C := RX4) (T := TX4) (N := 3) hx hb hg inG4 hown hK.1 hP 0 rfl rfl 1 (Nat.le_of_ble_eq_true rfl) (hg _ wt_158) (fun _ h9 => h9) rfl dX4_pass_61 ?_
        refine lv_bipush (v := 9) hx hb dX4_pass_64 rfl ?_
        refine lv_iload_n hx hb dX4_pass_66 rfl (lv_at hl 0 rfl) ?_
        refine lv_iconst (v := 1) hx hb dX4_pass_67 rfl ?_
        refine lv_iadd hx hb dX4_pass_68 ?_
        refine lv_cg (y := nI (j6 + 1)) (by rw [show (1 : Int32) = nI 1 from rfl]; exact nI_add _ _) ?_
        have hPc := hP.sub (ws' := []) [] rfl
        refine va_calli (va_runS (As := [.int 9, .int (nI (j6 + 1))]) (rest := [.ref sa]) ⟨hx, hb, hml, hown, hg⟩ (c_J9_min l dC dI G _ 9 (nI (j6 + 1))) (kwS hg mfJ9_min_7cf53 wt_624 ⟨Nat.le_of_ble_eq_true rfl, Nat.le_of_ble_eq_true rfl⟩) (preSR hK hPc) rfl rfl hl.1 rfl (lv_room (Nat.le_of_ble_eq_true rfl)) dX4_pass_69 ⟨Nat.le_of_ble_eq_true rfl, Nat.le_of_ble_eq_true rfl⟩) hS (fun q h1 h2 => absurd h2 (Nat.not_le.mpr h1)) (fun q h => hA q (Nat.le_trans hS.1 h)) (fun r14 ur14 t H1 locs ht hvm w15 hB hz1 hk1 hS => ?_)
        have hP := keepR hP hk1
        obtain ⟨w15, w15x⟩ := w15
        have w15 : r14 = nI (min 9 (j6 + 1)) := w15.trans (mn_nI (a := 9) (b := (j6 + 1)) (by omega) (by omega))
        subst w15
        refine lv_dup2_11 hx hb dX4_pass_72 rfl rfl ?_
        refine va_lald hx hb hK.1 hP 1 1 rfl rfl (vp_in_nI (by first | omega | (have t_hj10 := hj10; have t_hlo_j6 := hlo_j6; have t_n13 := n13; have t_n0 : (nI j6).toInt = (j6 : Int) := tn2239_ (); omega)) (by decide)) dX4_pass_73 ?_
        refine lv_cgl (y := (vp_updL g7 (j6 - 1) ((g7 (j6 - 1)) + ((u5 j6) * i.toInt64))) (min 9 (j6 + 1))) (by rw [nI_clamp (by omega)]) ?_
        refine lv_aload_n hx hb dX4_pass_74 rfl (lv_at hl 1 rfl) ?_
        refine va_get (D := (dC, dI)) (ci := 4) (v := .ref aa) (C := RX4) (T := TX4) (N := 3) hx hb hg inG4 hown hK.1 hP 0 rfl rfl 2 (Nat.le_of_ble_eq_true rfl) (hg _ wt_160) (fun _ h9 => h9) rfl dX4_pass_75 ?_
        refine lv_iload_n hx hb dX4_pass_78 rfl (lv_at hl 0 rfl) ?_
        refine va_lald hx hb hK.1 hP 2 1 rfl rfl (vp_in_nI (by first | omega | (have t_hj10 := hj10; have t_hlo_j6 := hlo_j6; have t_n13 := n13; have t_n0 : (nI j6).toInt = (j6 : Int) := tn2239_ (); omega)) (by decide)) dX4_pass_79 ?_
        refine lv_cgl (y := u5 j6) (by rw [nI_clamp (by omega)]) ?_
        refine lv_bipush (v := 20) hx hb dX4_pass_80 rfl ?_
        refine lv_iload_n hx hb dX4_pass_82 rfl (lv_at hl 2 rfl) ?_
        refine lv_isub hx hb dX4_pass_83 ?_
        refine lv_i2l (v := (20 - i).toInt64) hx hb dX4_pass_84 rfl ?_
        refine lv_lmul hx hb dX4_pass_85 ?_
        refine lv_ladd hx hb dX4_pass_86 ?_
        refine va_last hx hb hK.1 hP hD hS 1 1 rfl rfl (vp_in_nI (by first | omega | (have t_hj10 := hj10; have t_hlo_j6 := hlo_j6; have t_n13 := n13; have t_n0 : (nI j6).toInt = (j6 : Int) := tn2239_ (); omega)) (by decide)) dX4_pass_87 (fun H locs hP hD hS => ?_)
        rw [nI_clamp (by omega)] at hP hD
        refine lv_iinc (v := nI (j6 + 1)) (lv' := [(2, .int (nI (j6 + 1))), (0, .ref h0), (1, .int i)]) hx hb dX4_pass_88 hl (k := 0) rfl (by rw [show Int32.ofInt 1 = nI 1 from by decide]; exact nI_add _ _) (by decide) rfl (fun ls hl => ?_)
        refine lv_goto (tgt := 34) hx hb dX4_pass_91 rfl ?_
        exact ih34_8 (j6 + 1) (by omega) (by omega) (by omega) (vp_updL (vp_updL g7 (j6 - 1) ((g7 (j6 - 1)) + ((u5 j6) * i.toInt64))) (min 9 (j6 + 1)) (((vp_updL g7 (j6 - 1) ((g7 (j6 - 1)) + ((u5 j6) * i.toInt64))) (min 9 (j6 + 1))) + ((u5 j6) * ((20 - i).toInt64)))) _ _ (ps_step (b := false) (fr := j6) (by omega) (by omega) rfl (w2.2 j6 (by omega)).2 hinv) hP hD hS ls (lv_sub hl [0, 1, 2] rfl)
  exact loop34_8 (10 + 1) 1 (by omega) (by omega) (by omega) (vp_updL u4 0 ((u5 0) * 20)) _ _ (ps_zero (fun q9 h9 => (w2.2 q9 h9).1) (w2.2 0 (by decide)).2) hP hD hS ls (lv_sub hl [0, 1, 2] rfl)

set_option maxHeartbeats 1000000 in
set_option maxRecDepth 100000 in
theorem c_X4_deepenE (l : Launch) (dC : Nat → ClassId) (dI : Nat → Nat → Nat) (G : Nat → ClassId) (sz : Nat) (h0 sa aa : Nat) (w0 : Int64) (f g : Nat → Int64)  : Met l yX4_deepen (Cond.code yX4_deepen cX4_deepen 2 none :: GT) ({ frames := 1, cells := 0, slots := 0, locals := 21 } : Room) (PcW [.ref h0] dC dI G [(h0, .inr (4, [.long w0, .ref sa, .ref aa])), (sa, .inl (G 1, 10, .inr (.inl f))), (aa, .inl (G 1, 10, .inr (.inl g)))] sz) (va_Qv (fun (u : Int64 × (Nat → Int64) × (Nat → Int64)) => match u with | (u0, u1, u2) => u0 = w0 ∧ ∀ q9 : Nat, q9 < 10 → u1 q9 = dpR f 9 q9) (fun (u : Int64 × (Nat → Int64) × (Nat → Int64)) (t : State) => match u with | (u0, u1, u2) => va_P (dC, dI) vwCl [(h0, .inr (4, [.long u0, .ref sa, .ref aa])), (sa, .inl (G 1, 10, .inr (.inl u1))), (aa, .inl (G 1, 10, .inr (.inl u2)))] t.heap ∧ va_D (va_A [(h0, .inr (4, [.long w0, .ref sa, .ref aa])), (sa, .inl (G 1, 10, .inr (.inl f))), (aa, .inl (G 1, 10, .inr (.inl g)))] sz) [(h0, .inr (4, [.long u0, .ref sa, .ref aa])), (sa, .inl (G 1, 10, .inr (.inl u1))), (aa, .inl (G 1, 10, .inr (.inl u2)))]) (va_A [(h0, .inr (4, [.long w0, .ref sa, .ref aa])), (sa, .inl (G 1, 10, .inr (.inl f))), (aa, .inl (G 1, 10, .inr (.inl g)))] sz)) 0 0 (va_A [(h0, .inr (4, [.long w0, .ref sa, .ref aa])), (sa, .inl (G 1, 10, .inr (.inl f))), (aa, .inl (G 1, 10, .inr (.inl g)))] sz) := by
  refine Met.ofW (cc := cX4_deepen) (maxL := 2) (ret := none) (by decide) rfl ?_
  intro p e s m args below meth c s₁ Bd hml hv
  obtain ⟨rfl, hsz, hP, hK, hD0⟩ := hv
  have hx := Bd.exec
  have hb := Bd.bytes
  have hr := Bd.returns
  have hg : ∀ w ∈ GT, w.before ([.ref h0] : List Value).toArray s = true := fun w h => atoms_spec (ws := Cond.code yX4_deepen cX4_deepen 2 none :: GT) Bd.pre w (List.mem_cons_of_mem _ h)
  have hown : s.vm.findClass RX4 = some m.cls := findClass_of_methodNamed Bd.named
  have hlocks := Bd.notSynchronized
  subst hsz
  have hD := hD0.self (sz := s.heap.size)
  generalize hAe : va_A [(h0, .inr (4, [.long w0, .ref sa, .ref aa])), (sa, .inl (G 1, 10, .inr (.inl f))), (aa, .inl (G 1, 10, .inr (.inl g)))] s.heap.size = A at hD ⊢
  have hA : ∀ q : Nat, s.heap.size ≤ q → A q := fun q h => by rw [← hAe]; exact Or.inr h
  have hS : va_S A s.heap s.heap [] := va_S.rf
  have hl := lv_entry ([.ref h0]) (n := 2) (Nat.le_of_ble_eq_true rfl)
  rw [lg_entry_eq]
  generalize (lg_sl ([.ref h0]) ++ List.replicate (2 - (lg_sl ([.ref h0])).length) Slot.unset).toArray = ls at hl ⊢
  have hl : lv_has ls 2 [(0, .ref h0)] := hl
  refine lv_aload_n hx hb dX4_deepen_0 rfl (lv_at hl 0 rfl) ?_
  obtain ⟨hPc, hDc, hFc⟩ := va_sub3 (ws' := [(h0, .inr (4, [.long w0, .ref sa, .ref aa])), (sa, .inl (G 1, 10, .inr (.inl f))), (aa, .inl (G 1, 10, .inr (.inl g)))]) hP hD hS hA [0, 1, 2] (by decide +kernel) rfl
  refine va_callv (va_runV (As := []) (rest := []) ⟨hx, hb, hml, hown, hg⟩ (c_X4_takeAheadE l dC dI G _ h0 sa aa w0 f g) (kwV hg mfX4_takeAhead wt_620 ⟨Nat.le_of_ble_eq_true rfl, Nat.le_of_ble_eq_true rfl⟩) (preVW hK hPc hDc (ci := 4) (r := (RX4, TX4, 3)) rfl rfl) rfl rfl hl.1 rfl (lv_room (Nat.le_of_ble_eq_true rfl)) dX4_deepen_1 ⟨Nat.le_of_ble_eq_true rfl, Nat.le_of_ble_eq_true rfl⟩) hS (fun q _ h => hFc q h) hFc (fun ur1 t H1 locs ht hvm w2 hB hz1 hk1 hS => ?_)
  obtain ⟨u3, u4, u5⟩ := ur1
  obtain ⟨hP1, hD1⟩ := hB
  rw [ht] at hP1
  obtain ⟨hP, hD⟩ := va_join (wr := []) (w1 := [(h0, .inr (4, [.long u3, .ref sa, .ref aa])), (sa, .inl (G 1, 10, .inr (.inl u4))), (aa, .inl (G 1, 10, .inr (.inl u5)))]) hP hD [0, 1, 2] [] rfl rfl (by decide +kernel) (by decide +kernel) hk1 hFc hP1 hD1
  have w2 : u3 = w0 ∧ ∀ q9 : Nat, q9 < 10 → u4 q9 = 0 ∧ u5 q9 = f q9 := w2
  generalize H1 = H at hP hS ⊢
  refine lv_aload_n hx hb dX4_deepen_4 rfl (lv_at hl 0 rfl) ?_
  refine va_get (D := (dC, dI)) (ci := 4) (v := .ref sa) (C := RX4) (T := TX4) (N := 3) hx hb hg inG4 hown hK.1 hP 0 rfl rfl 1 (Nat.le_of_ble_eq_true rfl) (hg _ wt_158) (fun _ h9 => h9) rfl dX4_deepen_5 ?_
  refine lv_iconst (v := 0) hx hb dX4_deepen_8 rfl ?_
  refine lv_aload_n hx hb dX4_deepen_9 rfl (lv_at hl 0 rfl) ?_
  refine va_get (D := (dC, dI)) (ci := 4) (v := .ref aa) (C := RX4) (T := TX4) (N := 3) hx hb hg inG4 hown hK.1 hP 0 rfl rfl 2 (Nat.le_of_ble_eq_true rfl) (hg _ wt_160) (fun _ h9 => h9) rfl dX4_deepen_10 ?_
  refine lv_iconst (v := 0) hx hb dX4_deepen_13 rfl ?_
  refine va_lald hx hb hK.1 hP 2 1 rfl rfl (vp_in_iff.mpr ⟨by decide, by decide⟩) dX4_deepen_14 ?_
  refine lv_cgl (y := u5 0) (by rfl) ?_
  refine va_last hx hb hK.1 hP hD hS 1 1 rfl rfl (vp_in_iff.mpr ⟨by decide, by decide⟩) dX4_deepen_15 (fun H locs hP hD hS => ?_)
  refine lv_iconst (v := 1) hx hb dX4_deepen_16 rfl ?_
  refine lv_istore_n (lv' := [(1, .int 1), (0, .ref h0)]) hx hb dX4_deepen_17 rfl hl (by decide) rfl (fun ls hl => ?_)
  have loop18_8 : ∀ (nf j6 : Nat), 10 + 1 ≤ j6 + nf → j6 ≤ 10 → 1 ≤ j6 → ∀ (g7 : Nat → Int64) (H : Heap) (locs : List Loc), (∀ q9 : Nat, q9 < 10 → g7 q9 = dpR f (j6 - 1) q9) → va_P (dC, dI) vwCl [(h0, .inr (4, [.long u3, .ref sa, .ref aa])), (sa, .inl (G 1, 10, .inr (.inl g7))), (aa, .inl (G 1, 10, .inr (.inl u5)))] H → va_D A [(h0, .inr (4, [.long u3, .ref sa, .ref aa])), (sa, .inl (G 1, 10, .inr (.inl g7))), (aa, .inl (G 1, 10, .inr (.inl u5)))] → va_S A s.heap H locs → ∀ (ls : Array Slot), lv_has ls 2 [(1, .int (nI j6)), (0, .ref h0)] → W p l e (headSpec (Cond.code yX4_deepen cX4_deepen 2 none :: GT) ({ frames := 1, cells := 0, slots := 0, locals := 21 } : Room)).room s m ([.ref h0] : List Value).toArray below meth c H locs 0 0 (MQ below (va_Qv (fun (u : Int64 × (Nat → Int64) × (Nat → Int64)) => match u with | (u0, u1, u2) => u0 = w0 ∧ ∀ q9 : Nat, q9 < 10 → u1 q9 = dpR f 9 q9) (fun (u : Int64 × (Nat → Int64) × (Nat → Int64)) (t : State) => match u with | (u0, u1, u2) => va_P (dC, dI) vwCl [(h0, .inr (4, [.long u0, .ref sa, .ref aa])), (sa, .inl (G 1, 10, .inr (.inl u1))), (aa, .inl (G 1, 10, .inr (.inl u2)))] t.heap ∧ va_D A [(h0, .inr (4, [.long u0, .ref sa, .ref aa])), (sa, .inl (G 1, 10, .inr (.inl u1))), (aa, .inl (G 1, 10, .inr (.inl u2)))]) A) ([.ref h0] : List Value).toArray s 0 0 A) (F0 m 18 ls []) := by
    intro nf
    induction nf with
    | zero => intro j6 h1 h2; exact absurd h1 (by omega)
    | succ nf ih18_8 =>
      intro j6 hn9 hj10 hlo_j6 g7 H locs hinv hP hD hS ls hl
      refine lv_iload_n hx hb dX4_deepen_18 rfl (lv_at hl 0 rfl) ?_
      refine lv_bipush (v := 10) hx hb dX4_deepen_19 rfl ?_
      refine lv_icmp_ge (tgt := 52) hx hb dX4_deepen_21 rfl (fun c11 => ?_) (fun c11 => ?_)
      · skip
        have tn2240_ : nIT j6 := fun _ => nI_toInt (by first | omega | (have t := leI c11; omega))
        have n12 : 10 ≤ j6 := by have t := leI c11; rw [show (nI (j6)).toInt = ((j6 : Nat) : Int) from tn2240_ ()] at t; have : (10 : Int32).toInt = 10 := qI_10; omega
        obtain ⟨hP9, hD9⟩ := va_sub2 (ws' := [(h0, .inr (4, [.long u3, .ref sa, .ref aa])), (sa, .inl (G 1, 10, .inr (.inl g7))), (aa, .inl (G 1, 10, .inr (.inl u5)))]) hP hD [0, 1, 2] (by decide +kernel) rfl
        refine W.widen (k := 0) (n := 0) (Nat.le_of_ble_eq_true rfl) (Nat.le_of_ble_eq_true rfl) ?_
        exact W.vret hx hb hr (fun t ht hW => ⟨⟨(u3, g7, u5), rfl, ⟨(by rw [w2.1]), fun q9 h9 => by have e9 := hinv q9 h9; rw [show j6 - 1 = 9 by omega] at e9; exact e9⟩, ⟨by rw [ht]; exact hP9, hD9⟩⟩, hS.F ht⟩) hS.2.2 dX4_deepen_52
      · skip
        have tn2241_ : nIT j6 := fun _ => nI_toInt (by first | omega | (have t := nleI c11; omega))
        have n13 : j6 < 10 := by have t := nleI c11; rw [show (nI (j6)).toInt = ((j6 : Nat) : Int) from tn2241_ ()] at t; have : (10 : Int32).toInt = 10 := qI_10; omega
        refine lv_aload_n hx hb dX4_deepen_24 rfl (lv_at hl 1 rfl) ?_
        refine va_get (D := (dC, dI)) (ci := 4) (v := .ref sa) (C := RX4) (T := TX4) (N := 3) hx hb hg inG4 hown hK.1 hP 0 rfl rfl 1 (Nat.le_of_ble_eq_true rfl) (hg _ wt_158) (fun _ h9 => h9) rfl dX4_deepen_25 ?_
        refine lv_bipush (v := 9) hx hb dX4_deepen_28 rfl ?_
        refine lv_iload_n hx hb dX4_deepen_30 rfl (lv_at hl 0 rfl) ?_
        refine lv_iconst (v := 2) hx hb dX4_deepen_31 rfl ?_
        refine lv_iadd hx hb dX4_deepen_32 ?_
        refine lv_cg (y := nI (j6 + 2)) (by rw [show (2 : Int32) = nI 2 from rfl]; exact nI_add _ _) ?_
        have hPc := hP.sub (ws' := []) [] rfl
        refine va_calli (va_runS (As := [.int 9, .int (nI (j6 + 2))]) (rest := [.ref sa]) ⟨hx, hb, hml, hown, hg⟩ (c_J9_min l dC dI G _ 9 (nI (j6 + 2))) (kwS hg mfJ9_min_7cf53 wt_624 ⟨Nat.le_of_ble_eq_true rfl, Nat.le_of_ble_eq_true rfl⟩) (preSR hK hPc) rfl rfl hl.1 rfl (lv_room (Nat.le_of_ble_eq_true rfl)) dX4_deepen_33 ⟨Nat.le_of_ble_eq_true rfl, Nat.le_of_ble_eq_true rfl⟩) hS (fun q h1 h2 => absurd h2 (Nat.not_le.mpr h1)) (fun q h => hA q (Nat.le_trans hS.1 h)) (fun r14 ur14 t H1 locs ht hvm w15 hB hz1 hk1 hS => ?_)
        have hP := keepR hP hk1
        obtain ⟨w15, w15x⟩ := w15
        have w15 : r14 = nI (min 9 (j6 + 2)) := w15.trans (mn_nI (a := 9) (b := (j6 + 2)) (by omega) (by omega))
        subst w15
        refine lv_dup2_11 hx hb dX4_deepen_36 rfl rfl ?_
        refine va_lald hx hb hK.1 hP 1 1 rfl rfl (vp_in_nI (by first | omega | (have t_hj10 := hj10; have t_hlo_j6 := hlo_j6; have t_n13 := n13; have t_n0 : (nI j6).toInt = (j6 : Int) := tn2241_ (); omega)) (by decide)) dX4_deepen_37 ?_
        refine lv_cgl (y := g7 (min 9 (j6 + 2))) (by rw [nI_clamp (by omega)]) ?_
        refine lv_aload_n hx hb dX4_deepen_38 rfl (lv_at hl 1 rfl) ?_
        refine va_get (D := (dC, dI)) (ci := 4) (v := .ref aa) (C := RX4) (T := TX4) (N := 3) hx hb hg inG4 hown hK.1 hP 0 rfl rfl 2 (Nat.le_of_ble_eq_true rfl) (hg _ wt_160) (fun _ h9 => h9) rfl dX4_deepen_39 ?_
        refine lv_iload_n hx hb dX4_deepen_42 rfl (lv_at hl 0 rfl) ?_
        refine va_lald hx hb hK.1 hP 2 1 rfl rfl (vp_in_nI (by first | omega | (have t_hj10 := hj10; have t_hlo_j6 := hlo_j6; have t_n13 := n13; have t_n0 : (nI j6).toInt = (j6 : Int) := tn2241_ (); omega)) (by decide)) dX4_deepen_43 ?_
        refine lv_cgl (y := u5 j6) (by rw [nI_clamp (by omega)]) ?_
        refine lv_ladd hx hb dX4_deepen_44 ?_
        refine va_last hx hb hK.1 hP hD hS 1 1 rfl rfl (vp_in_nI (by first | omega | (have t_hj10 := hj10; have t_hlo_j6 := hlo_j6; have t_n13 := n13; have t_n0 : (nI j6).toInt = (j6 : Int) := tn2241_ (); omega)) (by decide)) dX4_deepen_45 (fun H locs hP hD hS => ?_)
        rw [nI_clamp (by omega)] at hP hD
        refine lv_iinc (v := nI (j6 + 1)) (lv' := [(1, .int (nI (j6 + 1))), (0, .ref h0)]) hx hb dX4_deepen_46 hl (k := 0) rfl (by rw [show Int32.ofInt 1 = nI 1 from by decide]; exact nI_add _ _) (by decide) rfl (fun ls hl => ?_)
        refine lv_goto (tgt := 18) hx hb dX4_deepen_49 rfl ?_
        exact ih18_8 (j6 + 1) (by omega) (by omega) (by omega) (vp_updL g7 (min 9 (j6 + 2)) ((g7 (min 9 (j6 + 2))) + (u5 j6))) _ _ (dp_step (by omega) (by omega) (w2.2 j6 (by omega)).2 hinv) hP hD hS ls (lv_sub hl [0, 1] rfl)
  exact loop18_8 (10 + 1) 1 (by omega) (by omega) (by omega) (vp_updL u4 0 (u5 0)) _ _ (dp_zero (fun q9 h9 => (w2.2 q9 h9).1) (w2.2 0 (by decide)).2) hP hD hS ls (lv_sub hl [0, 1] rfl)

set_option maxHeartbeats 1000000 in
set_option maxRecDepth 100000 in
theorem c_X4_wakingE (l : Launch) (dC : Nat → ClassId) (dI : Nat → Nat → Nat) (G : Nat → ClassId) (sz : Nat) (h0 sa aa wy a1 a2 a3 a4 a5 a6 N B D M : Nat) (q1 : Int32) (w0 : Int64) (f1 f2 f3 f4 f5 f6 : Nat → Int32) (f g : Nat → Int64) (hN_N : N ≤ 10) (hB_B : B ≤ 6) (hD_D : 1 ≤ D ∧ D ≤ 9) (hM : M ≤ 10) : Met l yX4_waking (Cond.code yX4_waking cX4_waking 5 (some .long) :: GT) ({ frames := 4, cells := 0, slots := 0, locals := 88 } : Room) (PcW [.ref h0, .ref wy, .int (nI M), .int q1] dC dI G [(h0, .inr (4, [.long w0, .ref sa, .ref aa])), (sa, .inl (G 1, 10, .inr (.inl f))), (aa, .inl (G 1, 10, .inr (.inl g))), (wy, .inr (9, [.int (nI N), .int (nI B), .int (nI D), .ref a1, .ref a2, .ref a3, .ref a4, .ref a5, .ref a6])), (a1, .inl (G 0, 10, .inl f1)), (a2, .inl (G 0, 10, .inl f2)), (a3, .inl (G 0, 10, .inl f3)), (a4, .inl (G 0, 6, .inl f4)), (a5, .inl (G 0, 6, .inl f5)), (a6, .inl (G 0, 6, .inl f6))] sz) (va_Ql (fun (r : Int64) (u : Int64 × (Nat → Int64) × (Nat → Int64)) => match u with | (u0, u1, u2) => (r = odS (fun jb => hmO N B f1 f2 f3 f4 f5 f6 (nI jb)) D q1 M 0) ∧ u0 = powF M ∧ ∀ q9 : Nat, q9 < 10 → u1 q9 = odS (fun jb => hmO N B f1 f2 f3 f4 f5 f6 (nI jb)) D q1 M q9) (fun (u : Int64 × (Nat → Int64) × (Nat → Int64)) (t : State) => match u with | (u0, u1, u2) => va_P (dC, dI) vwCl [(h0, .inr (4, [.long u0, .ref sa, .ref aa])), (sa, .inl (G 1, 10, .inr (.inl u1))), (aa, .inl (G 1, 10, .inr (.inl u2))), (wy, .inr (9, [.int (nI N), .int (nI B), .int (nI D), .ref a1, .ref a2, .ref a3, .ref a4, .ref a5, .ref a6])), (a1, .inl (G 0, 10, .inl f1)), (a2, .inl (G 0, 10, .inl f2)), (a3, .inl (G 0, 10, .inl f3)), (a4, .inl (G 0, 6, .inl f4)), (a5, .inl (G 0, 6, .inl f5)), (a6, .inl (G 0, 6, .inl f6))] t.heap ∧ va_D (va_A [(h0, .inr (4, [.long w0, .ref sa, .ref aa])), (sa, .inl (G 1, 10, .inr (.inl f))), (aa, .inl (G 1, 10, .inr (.inl g))), (wy, .inr (9, [.int (nI N), .int (nI B), .int (nI D), .ref a1, .ref a2, .ref a3, .ref a4, .ref a5, .ref a6])), (a1, .inl (G 0, 10, .inl f1)), (a2, .inl (G 0, 10, .inl f2)), (a3, .inl (G 0, 10, .inl f3)), (a4, .inl (G 0, 6, .inl f4)), (a5, .inl (G 0, 6, .inl f5)), (a6, .inl (G 0, 6, .inl f6))] sz) [(h0, .inr (4, [.long u0, .ref sa, .ref aa])), (sa, .inl (G 1, 10, .inr (.inl u1))), (aa, .inl (G 1, 10, .inr (.inl u2))), (wy, .inr (9, [.int (nI N), .int (nI B), .int (nI D), .ref a1, .ref a2, .ref a3, .ref a4, .ref a5, .ref a6])), (a1, .inl (G 0, 10, .inl f1)), (a2, .inl (G 0, 10, .inl f2)), (a3, .inl (G 0, 10, .inl f3)), (a4, .inl (G 0, 6, .inl f4)), (a5, .inl (G 0, 6, .inl f5)), (a6, .inl (G 0, 6, .inl f6))]) (va_A [(h0, .inr (4, [.long w0, .ref sa, .ref aa])), (sa, .inl (G 1, 10, .inr (.inl f))), (aa, .inl (G 1, 10, .inr (.inl g))), (wy, .inr (9, [.int (nI N), .int (nI B), .int (nI D), .ref a1, .ref a2, .ref a3, .ref a4, .ref a5, .ref a6])), (a1, .inl (G 0, 10, .inl f1)), (a2, .inl (G 0, 10, .inl f2)), (a3, .inl (G 0, 10, .inl f3)), (a4, .inl (G 0, 6, .inl f4)), (a5, .inl (G 0, 6, .inl f5)), (a6, .inl (G 0, 6, .inl f6))] sz)) 0 0 (va_A [(h0, .inr (4, [.long w0, .ref sa, .ref aa])), (sa, .inl (G 1, 10, .inr (.inl f))), (aa, .inl (G 1, 10, .inr (.inl g))), (wy, .inr (9, [.int (nI N), .int (nI B), .int (nI D), .ref a1, .ref a2, .ref a3, .ref a4, .ref a5, .ref a6])), (a1, .inl (G 0, 10, .inl f1)), (a2, .inl (G 0, 10, .inl f2)), (a3, .inl (G 0, 10, .inl f3)), (a4, .inl (G 0, 6, .inl f4)), (a5, .inl (G 0, 6, .inl f5)), (a6, .inl (G 0, 6, .inl f6))] sz) := by
  have tn2242_ : nIT N := fun _ => nI_toInt (by omega)
  have tn2243_ : nIT B := fun _ => nI_toInt (by omega)
  have tn2244_ : nIT D := fun _ => nI_toInt (by omega)
  have tn2245_ : nIT M := fun _ => nI_toInt (by omega)
  refine Met.ofW (cc := cX4_waking) (maxL := 5) (ret := (some .long)) (by decide) rfl ?_
  intro p e s m args below meth c s₁ Bd hml hv
  obtain ⟨rfl, hsz, hP, hK, hD0⟩ := hv
  have hx := Bd.exec
  have hb := Bd.bytes
  have hr := Bd.returns
  have hg : ∀ w ∈ GT, w.before ([.ref h0, .ref wy, .int (nI M), .int q1] : List Value).toArray s = true := fun w h => atoms_spec (ws := Cond.code yX4_waking cX4_waking 5 (some .long) :: GT) Bd.pre w (List.mem_cons_of_mem _ h)
  have hown : s.vm.findClass RX4 = some m.cls := findClass_of_methodNamed Bd.named
  have hlocks := Bd.notSynchronized
  subst hsz
  have hD := hD0.self (sz := s.heap.size)
  generalize hAe : va_A [(h0, .inr (4, [.long w0, .ref sa, .ref aa])), (sa, .inl (G 1, 10, .inr (.inl f))), (aa, .inl (G 1, 10, .inr (.inl g))), (wy, .inr (9, [.int (nI N), .int (nI B), .int (nI D), .ref a1, .ref a2, .ref a3, .ref a4, .ref a5, .ref a6])), (a1, .inl (G 0, 10, .inl f1)), (a2, .inl (G 0, 10, .inl f2)), (a3, .inl (G 0, 10, .inl f3)), (a4, .inl (G 0, 6, .inl f4)), (a5, .inl (G 0, 6, .inl f5)), (a6, .inl (G 0, 6, .inl f6))] s.heap.size = A at hD ⊢
  have hA : ∀ q : Nat, s.heap.size ≤ q → A q := fun q h => by rw [← hAe]; exact Or.inr h
  have hS : va_S A s.heap s.heap [] := va_S.rf
  have hl := lv_entry ([.ref h0, .ref wy, .int (nI M), .int q1]) (n := 5) (Nat.le_of_ble_eq_true rfl)
  rw [lg_entry_eq]
  generalize (lg_sl ([.ref h0, .ref wy, .int (nI M), .int q1]) ++ List.replicate (5 - (lg_sl ([.ref h0, .ref wy, .int (nI M), .int q1])).length) Slot.unset).toArray = ls at hl ⊢
  have hl : lv_has ls 5 [(0, .ref h0), (1, .ref wy), (2, .int (nI M)), (3, .int q1)] := hl
  refine lv_aload_n hx hb dX4_waking_0 rfl (lv_at hl 0 rfl) ?_
  refine lv_aload_n hx hb dX4_waking_1 rfl (lv_at hl 1 rfl) ?_
  refine va_getN (D := (dC, dI)) (ci := 9) (v := .int (nI D)) (C := RX9) (T := TX9) (N := 9) hx hb hg inG9 hown hK.1 hP 3 rfl rfl 2 (Nat.le_of_ble_eq_true rfl) (hK.nest wn_67) (fun _ h9 => h9) rfl dX4_waking_2 ?_
  obtain ⟨hPc, hDc, hFc⟩ := va_sub3 (ws' := [(h0, .inr (4, [.long w0, .ref sa, .ref aa])), (sa, .inl (G 1, 10, .inr (.inl f))), (aa, .inl (G 1, 10, .inr (.inl g)))]) hP hD hS hA [0, 1, 2] (by decide +kernel) rfl
  refine va_callv (va_runV (As := [.int (nI D)]) (rest := []) ⟨hx, hb, hml, hown, hg⟩ (c_X4_beginE l dC dI G _ h0 sa aa D w0 f g (by first | omega | (have tnb_ := nib4 tn2245_ tn2242_ tn2243_ tn2244_; omega))) (kwV hg mfX4_begin wt_612 ⟨Nat.le_of_ble_eq_true rfl, Nat.le_of_ble_eq_true rfl⟩) (preVW hK hPc hDc (ci := 4) (r := (RX4, TX4, 3)) rfl rfl) rfl rfl hl.1 rfl (lv_room (Nat.le_of_ble_eq_true rfl)) dX4_waking_5 ⟨Nat.le_of_ble_eq_true rfl, Nat.le_of_ble_eq_true rfl⟩) hS (fun q _ h => hFc q h) hFc (fun ur1 t H1 locs ht hvm w2 hB hz1 hk1 hS => ?_)
  obtain ⟨u3, u4, u5⟩ := ur1
  obtain ⟨hP1, hD1⟩ := hB
  rw [ht] at hP1
  obtain ⟨hP, hD⟩ := va_join (wr := [(wy, .inr (9, [.int (nI N), .int (nI B), .int (nI D), .ref a1, .ref a2, .ref a3, .ref a4, .ref a5, .ref a6])), (a1, .inl (G 0, 10, .inl f1)), (a2, .inl (G 0, 10, .inl f2)), (a3, .inl (G 0, 10, .inl f3)), (a4, .inl (G 0, 6, .inl f4)), (a5, .inl (G 0, 6, .inl f5)), (a6, .inl (G 0, 6, .inl f6))]) (w1 := [(h0, .inr (4, [.long u3, .ref sa, .ref aa])), (sa, .inl (G 1, 10, .inr (.inl u4))), (aa, .inl (G 1, 10, .inr (.inl u5)))]) hP hD [0, 1, 2] [3, 4, 5, 6, 7, 8, 9] rfl rfl (by decide +kernel) (by decide +kernel) hk1 hFc hP1 hD1
  have w2 : u3 = 1 ∧ ∀ q9 : Nat, q9 < 10 → u4 q9 = od0 D q9 := w2
  generalize H1 = H at hP hS ⊢
  refine lv_iconst (v := 0) hx hb dX4_waking_8 rfl ?_
  refine lv_istore (lv' := [(4, .int 0), (0, .ref h0), (1, .ref wy), (2, .int (nI M)), (3, .int q1)]) hx hb dX4_waking_9 hl (by decide) rfl (fun ls hl => ?_)
  have loop11_10 : ∀ (nf j6 : Nat), M + 1 ≤ j6 + nf → j6 ≤ M → ∀ (y7 : Int64) (g8 : Nat → Int64) (g9 : Nat → Int64) (H : Heap) (locs : List Loc), (y7 = powF j6 ∧ ∀ q9 : Nat, q9 < 10 → g8 q9 = odS (fun jb => hmO N B f1 f2 f3 f4 f5 f6 (nI jb)) D q1 j6 q9) → va_P (dC, dI) vwCl [(wy, .inr (9, [.int (nI N), .int (nI B), .int (nI D), .ref a1, .ref a2, .ref a3, .ref a4, .ref a5, .ref a6])), (a1, .inl (G 0, 10, .inl f1)), (a2, .inl (G 0, 10, .inl f2)), (a3, .inl (G 0, 10, .inl f3)), (a4, .inl (G 0, 6, .inl f4)), (a5, .inl (G 0, 6, .inl f5)), (a6, .inl (G 0, 6, .inl f6)), (h0, .inr (4, [.long y7, .ref sa, .ref aa])), (sa, .inl (G 1, 10, .inr (.inl g8))), (aa, .inl (G 1, 10, .inr (.inl g9)))] H → va_D A [(wy, .inr (9, [.int (nI N), .int (nI B), .int (nI D), .ref a1, .ref a2, .ref a3, .ref a4, .ref a5, .ref a6])), (a1, .inl (G 0, 10, .inl f1)), (a2, .inl (G 0, 10, .inl f2)), (a3, .inl (G 0, 10, .inl f3)), (a4, .inl (G 0, 6, .inl f4)), (a5, .inl (G 0, 6, .inl f5)), (a6, .inl (G 0, 6, .inl f6)), (h0, .inr (4, [.long y7, .ref sa, .ref aa])), (sa, .inl (G 1, 10, .inr (.inl g8))), (aa, .inl (G 1, 10, .inr (.inl g9)))] → va_S A s.heap H locs → ∀ (ls : Array Slot), lv_has ls 5 [(4, .int (nI j6)), (0, .ref h0), (1, .ref wy), (2, .int (nI M)), (3, .int q1)] → W p l e (headSpec (Cond.code yX4_waking cX4_waking 5 (some .long) :: GT) ({ frames := 4, cells := 0, slots := 0, locals := 88 } : Room)).room s m ([.ref h0, .ref wy, .int (nI M), .int q1] : List Value).toArray below meth c H locs 0 0 (MQ below (va_Ql (fun (r : Int64) (u : Int64 × (Nat → Int64) × (Nat → Int64)) => match u with | (u0, u1, u2) => (r = odS (fun jb => hmO N B f1 f2 f3 f4 f5 f6 (nI jb)) D q1 M 0) ∧ u0 = powF M ∧ ∀ q9 : Nat, q9 < 10 → u1 q9 = odS (fun jb => hmO N B f1 f2 f3 f4 f5 f6 (nI jb)) D q1 M q9) (fun (u : Int64 × (Nat → Int64) × (Nat → Int64)) (t : State) => match u with | (u0, u1, u2) => va_P (dC, dI) vwCl [(h0, .inr (4, [.long u0, .ref sa, .ref aa])), (sa, .inl (G 1, 10, .inr (.inl u1))), (aa, .inl (G 1, 10, .inr (.inl u2))), (wy, .inr (9, [.int (nI N), .int (nI B), .int (nI D), .ref a1, .ref a2, .ref a3, .ref a4, .ref a5, .ref a6])), (a1, .inl (G 0, 10, .inl f1)), (a2, .inl (G 0, 10, .inl f2)), (a3, .inl (G 0, 10, .inl f3)), (a4, .inl (G 0, 6, .inl f4)), (a5, .inl (G 0, 6, .inl f5)), (a6, .inl (G 0, 6, .inl f6))] t.heap ∧ va_D A [(h0, .inr (4, [.long u0, .ref sa, .ref aa])), (sa, .inl (G 1, 10, .inr (.inl u1))), (aa, .inl (G 1, 10, .inr (.inl u2))), (wy, .inr (9, [.int (nI N), .int (nI B), .int (nI D), .ref a1, .ref a2, .ref a3, .ref a4, .ref a5, .ref a6])), (a1, .inl (G 0, 10, .inl f1)), (a2, .inl (G 0, 10, .inl f2)), (a3, .inl (G 0, 10, .inl f3)), (a4, .inl (G 0, 6, .inl f4)), (a5, .inl (G 0, 6, .inl f5)), (a6, .inl (G 0, 6, .inl f6))]) A) ([.ref h0, .ref wy, .int (nI M), .int q1] : List Value).toArray s 0 0 A) (F0 m 11 ls []) := by
    intro nf
    induction nf with
    | zero => intro j6 h1 h2; exact absurd h1 (by omega)
    | succ nf ih11_10 =>
      intro j6 hn11 hj12 y7 g8 g9 H locs hinv hP hD hS ls hl
      refine lv_iload hx hb dX4_waking_11 (lv_at hl 0 rfl) ?_
      refine lv_iload_n hx hb dX4_waking_13 rfl (lv_at hl 3 rfl) ?_
      refine lv_icmp_ge (tgt := 43) hx hb dX4_waking_14 rfl (fun c13 => ?_) (fun c13 => ?_)
      · skip
        have tn2246_ : nIT j6 := fun _ => nI_toInt (by first | omega | (have t := leI c13; omega))
        have n14 : M ≤ j6 := by have t := leI c13; rw [show (nI (j6)).toInt = ((j6 : Nat) : Int) from tn2246_ ()] at t; rw [show (nI (M)).toInt = ((M : Nat) : Int) from tn2245_ ()] at t; omega
        refine lv_aload_n hx hb dX4_waking_43 rfl (lv_at hl 1 rfl) ?_
        refine va_get (D := (dC, dI)) (ci := 4) (v := .ref sa) (C := RX4) (T := TX4) (N := 3) hx hb hg inG4 hown hK.1 hP 7 rfl rfl 1 (Nat.le_of_ble_eq_true rfl) (hg _ wt_158) (fun _ h9 => h9) rfl dX4_waking_44 ?_
        refine lv_iconst (v := 0) hx hb dX4_waking_47 rfl ?_
        refine va_lald hx hb hK.1 hP 8 1 rfl rfl (vp_in_iff.mpr ⟨by decide, by decide⟩) dX4_waking_48 ?_
        refine lv_cgl (y := g8 0) (by rfl) ?_
        have hpost : (g8 0 : Int64) = odS (fun jb => hmO N B f1 f2 f3 f4 f5 f6 (nI jb)) D q1 M 0 := by
          have t_hj12 := hj12
          have t_n14 := n14
          have t_n0 : (nI M).toInt = (M : Int) := tn2245_ ()
          have t_n1 : (nI N).toInt = (N : Int) := tn2242_ ()
          have t_n2 : (nI B).toInt = (B : Int) := tn2243_ ()
          have t_n3 : (nI D).toInt = (D : Int) := tn2244_ ()
          have t_n4 : (nI j6).toInt = (j6 : Int) := tn2246_ ()
          have h9 := hinv.2 0 (by decide)
          rw [show j6 = M by omega] at h9
          exact h9
        obtain ⟨hP9, hD9⟩ := va_sub2 (ws' := [(h0, .inr (4, [.long y7, .ref sa, .ref aa])), (sa, .inl (G 1, 10, .inr (.inl g8))), (aa, .inl (G 1, 10, .inr (.inl g9))), (wy, .inr (9, [.int (nI N), .int (nI B), .int (nI D), .ref a1, .ref a2, .ref a3, .ref a4, .ref a5, .ref a6])), (a1, .inl (G 0, 10, .inl f1)), (a2, .inl (G 0, 10, .inl f2)), (a3, .inl (G 0, 10, .inl f3)), (a4, .inl (G 0, 6, .inl f4)), (a5, .inl (G 0, 6, .inl f5)), (a6, .inl (G 0, 6, .inl f6))]) hP hD [7, 8, 9, 0, 1, 2, 3, 4, 5, 6] (by decide +kernel) rfl
        refine W.widen (k := 0) (n := 0) (Nat.le_of_ble_eq_true rfl) (Nat.le_of_ble_eq_true rfl) ?_
        exact W.lret (v := g8 0) hx hb hr (fun t ht hW => ⟨⟨g8 0, (y7, g8, g9), rfl, ⟨hpost, (by have t_hj12 := hj12; have t_n14 := n14; have tnb_ := nib5 tn2245_ tn2242_ tn2243_ tn2244_ tn2246_; have h9 := hinv; rw [show j6 = M by omega] at h9; exact h9)⟩, ⟨by rw [ht]; exact hP9, hD9⟩⟩, hS.F ht⟩) hS.2.2 dX4_waking_49
      · skip
        have tn2247_ : nIT j6 := fun _ => nI_toInt (by first | omega | (have t := nleI c13; omega))
        have n15 : j6 < M := by have t := nleI c13; rw [show (nI (j6)).toInt = ((j6 : Nat) : Int) from tn2247_ ()] at t; rw [show (nI (M)).toInt = ((M : Nat) : Int) from tn2245_ ()] at t; omega
        refine lv_iload hx hb dX4_waking_17 (lv_at hl 0 rfl) ?_
        refine lv_iload_n hx hb dX4_waking_19 rfl (lv_at hl 4 rfl) ?_
        refine lv_icmp_ne (tgt := 27) hx hb dX4_waking_20 rfl (fun c16 => ?_) (fun c16 => ?_)
        · skip
          refine lv_aload_n hx hb dX4_waking_27 rfl (lv_at hl 1 rfl) ?_
          refine lv_aload_n hx hb dX4_waking_28 rfl (lv_at hl 2 rfl) ?_
          refine lv_iload hx hb dX4_waking_29 (lv_at hl 0 rfl) ?_
          have hPc := hP.sub (ws' := [(wy, .inr (9, [.int (nI N), .int (nI B), .int (nI D), .ref a1, .ref a2, .ref a3, .ref a4, .ref a5, .ref a6])), (a1, .inl (G 0, 10, .inl f1)), (a2, .inl (G 0, 10, .inl f2)), (a3, .inl (G 0, 10, .inl f3)), (a4, .inl (G 0, 6, .inl f4)), (a5, .inl (G 0, 6, .inl f5)), (a6, .inl (G 0, 6, .inl f6))]) [0, 1, 2, 3, 4, 5, 6] rfl
          refine va_calli (va_runVN (As := [.int (nI j6)]) (rest := [.ref h0]) ⟨hx, hb, hml, hown, hg⟩ (c_X9_harmInOrder l dC dI G _ wy a1 a2 a3 a4 a5 a6 N B D (nI j6) f1 f2 f3 f4 f5 f6 hN_N hB_B hD_D) (kwVN hg hK mfX9_harmInOrder wn_625 ⟨Nat.le_of_ble_eq_true rfl, Nat.le_of_ble_eq_true rfl⟩) (preVR hK hPc (ci := 9) (r := (RX9, TX9, 9)) rfl rfl) rfl rfl hl.1 rfl (lv_room (Nat.le_of_ble_eq_true rfl)) dX4_waking_31 ⟨Nat.le_of_ble_eq_true rfl, Nat.le_of_ble_eq_true rfl⟩) hS (fun q h1 h2 => absurd h2 (Nat.not_le.mpr h1)) (fun q h => hA q (Nat.le_trans hS.1 h)) (fun r17 ur17 t H1 locs ht hvm w18 hB hz1 hk1 hS => ?_)
          have hP := keepR hP hk1
          obtain ⟨w18, w18x⟩ := w18
          subst w18
          obtain ⟨hPc, hDc, hFc⟩ := va_sub3 (ws' := [(h0, .inr (4, [.long y7, .ref sa, .ref aa])), (sa, .inl (G 1, 10, .inr (.inl g8))), (aa, .inl (G 1, 10, .inr (.inl g9)))]) hP hD hS hA [7, 8, 9] (by decide +kernel) rfl
          refine va_callv (va_runV (As := [.int (hmO N B f1 f2 f3 f4 f5 f6 (nI j6))]) (rest := []) ⟨hx, hb, hml, hown, hg⟩ (c_X4_passE l dC dI G _ h0 sa aa (hmO N B f1 f2 f3 f4 f5 f6 (nI j6)) y7 g8 g9) (kwV hg mfX4_pass wt_630 ⟨Nat.le_of_ble_eq_true rfl, Nat.le_of_ble_eq_true rfl⟩) (preVW hK hPc hDc (ci := 4) (r := (RX4, TX4, 3)) rfl rfl) rfl rfl hl.1 rfl (lv_room (Nat.le_of_ble_eq_true rfl)) dX4_waking_34 ⟨Nat.le_of_ble_eq_true rfl, Nat.le_of_ble_eq_true rfl⟩) hS (fun q _ h => hFc q h) hFc (fun ur19 t H1 locs ht hvm w20 hB hz1 hk1 hS => ?_)
          obtain ⟨u21, u22, u23⟩ := ur19
          obtain ⟨hP1, hD1⟩ := hB
          rw [ht] at hP1
          obtain ⟨hP, hD⟩ := va_join (wr := [(wy, .inr (9, [.int (nI N), .int (nI B), .int (nI D), .ref a1, .ref a2, .ref a3, .ref a4, .ref a5, .ref a6])), (a1, .inl (G 0, 10, .inl f1)), (a2, .inl (G 0, 10, .inl f2)), (a3, .inl (G 0, 10, .inl f3)), (a4, .inl (G 0, 6, .inl f4)), (a5, .inl (G 0, 6, .inl f5)), (a6, .inl (G 0, 6, .inl f6))]) (w1 := [(h0, .inr (4, [.long u21, .ref sa, .ref aa])), (sa, .inl (G 1, 10, .inr (.inl u22))), (aa, .inl (G 1, 10, .inr (.inl u23)))]) hP hD [7, 8, 9] [0, 1, 2, 3, 4, 5, 6] rfl rfl (by decide +kernel) (by decide +kernel) hk1 hFc hP1 hD1
          have w20 : u21 = y7 * 20 ∧ ∀ q9 : Nat, q9 < 10 → u22 q9 = psR false (hmO N B f1 f2 f3 f4 f5 f6 (nI j6)) g8 9 q9 := w20
          generalize H1 = H at hP hS ⊢
          refine lv_iinc (v := nI (j6 + 1)) (lv' := [(4, .int (nI (j6 + 1))), (0, .ref h0), (1, .ref wy), (2, .int (nI M)), (3, .int q1)]) hx hb dX4_waking_37 hl (k := 0) rfl (by rw [show Int32.ofInt 1 = nI 1 from by decide]; exact nI_add _ _) (by decide) rfl (fun ls hl => ?_)
          refine lv_goto (tgt := 11) hx hb dX4_waking_40 rfl ?_
          exact ih11_10 (j6 + 1) (by omega) (by omega) u21 u22 u23 _ _ ⟨(by rw [w20.1, hinv.1]; rfl), wk_n (H := (fun jb => hmO N B f1 f2 f3 f4 f5 f6 (nI jb))) (fun e9 => by have t_hj12 := hj12; have t_n15 := n15; have t_c16 := neI c16; have tnb_ := nib5 tn2245_ tn2242_ tn2243_ tn2244_ tn2247_; have tqz_ := qz41_; have e8 := congrArg Int32.toInt e9; omega) hinv.2 w20.2⟩ hP hD hS ls (lv_sub hl [0, 1, 2, 3, 4] rfl)
        · skip
          refine lv_aload_n hx hb dX4_waking_23 rfl (lv_at hl 1 rfl) ?_
          obtain ⟨hPc, hDc, hFc⟩ := va_sub3 (ws' := [(h0, .inr (4, [.long y7, .ref sa, .ref aa])), (sa, .inl (G 1, 10, .inr (.inl g8))), (aa, .inl (G 1, 10, .inr (.inl g9)))]) hP hD hS hA [7, 8, 9] (by decide +kernel) rfl
          refine va_callv (va_runV (As := []) (rest := []) ⟨hx, hb, hml, hown, hg⟩ (c_X4_deepenE l dC dI G _ h0 sa aa y7 g8 g9) (kwV hg mfX4_deepen wt_616 ⟨Nat.le_of_ble_eq_true rfl, Nat.le_of_ble_eq_true rfl⟩) (preVW hK hPc hDc (ci := 4) (r := (RX4, TX4, 3)) rfl rfl) rfl rfl hl.1 rfl (lv_room (Nat.le_of_ble_eq_true rfl)) dX4_waking_24 ⟨Nat.le_of_ble_eq_true rfl, Nat.le_of_ble_eq_true rfl⟩) hS (fun q _ h => hFc q h) hFc (fun ur24 t H1 locs ht hvm w25 hB hz1 hk1 hS => ?_)
          obtain ⟨u26, u27, u28⟩ := ur24
          obtain ⟨hP1, hD1⟩ := hB
          rw [ht] at hP1
          obtain ⟨hP, hD⟩ := va_join (wr := [(wy, .inr (9, [.int (nI N), .int (nI B), .int (nI D), .ref a1, .ref a2, .ref a3, .ref a4, .ref a5, .ref a6])), (a1, .inl (G 0, 10, .inl f1)), (a2, .inl (G 0, 10, .inl f2)), (a3, .inl (G 0, 10, .inl f3)), (a4, .inl (G 0, 6, .inl f4)), (a5, .inl (G 0, 6, .inl f5)), (a6, .inl (G 0, 6, .inl f6))]) (w1 := [(h0, .inr (4, [.long u26, .ref sa, .ref aa])), (sa, .inl (G 1, 10, .inr (.inl u27))), (aa, .inl (G 1, 10, .inr (.inl u28)))]) hP hD [7, 8, 9] [0, 1, 2, 3, 4, 5, 6] rfl rfl (by decide +kernel) (by decide +kernel) hk1 hFc hP1 hD1
          have w25 : u26 = y7 ∧ ∀ q9 : Nat, q9 < 10 → u27 q9 = dpR g8 9 q9 := w25
          generalize H1 = H at hP hS ⊢
          refine lv_aload_n hx hb dX4_waking_27 rfl (lv_at hl 1 rfl) ?_
          refine lv_aload_n hx hb dX4_waking_28 rfl (lv_at hl 2 rfl) ?_
          refine lv_iload hx hb dX4_waking_29 (lv_at hl 0 rfl) ?_
          have hPc := hP.sub (ws' := [(wy, .inr (9, [.int (nI N), .int (nI B), .int (nI D), .ref a1, .ref a2, .ref a3, .ref a4, .ref a5, .ref a6])), (a1, .inl (G 0, 10, .inl f1)), (a2, .inl (G 0, 10, .inl f2)), (a3, .inl (G 0, 10, .inl f3)), (a4, .inl (G 0, 6, .inl f4)), (a5, .inl (G 0, 6, .inl f5)), (a6, .inl (G 0, 6, .inl f6))]) [0, 1, 2, 3, 4, 5, 6] rfl
          refine va_calli (va_runVN (As := [.int (nI j6)]) (rest := [.ref h0]) ⟨hx, hb, hml, hown, hg⟩ (c_X9_harmInOrder l dC dI G _ wy a1 a2 a3 a4 a5 a6 N B D (nI j6) f1 f2 f3 f4 f5 f6 hN_N hB_B hD_D) (kwVN hg hK mfX9_harmInOrder wn_625 ⟨Nat.le_of_ble_eq_true rfl, Nat.le_of_ble_eq_true rfl⟩) (preVR hK hPc (ci := 9) (r := (RX9, TX9, 9)) rfl rfl) rfl rfl hl.1 rfl (lv_room (Nat.le_of_ble_eq_true rfl)) dX4_waking_31 ⟨Nat.le_of_ble_eq_true rfl, Nat.le_of_ble_eq_true rfl⟩) hS (fun q h1 h2 => absurd h2 (Nat.not_le.mpr h1)) (fun q h => hA q (Nat.le_trans hS.1 h)) (fun r29 ur29 t H1 locs ht hvm w30 hB hz1 hk1 hS => ?_)
          have hP := keepR hP hk1
          obtain ⟨w30, w30x⟩ := w30
          subst w30
          obtain ⟨hPc, hDc, hFc⟩ := va_sub3 (ws' := [(h0, .inr (4, [.long u26, .ref sa, .ref aa])), (sa, .inl (G 1, 10, .inr (.inl u27))), (aa, .inl (G 1, 10, .inr (.inl u28)))]) hP hD hS hA [7, 8, 9] (by decide +kernel) rfl
          refine va_callv (va_runV (As := [.int (hmO N B f1 f2 f3 f4 f5 f6 (nI j6))]) (rest := []) ⟨hx, hb, hml, hown, hg⟩ (c_X4_passE l dC dI G _ h0 sa aa (hmO N B f1 f2 f3 f4 f5 f6 (nI j6)) u26 u27 u28) (kwV hg mfX4_pass wt_630 ⟨Nat.le_of_ble_eq_true rfl, Nat.le_of_ble_eq_true rfl⟩) (preVW hK hPc hDc (ci := 4) (r := (RX4, TX4, 3)) rfl rfl) rfl rfl hl.1 rfl (lv_room (Nat.le_of_ble_eq_true rfl)) dX4_waking_34 ⟨Nat.le_of_ble_eq_true rfl, Nat.le_of_ble_eq_true rfl⟩) hS (fun q _ h => hFc q h) hFc (fun ur31 t H1 locs ht hvm w32 hB hz1 hk1 hS => ?_)
          obtain ⟨u33, u34, u35⟩ := ur31
          obtain ⟨hP1, hD1⟩ := hB
          rw [ht] at hP1
          obtain ⟨hP, hD⟩ := va_join (wr := [(wy, .inr (9, [.int (nI N), .int (nI B), .int (nI D), .ref a1, .ref a2, .ref a3, .ref a4, .ref a5, .ref a6])), (a1, .inl (G 0, 10, .inl f1)), (a2, .inl (G 0, 10, .inl f2)), (a3, .inl (G 0, 10, .inl f3)), (a4, .inl (G 0, 6, .inl f4)), (a5, .inl (G 0, 6, .inl f5)), (a6, .inl (G 0, 6, .inl f6))]) (w1 := [(h0, .inr (4, [.long u33, .ref sa, .ref aa])), (sa, .inl (G 1, 10, .inr (.inl u34))), (aa, .inl (G 1, 10, .inr (.inl u35)))]) hP hD [7, 8, 9] [0, 1, 2, 3, 4, 5, 6] rfl rfl (by decide +kernel) (by decide +kernel) hk1 hFc hP1 hD1
          have w32 : u33 = u26 * 20 ∧ ∀ q9 : Nat, q9 < 10 → u34 q9 = psR false (hmO N B f1 f2 f3 f4 f5 f6 (nI j6)) u27 9 q9 := w32
          generalize H1 = H at hP hS ⊢
          refine lv_iinc (v := nI (j6 + 1)) (lv' := [(4, .int (nI (j6 + 1))), (0, .ref h0), (1, .ref wy), (2, .int (nI M)), (3, .int q1)]) hx hb dX4_waking_37 hl (k := 0) rfl (by rw [show Int32.ofInt 1 = nI 1 from by decide]; exact nI_add _ _) (by decide) rfl (fun ls hl => ?_)
          refine lv_goto (tgt := 11) hx hb dX4_waking_40 rfl ?_
          exact ih11_10 (j6 + 1) (by omega) (by omega) u33 u34 u35 _ _ ⟨(by rw [w32.1, w25.1, hinv.1]; rfl), wk_d (H := (fun jb => hmO N B f1 f2 f3 f4 f5 f6 (nI jb))) (Int32.toInt_inj.mp (by have t_hj12 := hj12; have t_n15 := n15; have t_c16 := eqI c16; have tnb_ := nib5 tn2245_ tn2242_ tn2243_ tn2244_ tn2247_; have tqz_ := qz41_; omega)) hinv.2 w25.2 w32.2⟩ hP hD hS ls (lv_sub hl [0, 1, 2, 3, 4] rfl)
  exact loop11_10 (M + 1) 0 (by omega) (by omega) u3 u4 u5 _ _ w2 hP hD hS ls (lv_sub hl [0, 1, 2, 3, 4] rfl)

set_option maxHeartbeats 1000000 in
set_option maxRecDepth 100000 in
theorem c_X11_startNowS (l : Launch) (dC : Nat → ClassId) (dI : Nat → Nat → Nat) (G : Nat → ClassId) (sz : Nat) (h0 st N B rp tp T cu lt od th be ln S ma M ah bh ik la lg ce : Nat) (vrs vrb vhs vca vxs vxb vfa vbr vba vsp vhe vtk vva vto : Int32) (fst : Nat → Int32) (hN : N ≤ 10) (hB : B ≤ 6) (hT : T ≤ 320) (hS0 : S ≤ 8) (hM : M ≤ 6) (hst : OKS fst) : Met l yX11_startNow (Cond.code yX11_startNow cX11_startNow 1 (some .int) :: GT) ({ frames := 0, cells := 0, slots := 0, locals := 0 } : Room) (PcR [.ref h0] dC dI G [(h0, .inr (11, [.ref st, .int (nI N), .int (nI B), .ref rp, .int vrs, .int vrb, .int vhs, .int vca, .int vxs, .int vxb, .ref tp, .int (nI T), .int vfa, .int vbr, .int vba, .int vsp, .int vhe, .int vtk, .int vva, .ref cu, .ref lt, .ref od, .ref th, .ref be, .ref ln, .int (nI S), .ref ma, .int (nI M), .ref ah, .ref bh, .ref ik, .ref la, .ref lg, .ref ce, .int vto])), (st, .inl (G 0, 196, .inl fst))] sz) (va_Qi (fun (r : Int32) (u : Unit) => match u with | _ => (r = nI (sdN fst) ∧ 1 ≤ sdN fst ∧ sdN fst ≤ 9) ∧ True) (fun _ _ => True) (fun q : Nat => sz ≤ q)) 0 0 (fun q : Nat => sz ≤ q) := by
  refine Met.ofW (cc := cX11_startNow) (maxL := 1) (ret := (some .int)) (by decide) rfl ?_
  intro p e s m args below meth c s₁ Bd hml hv
  obtain ⟨rfl, hsz, hP, hK⟩ := hv
  have hx := Bd.exec
  have hb := Bd.bytes
  have hr := Bd.returns
  have hg : ∀ w ∈ GT, w.before ([.ref h0] : List Value).toArray s = true := fun w h => atoms_spec (ws := Cond.code yX11_startNow cX11_startNow 1 (some .int) :: GT) Bd.pre w (List.mem_cons_of_mem _ h)
  have hown : s.vm.findClass RX11 = some m.cls := findClass_of_methodNamed Bd.named
  have hlocks := Bd.notSynchronized
  subst hsz
  have hA : ∀ q : Nat, s.heap.size ≤ q → (fun q : Nat => s.heap.size ≤ q) q := fun _ h => h
  have hS : va_S (fun q : Nat => s.heap.size ≤ q) s.heap s.heap [] := va_S.rf
  have hl := lv_entry ([.ref h0]) (n := 1) (Nat.le_of_ble_eq_true rfl)
  rw [lg_entry_eq]
  generalize (lg_sl ([.ref h0]) ++ List.replicate (1 - (lg_sl ([.ref h0])).length) Slot.unset).toArray = ls at hl ⊢
  have hl : lv_has ls 1 [(0, .ref h0)] := hl
  refine lv_aload_n hx hb dX11_startNow_0 rfl (lv_at hl 0 rfl) ?_
  refine va_get (D := (dC, dI)) (ci := 11) (v := .ref st) (C := RX11) (T := TX11) (N := 35) hx hb hg inG11 hown hK.1 hP 0 rfl rfl 0 (Nat.le_of_ble_eq_true rfl) (hg _ wt_878) (fun _ h9 => h9) rfl dX11_startNow_1 ?_
  refine lv_bipush (v := 48) hx hb dX11_startNow_4 rfl ?_
  refine va_iald hx hb hK.1 hP 1 0 rfl rfl (vp_in_iff.mpr ⟨by decide, by decide⟩) dX11_startNow_6 ?_
  refine lv_cg (y := fst 48) (by rfl) ?_
  refine lv_iconst (v := 5) hx hb dX11_startNow_7 rfl ?_
  refine lv_iadd hx hb dX11_startNow_8 ?_
  have hpost : ((fst 48) + 5 : Int32) = nI (sdN fst) ∧ 1 ≤ sdN fst ∧ sdN fst ≤ 9 := by
    exact sdN_ok (hst 48 (by omega))
  refine W.widen (k := 0) (n := 0) (Nat.le_of_ble_eq_true rfl) (Nat.le_of_ble_eq_true rfl) ?_
  exact W.iret (v := (fst 48) + 5) hx hb hr (fun t ht hW => ⟨⟨(fst 48) + 5, (), rfl, ⟨hpost, trivial⟩, trivial⟩, hS.F ht⟩) hS.2.2 dX11_startNow_9

set_option maxHeartbeats 1000000 in
set_option maxRecDepth 100000 in
theorem c_X11_orderedHarmE (l : Launch) (dC : Nat → ClassId) (dI : Nat → Nat → Nat) (G : Nat → ClassId) (sz : Nat) (h0 i st N B rp tp T cu lt od th be ln S ma M ah bh ik la lg ce : Nat) (q vrs vrb vhs vca vxs vxb vfa vbr vba vsp vhe vtk vva vto : Int32) (fst : Nat → Int32) (hN : N ≤ 10) (hB : B ≤ 6) (hT : T ≤ 320) (hS0 : S ≤ 8) (hM : M ≤ 6) (hi : i < 10) (hst : OKS fst) : Met l yX11_orderedHarm (Cond.code yX11_orderedHarm cX11_orderedHarm 3 (some .int) :: GT) ({ frames := 2, cells := 0, slots := 0, locals := 50 } : Room) (PcR [.ref h0, .int (nI i), .int q] dC dI G [(h0, .inr (11, [.ref st, .int (nI N), .int (nI B), .ref rp, .int vrs, .int vrb, .int vhs, .int vca, .int vxs, .int vxb, .ref tp, .int (nI T), .int vfa, .int vbr, .int vba, .int vsp, .int vhe, .int vtk, .int vva, .ref cu, .ref lt, .ref od, .ref th, .ref be, .ref ln, .int (nI S), .ref ma, .int (nI M), .ref ah, .ref bh, .ref ik, .ref la, .ref lg, .ref ce, .int vto])), (st, .inl (G 0, 196, .inl fst))] sz) (va_Qi (fun (r : Int32) (u : Unit) => match u with | _ => (r = rhO fst i q) ∧ True) (fun _ _ => True) (fun q : Nat => sz ≤ q)) 0 0 (fun q : Nat => sz ≤ q) := by
  have hB_ := hB
  have hM_ := hM
  have hT_ := hT
  have tn2258_ : nIT N := fun _ => nI_toInt (by omega)
  have tn2259_ : nIT B := fun _ => nI_toInt (by omega)
  have tn2260_ : nIT T := fun _ => nI_toInt (by omega)
  have tn2261_ : nIT S := fun _ => nI_toInt (by omega)
  have tn2262_ : nIT M := fun _ => nI_toInt (by omega)
  refine Met.ofW (cc := cX11_orderedHarm) (maxL := 3) (ret := (some .int)) (by decide) rfl ?_
  intro p e s m args below meth c s₁ Bd hml hv
  obtain ⟨rfl, hsz, hP, hK⟩ := hv
  have hx := Bd.exec
  have hb := Bd.bytes
  have hr := Bd.returns
  have hg : ∀ w ∈ GT, w.before ([.ref h0, .int (nI i), .int q] : List Value).toArray s = true := fun w h => atoms_spec (ws := Cond.code yX11_orderedHarm cX11_orderedHarm 3 (some .int) :: GT) Bd.pre w (List.mem_cons_of_mem _ h)
  have hown : s.vm.findClass RX11 = some m.cls := findClass_of_methodNamed Bd.named
  have hlocks := Bd.notSynchronized
  subst hsz
  have hA : ∀ q : Nat, s.heap.size ≤ q → (fun q : Nat => s.heap.size ≤ q) q := fun _ h => h
  have hS : va_S (fun q : Nat => s.heap.size ≤ q) s.heap s.heap [] := va_S.rf
  have hl := lv_entry ([.ref h0, .int (nI i), .int q]) (n := 3) (Nat.le_of_ble_eq_true rfl)
  rw [lg_entry_eq]
  generalize (lg_sl ([.ref h0, .int (nI i), .int q]) ++ List.replicate (3 - (lg_sl ([.ref h0, .int (nI i), .int q])).length) Slot.unset).toArray = ls at hl ⊢
  have hl : lv_has ls 3 [(0, .ref h0), (1, .int (nI i)), (2, .int q)] := hl
  refine lv_aload_n hx hb dX11_orderedHarm_0 rfl (lv_at hl 0 rfl) ?_
  refine lv_iload_n hx hb dX11_orderedHarm_1 rfl (lv_at hl 1 rfl) ?_
  refine lv_iload_n hx hb dX11_orderedHarm_2 rfl (lv_at hl 1 rfl) ?_
  refine lv_if_ne (tgt := 11) hx hb dX11_orderedHarm_3 rfl (fun c1 => ?_) (fun c1 => ?_)
  · skip
    have tn2263_ : nIT i := fun _ => nI_toInt (by first | omega | (have t := neI c1; omega))
    have n2 : i ≠ 0 := by have t := neI c1; rw [show (nI (i)).toInt = ((i : Nat) : Int) from tn2263_ ()] at t; have : (0 : Int32).toInt = 0 := qI_0; omega
    refine lv_aload_n hx hb dX11_orderedHarm_11 rfl (lv_at hl 0 rfl) ?_
    refine va_get (D := (dC, dI)) (ci := 11) (v := .ref st) (C := RX11) (T := TX11) (N := 35) hx hb hg inG11 hown hK.1 hP 0 rfl rfl 0 (Nat.le_of_ble_eq_true rfl) (hg _ wt_878) (fun _ h9 => h9) rfl dX11_orderedHarm_12 ?_
    refine lv_bipush (v := 38) hx hb dX11_orderedHarm_15 rfl ?_
    refine lv_iload_n hx hb dX11_orderedHarm_17 rfl (lv_at hl 1 rfl) ?_
    refine lv_iadd hx hb dX11_orderedHarm_18 ?_
    refine lv_cg (y := nI (38 + i)) (by rw [show (38 : Int32) = nI 38 from rfl]; exact nI_add _ _) ?_
    refine lv_iconst (v := 1) hx hb dX11_orderedHarm_19 rfl ?_
    refine lv_isub hx hb dX11_orderedHarm_20 ?_
    refine lv_cg (y := nI ((38 + i) - 1)) (by rw [show (1 : Int32) = nI 1 from rfl]; exact pk_sub (by have t_n2 := n2; have tnb_ := nib6 tn2263_ tn2258_ tn2259_ tn2260_ tn2261_ tn2262_; omega)) ?_
    refine va_iald hx hb hK.1 hP 1 0 rfl rfl (vp_in_nI (by first | omega | (have t_n2 := n2; have tnb_ := nib6 tn2263_ tn2258_ tn2259_ tn2260_ tn2261_ tn2262_; omega)) (by decide)) dX11_orderedHarm_21 ?_
    refine lv_cg (y := fst ((38 + i) - 1)) (by rw [nI_clamp (by omega)]) ?_
    obtain ⟨o1, ho1, eo1⟩ := ord_nat hst (q := ((38 + i) - 1)) (by omega) (by omega) (by omega)
    refine lv_cg (y := nI o1) eo1 ?_
    refine lv_aload_n hx hb dX11_orderedHarm_22 rfl (lv_at hl 0 rfl) ?_
    refine va_get (D := (dC, dI)) (ci := 11) (v := .ref st) (C := RX11) (T := TX11) (N := 35) hx hb hg inG11 hown hK.1 hP 0 rfl rfl 0 (Nat.le_of_ble_eq_true rfl) (hg _ wt_878) (fun _ h9 => h9) rfl dX11_orderedHarm_23 ?_
    refine lv_bipush (v := 38) hx hb dX11_orderedHarm_26 rfl ?_
    refine lv_iload_n hx hb dX11_orderedHarm_28 rfl (lv_at hl 1 rfl) ?_
    refine lv_iadd hx hb dX11_orderedHarm_29 ?_
    refine lv_cg (y := nI (38 + i)) (by rw [show (38 : Int32) = nI 38 from rfl]; exact nI_add _ _) ?_
    have tn2264_ : nIT o1 := fun _ => nI_toInt (by first | omega | (have t_n2 := n2; have t_ho1 := ho1; omega))
    refine va_iald hx hb hK.1 hP 1 0 rfl rfl (vp_in_nI (by first | omega | (have t_n2 := n2; have t_ho1 := ho1; have tnb_ := nib7 tn2263_ tn2258_ tn2259_ tn2260_ tn2261_ tn2262_ tn2264_; omega)) (by decide)) dX11_orderedHarm_30 ?_
    refine lv_cg (y := fst (38 + i)) (by rw [nI_clamp (by omega)]) ?_
    obtain ⟨o2, ho2, eo2⟩ := ord_nat hst (q := (38 + i)) (by omega) (by omega) (by omega)
    refine lv_cg (y := nI o2) eo2 ?_
    refine lv_iload_n hx hb dX11_orderedHarm_31 rfl (lv_at hl 2 rfl) ?_
    have hPc := hP.sub (ws' := [(h0, .inr (11, [.ref st, .int (nI N), .int (nI B), .ref rp, .int vrs, .int vrb, .int vhs, .int vca, .int vxs, .int vxb, .ref tp, .int (nI T), .int vfa, .int vbr, .int vba, .int vsp, .int vhe, .int vtk, .int vva, .ref cu, .ref lt, .ref od, .ref th, .ref be, .ref ln, .int (nI S), .ref ma, .int (nI M), .ref ah, .ref bh, .ref ik, .ref la, .ref lg, .ref ce, .int vto])), (st, .inl (G 0, 196, .inl fst))]) [0, 1] rfl
    have tn2265_ : nIT o2 := fun _ => nI_toInt (by first | omega | (have t_n2 := n2; have t_ho1 := ho1; have t_ho2 := ho2; omega))
    refine va_calli (va_runV (As := [.int (nI i), .int (nI o1), .int (nI o2), .int q]) (rest := []) ⟨hx, hb, hml, hown, hg⟩ (c_X11_harmOfB l dC dI G _ h0 i o1 o2 st N B rp tp T cu lt od th be ln S ma M ah bh ik la lg ce q vrs vrb vhs vca vxs vxb vfa vbr vba vsp vhe vtk vva vto fst hN hB_ hT_ hS0 hM_ hi (by first | omega | (have t_n2 := n2; have t_ho1 := ho1; have t_ho2 := ho2; have tnb_ := nib8 tn2263_ tn2258_ tn2259_ tn2260_ tn2261_ tn2262_ tn2264_ tn2265_; omega)) (by first | omega | (have t_n2 := n2; have t_ho1 := ho1; have t_ho2 := ho2; have tnb_ := nib8 tn2263_ tn2258_ tn2259_ tn2260_ tn2261_ tn2262_ tn2264_ tn2265_; omega))) (kwV hg mfX11_harmOf wt_1106 ⟨Nat.le_of_ble_eq_true rfl, Nat.le_of_ble_eq_true rfl⟩) (preVR hK hPc (ci := 11) (r := (RX11, TX11, 35)) rfl rfl) rfl rfl hl.1 rfl (lv_room (Nat.le_of_ble_eq_true rfl)) dX11_orderedHarm_32 ⟨Nat.le_of_ble_eq_true rfl, Nat.le_of_ble_eq_true rfl⟩) hS (fun q h1 h2 => absurd h2 (Nat.not_le.mpr h1)) (fun q h => hA q (Nat.le_trans hS.1 h)) (fun r3 ur3 t H1 locs ht hvm w4 hB hz1 hk1 hS => ?_)
    have hP := keepR hP hk1
    obtain ⟨w4, w4x⟩ := w4
    subst w4
    have hpost : (rhB fst i o1 o2 q : Int32) = rhO fst i q := by
      have t_n2 := n2
      have t_ho1 := ho1
      have t_ho2 := ho2
      have t_n0 : (nI i).toInt = (i : Int) := tn2263_ ()
      have t_n1 : (nI N).toInt = (N : Int) := tn2258_ ()
      have t_n2 : (nI B).toInt = (B : Int) := tn2259_ ()
      have t_n3 : (nI T).toInt = (T : Int) := tn2260_ ()
      have t_n4 : (nI S).toInt = (S : Int) := tn2261_ ()
      have t_n5 : (nI M).toInt = (M : Int) := tn2262_ ()
      have t_n6 : (nI o1).toInt = (o1 : Int) := tn2264_ ()
      have t_n7 : (nI o2).toInt = (o2 : Int) := tn2265_ ()
      have z0 : (0 : Int32).toInt = 0 := qI_0
      have z1 : (1 : Int32).toInt = 1 := qI_1
      have z2 : (2 : Int32).toInt = 2 := qI_2
      have z3 : (3 : Int32).toInt = 3 := qI_3
      have z5 : (5 : Int32).toInt = 5 := qI_5
      have z9 : (9 : Int32).toInt = 9 := qI_9
      unfold rhO
      first | (rw [if_pos (by omega), eo2, nI_clamp (by omega)]; done) | (rw [if_neg (by omega), eo1, eo2, nI_clamp (by omega), nI_clamp (by omega)]; done)
    refine W.widen (k := 0) (n := 0) (Nat.le_of_ble_eq_true rfl) (Nat.le_of_ble_eq_true rfl) ?_
    exact W.iret (v := rhB fst i o1 o2 q) hx hb hr (fun t ht hW => ⟨⟨rhB fst i o1 o2 q, (), rfl, ⟨hpost, trivial⟩, trivial⟩, hS.F ht⟩) hS.2.2 dX11_orderedHarm_35
  · skip
    have tn2266_ : nIT i := fun _ => nI_toInt (by first | omega | (have t := eqI c1; omega))
    have n5 : i = 0 := by have t := eqI c1; rw [show (nI (i)).toInt = ((i : Nat) : Int) from tn2266_ ()] at t; have : (0 : Int32).toInt = 0 := qI_0; omega
    refine lv_bipush (v := (-4)) hx hb dX11_orderedHarm_6 rfl ?_
    refine lv_goto (tgt := 22) hx hb dX11_orderedHarm_8 rfl ?_
    refine lv_aload_n hx hb dX11_orderedHarm_22 rfl (lv_at hl 0 rfl) ?_
    refine va_get (D := (dC, dI)) (ci := 11) (v := .ref st) (C := RX11) (T := TX11) (N := 35) hx hb hg inG11 hown hK.1 hP 0 rfl rfl 0 (Nat.le_of_ble_eq_true rfl) (hg _ wt_878) (fun _ h9 => h9) rfl dX11_orderedHarm_23 ?_
    refine lv_bipush (v := 38) hx hb dX11_orderedHarm_26 rfl ?_
    refine lv_iload_n hx hb dX11_orderedHarm_28 rfl (lv_at hl 1 rfl) ?_
    refine lv_iadd hx hb dX11_orderedHarm_29 ?_
    refine lv_cg (y := nI (38 + i)) (by rw [show (38 : Int32) = nI 38 from rfl]; exact nI_add _ _) ?_
    refine va_iald hx hb hK.1 hP 1 0 rfl rfl (vp_in_nI (by first | omega | (have t_n5 := n5; have tnb_ := nib6 tn2266_ tn2258_ tn2259_ tn2260_ tn2261_ tn2262_; omega)) (by decide)) dX11_orderedHarm_30 ?_
    refine lv_cg (y := fst (38 + i)) (by rw [nI_clamp (by omega)]) ?_
    obtain ⟨o2, ho2, eo2⟩ := ord_nat hst (q := (38 + i)) (by omega) (by omega) (by omega)
    refine lv_cg (y := nI o2) eo2 ?_
    refine lv_iload_n hx hb dX11_orderedHarm_31 rfl (lv_at hl 2 rfl) ?_
    have hPc := hP.sub (ws' := [(h0, .inr (11, [.ref st, .int (nI N), .int (nI B), .ref rp, .int vrs, .int vrb, .int vhs, .int vca, .int vxs, .int vxb, .ref tp, .int (nI T), .int vfa, .int vbr, .int vba, .int vsp, .int vhe, .int vtk, .int vva, .ref cu, .ref lt, .ref od, .ref th, .ref be, .ref ln, .int (nI S), .ref ma, .int (nI M), .ref ah, .ref bh, .ref ik, .ref la, .ref lg, .ref ce, .int vto])), (st, .inl (G 0, 196, .inl fst))]) [0, 1] rfl
    have tn2267_ : nIT o2 := fun _ => nI_toInt (by first | omega | (have t_n5 := n5; have t_ho2 := ho2; omega))
    refine va_calli (va_runV (As := [.int (nI i), .int (-4), .int (nI o2), .int q]) (rest := []) ⟨hx, hb, hml, hown, hg⟩ (c_X11_harmOfN l dC dI G _ h0 i o2 st N B rp tp T cu lt od th be ln S ma M ah bh ik la lg ce q vrs vrb vhs vca vxs vxb vfa vbr vba vsp vhe vtk vva vto fst hN hB_ hT_ hS0 hM_ hi (by first | omega | (have t_n5 := n5; have t_ho2 := ho2; have tnb_ := nib7 tn2266_ tn2258_ tn2259_ tn2260_ tn2261_ tn2262_ tn2267_; have : ((-4) : Int32).toInt = -4 := qI_m4; omega))) (kwV hg mfX11_harmOf wt_1106 ⟨Nat.le_of_ble_eq_true rfl, Nat.le_of_ble_eq_true rfl⟩) (preVR hK hPc (ci := 11) (r := (RX11, TX11, 35)) rfl rfl) rfl rfl hl.1 rfl (lv_room (Nat.le_of_ble_eq_true rfl)) dX11_orderedHarm_32 ⟨Nat.le_of_ble_eq_true rfl, Nat.le_of_ble_eq_true rfl⟩) hS (fun q h1 h2 => absurd h2 (Nat.not_le.mpr h1)) (fun q h => hA q (Nat.le_trans hS.1 h)) (fun r6 ur6 t H1 locs ht hvm w7 hB hz1 hk1 hS => ?_)
    have hP := keepR hP hk1
    obtain ⟨w7, w7x⟩ := w7
    subst w7
    have hpost : (rhN fst i o2 q : Int32) = rhO fst i q := by
      have t_n5 := n5
      have t_ho2 := ho2
      have t_n0 : (nI i).toInt = (i : Int) := tn2266_ ()
      have t_n1 : (nI N).toInt = (N : Int) := tn2258_ ()
      have t_n2 : (nI B).toInt = (B : Int) := tn2259_ ()
      have t_n3 : (nI T).toInt = (T : Int) := tn2260_ ()
      have t_n4 : (nI S).toInt = (S : Int) := tn2261_ ()
      have t_n5 : (nI M).toInt = (M : Int) := tn2262_ ()
      have t_n6 : (nI o2).toInt = (o2 : Int) := tn2267_ ()
      have z0 : (0 : Int32).toInt = 0 := qI_0
      have z1 : (1 : Int32).toInt = 1 := qI_1
      have z2 : (2 : Int32).toInt = 2 := qI_2
      have z3 : (3 : Int32).toInt = 3 := qI_3
      have z5 : (5 : Int32).toInt = 5 := qI_5
      have z9 : (9 : Int32).toInt = 9 := qI_9
      unfold rhO
      first | (rw [if_pos (by omega), eo2, nI_clamp (by omega)]; done) | (rw [if_neg (by omega), eo1, eo2, nI_clamp (by omega), nI_clamp (by omega)]; done)
    refine W.widen (k := 0) (n := 0) (Nat.le_of_ble_eq_true rfl) (Nat.le_of_ble_eq_true rfl) ?_
    exact W.iret (v := rhN fst i o2 q) hx hb hr (fun t ht hW => ⟨⟨rhN fst i o2 q, (), rfl, ⟨hpost, trivial⟩, trivial⟩, hS.F ht⟩) hS.2.2 dX11_orderedHarm_35

set_option maxHeartbeats 1000000 in
set_option maxRecDepth 100000 in
theorem c_X11_layOddsE (l : Launch) (dC : Nat → ClassId) (dI : Nat → Nat → Nat) (G : Nat → ClassId) (sz : Nat) (h0 nn st N B rp tp T cu lt od th be ln S ma M ah bh ik la lg ce : Nat) (x1 x2 vrs vrb vhs vca vxs vxb vfa vbr vba vsp vhe vtk vva vto : Int32) (fst : Nat → Int32) (fod : Nat → Int64) (fth : Nat → Int64) (hN : N ≤ 10) (hB : B ≤ 6) (hT : T ≤ 320) (hS0 : S ≤ 8) (hM : M ≤ 6) (hst : OKS fst) (hnn : nn ≤ 10) : Met l yX11_layOdds (Cond.code yX11_layOdds cX11_layOdds 8 none :: GT) ({ frames := 3, cells := 0, slots := 0, locals := 72 } : Room) (PcW [.ref h0, .int (nI nn), .int x1, .int x2] dC dI G [(h0, .inr (11, [.ref st, .int (nI N), .int (nI B), .ref rp, .int vrs, .int vrb, .int vhs, .int vca, .int vxs, .int vxb, .ref tp, .int (nI T), .int vfa, .int vbr, .int vba, .int vsp, .int vhe, .int vtk, .int vva, .ref cu, .ref lt, .ref od, .ref th, .ref be, .ref ln, .int (nI S), .ref ma, .int (nI M), .ref ah, .ref bh, .ref ik, .ref la, .ref lg, .ref ce, .int vto])), (st, .inl (G 0, 196, .inl fst)), (od, .inl (G 1, 10, .inr (.inl fod))), (th, .inl (G 1, 10, .inr (.inl fth)))] sz) (va_Qv (fun (u : (Nat → Int64) × (Nat → Int64)) => match u with | (ood, oth) => ∀ q9 : Nat, q9 < 10 → ood q9 = odR (fun jb => rhO fst jb (qbF x1 jb)) (sdN fst) x2 nn q9) (fun (u : (Nat → Int64) × (Nat → Int64)) (t : State) => match u with | (ood, oth) => va_P (dC, dI) vwCl [(h0, .inr (11, [.ref st, .int (nI N), .int (nI B), .ref rp, .int vrs, .int vrb, .int vhs, .int vca, .int vxs, .int vxb, .ref tp, .int (nI T), .int vfa, .int vbr, .int vba, .int vsp, .int vhe, .int vtk, .int vva, .ref cu, .ref lt, .ref od, .ref th, .ref be, .ref ln, .int (nI S), .ref ma, .int (nI M), .ref ah, .ref bh, .ref ik, .ref la, .ref lg, .ref ce, .int vto])), (st, .inl (G 0, 196, .inl fst)), (od, .inl (G 1, 10, .inr (.inl ood))), (th, .inl (G 1, 10, .inr (.inl oth)))] t.heap ∧ va_D (va_A [(h0, .inr (11, [.ref st, .int (nI N), .int (nI B), .ref rp, .int vrs, .int vrb, .int vhs, .int vca, .int vxs, .int vxb, .ref tp, .int (nI T), .int vfa, .int vbr, .int vba, .int vsp, .int vhe, .int vtk, .int vva, .ref cu, .ref lt, .ref od, .ref th, .ref be, .ref ln, .int (nI S), .ref ma, .int (nI M), .ref ah, .ref bh, .ref ik, .ref la, .ref lg, .ref ce, .int vto])), (st, .inl (G 0, 196, .inl fst)), (od, .inl (G 1, 10, .inr (.inl fod))), (th, .inl (G 1, 10, .inr (.inl fth)))] sz) [(h0, .inr (11, [.ref st, .int (nI N), .int (nI B), .ref rp, .int vrs, .int vrb, .int vhs, .int vca, .int vxs, .int vxb, .ref tp, .int (nI T), .int vfa, .int vbr, .int vba, .int vsp, .int vhe, .int vtk, .int vva, .ref cu, .ref lt, .ref od, .ref th, .ref be, .ref ln, .int (nI S), .ref ma, .int (nI M), .ref ah, .ref bh, .ref ik, .ref la, .ref lg, .ref ce, .int vto])), (st, .inl (G 0, 196, .inl fst)), (od, .inl (G 1, 10, .inr (.inl ood))), (th, .inl (G 1, 10, .inr (.inl oth)))]) (va_A [(h0, .inr (11, [.ref st, .int (nI N), .int (nI B), .ref rp, .int vrs, .int vrb, .int vhs, .int vca, .int vxs, .int vxb, .ref tp, .int (nI T), .int vfa, .int vbr, .int vba, .int vsp, .int vhe, .int vtk, .int vva, .ref cu, .ref lt, .ref od, .ref th, .ref be, .ref ln, .int (nI S), .ref ma, .int (nI M), .ref ah, .ref bh, .ref ik, .ref la, .ref lg, .ref ce, .int vto])), (st, .inl (G 0, 196, .inl fst)), (od, .inl (G 1, 10, .inr (.inl fod))), (th, .inl (G 1, 10, .inr (.inl fth)))] sz)) 0 0 (va_A [(h0, .inr (11, [.ref st, .int (nI N), .int (nI B), .ref rp, .int vrs, .int vrb, .int vhs, .int vca, .int vxs, .int vxb, .ref tp, .int (nI T), .int vfa, .int vbr, .int vba, .int vsp, .int vhe, .int vtk, .int vva, .ref cu, .ref lt, .ref od, .ref th, .ref be, .ref ln, .int (nI S), .ref ma, .int (nI M), .ref ah, .ref bh, .ref ik, .ref la, .ref lg, .ref ce, .int vto])), (st, .inl (G 0, 196, .inl fst)), (od, .inl (G 1, 10, .inr (.inl fod))), (th, .inl (G 1, 10, .inr (.inl fth)))] sz) := by
  have hB_ := hB
  have hM_ := hM
  have hT_ := hT
  have tn2268_ : nIT N := fun _ => nI_toInt (by omega)
  have tn2269_ : nIT B := fun _ => nI_toInt (by omega)
  have tn2270_ : nIT T := fun _ => nI_toInt (by omega)
  have tn2271_ : nIT S := fun _ => nI_toInt (by omega)
  have tn2272_ : nIT M := fun _ => nI_toInt (by omega)
  refine Met.ofW (cc := cX11_layOdds) (maxL := 8) (ret := none) (by decide) rfl ?_
  intro p e s m args below meth c s₁ Bd hml hv
  obtain ⟨rfl, hsz, hP, hK, hD0⟩ := hv
  have hx := Bd.exec
  have hb := Bd.bytes
  have hr := Bd.returns
  have hg : ∀ w ∈ GT, w.before ([.ref h0, .int (nI nn), .int x1, .int x2] : List Value).toArray s = true := fun w h => atoms_spec (ws := Cond.code yX11_layOdds cX11_layOdds 8 none :: GT) Bd.pre w (List.mem_cons_of_mem _ h)
  have hown : s.vm.findClass RX11 = some m.cls := findClass_of_methodNamed Bd.named
  have hlocks := Bd.notSynchronized
  subst hsz
  have hD := hD0.self (sz := s.heap.size)
  generalize hAe : va_A [(h0, .inr (11, [.ref st, .int (nI N), .int (nI B), .ref rp, .int vrs, .int vrb, .int vhs, .int vca, .int vxs, .int vxb, .ref tp, .int (nI T), .int vfa, .int vbr, .int vba, .int vsp, .int vhe, .int vtk, .int vva, .ref cu, .ref lt, .ref od, .ref th, .ref be, .ref ln, .int (nI S), .ref ma, .int (nI M), .ref ah, .ref bh, .ref ik, .ref la, .ref lg, .ref ce, .int vto])), (st, .inl (G 0, 196, .inl fst)), (od, .inl (G 1, 10, .inr (.inl fod))), (th, .inl (G 1, 10, .inr (.inl fth)))] s.heap.size = A at hD ⊢
  have hA : ∀ q : Nat, s.heap.size ≤ q → A q := fun q h => by rw [← hAe]; exact Or.inr h
  have hS : va_S A s.heap s.heap [] := va_S.rf
  have hl := lv_entry ([.ref h0, .int (nI nn), .int x1, .int x2]) (n := 8) (Nat.le_of_ble_eq_true rfl)
  rw [lg_entry_eq]
  generalize (lg_sl ([.ref h0, .int (nI nn), .int x1, .int x2]) ++ List.replicate (8 - (lg_sl ([.ref h0, .int (nI nn), .int x1, .int x2])).length) Slot.unset).toArray = ls at hl ⊢
  have hl : lv_has ls 8 [(0, .ref h0), (1, .int (nI nn)), (2, .int x1), (3, .int x2)] := hl
  refine lv_iconst (v := 0) hx hb dX11_layOdds_0 rfl ?_
  refine lv_istore (lv' := [(4, .int 0), (0, .ref h0), (1, .int (nI nn)), (2, .int x1), (3, .int x2)]) hx hb dX11_layOdds_1 hl (by decide) rfl (fun ls hl => ?_)
  have loop3_3 : ∀ (nf j1 : Nat), 10 + 1 ≤ j1 + nf → j1 ≤ 10 → ∀ (g2 : Nat → Int64) (H : Heap) (locs : List Loc), (∀ q9 : Nat, q9 < j1 → g2 q9 = od0 (sdN fst) q9) → va_P (dC, dI) vwCl [(h0, .inr (11, [.ref st, .int (nI N), .int (nI B), .ref rp, .int vrs, .int vrb, .int vhs, .int vca, .int vxs, .int vxb, .ref tp, .int (nI T), .int vfa, .int vbr, .int vba, .int vsp, .int vhe, .int vtk, .int vva, .ref cu, .ref lt, .ref od, .ref th, .ref be, .ref ln, .int (nI S), .ref ma, .int (nI M), .ref ah, .ref bh, .ref ik, .ref la, .ref lg, .ref ce, .int vto])), (st, .inl (G 0, 196, .inl fst)), (od, .inl (G 1, 10, .inr (.inl g2))), (th, .inl (G 1, 10, .inr (.inl fth)))] H → va_D A [(h0, .inr (11, [.ref st, .int (nI N), .int (nI B), .ref rp, .int vrs, .int vrb, .int vhs, .int vca, .int vxs, .int vxb, .ref tp, .int (nI T), .int vfa, .int vbr, .int vba, .int vsp, .int vhe, .int vtk, .int vva, .ref cu, .ref lt, .ref od, .ref th, .ref be, .ref ln, .int (nI S), .ref ma, .int (nI M), .ref ah, .ref bh, .ref ik, .ref la, .ref lg, .ref ce, .int vto])), (st, .inl (G 0, 196, .inl fst)), (od, .inl (G 1, 10, .inr (.inl g2))), (th, .inl (G 1, 10, .inr (.inl fth)))] → va_S A s.heap H locs → ∀ (ls : Array Slot), lv_has ls 8 [(4, .int (nI j1)), (0, .ref h0), (1, .int (nI nn)), (2, .int x1), (3, .int x2)] → W p l e (headSpec (Cond.code yX11_layOdds cX11_layOdds 8 none :: GT) ({ frames := 3, cells := 0, slots := 0, locals := 72 } : Room)).room s m ([.ref h0, .int (nI nn), .int x1, .int x2] : List Value).toArray below meth c H locs 0 0 (MQ below (va_Qv (fun (u : (Nat → Int64) × (Nat → Int64)) => match u with | (ood, oth) => ∀ q9 : Nat, q9 < 10 → ood q9 = odR (fun jb => rhO fst jb (qbF x1 jb)) (sdN fst) x2 nn q9) (fun (u : (Nat → Int64) × (Nat → Int64)) (t : State) => match u with | (ood, oth) => va_P (dC, dI) vwCl [(h0, .inr (11, [.ref st, .int (nI N), .int (nI B), .ref rp, .int vrs, .int vrb, .int vhs, .int vca, .int vxs, .int vxb, .ref tp, .int (nI T), .int vfa, .int vbr, .int vba, .int vsp, .int vhe, .int vtk, .int vva, .ref cu, .ref lt, .ref od, .ref th, .ref be, .ref ln, .int (nI S), .ref ma, .int (nI M), .ref ah, .ref bh, .ref ik, .ref la, .ref lg, .ref ce, .int vto])), (st, .inl (G 0, 196, .inl fst)), (od, .inl (G 1, 10, .inr (.inl ood))), (th, .inl (G 1, 10, .inr (.inl oth)))] t.heap ∧ va_D A [(h0, .inr (11, [.ref st, .int (nI N), .int (nI B), .ref rp, .int vrs, .int vrb, .int vhs, .int vca, .int vxs, .int vxb, .ref tp, .int (nI T), .int vfa, .int vbr, .int vba, .int vsp, .int vhe, .int vtk, .int vva, .ref cu, .ref lt, .ref od, .ref th, .ref be, .ref ln, .int (nI S), .ref ma, .int (nI M), .ref ah, .ref bh, .ref ik, .ref la, .ref lg, .ref ce, .int vto])), (st, .inl (G 0, 196, .inl fst)), (od, .inl (G 1, 10, .inr (.inl ood))), (th, .inl (G 1, 10, .inr (.inl oth)))]) A) ([.ref h0, .int (nI nn), .int x1, .int x2] : List Value).toArray s 0 0 A) (F0 m 3 ls []) := by
    intro nf
    induction nf with
    | zero => intro j1 h1 h2; exact absurd h1 (by omega)
    | succ nf ih3_3 =>
      intro j1 hn4 hj5 g2 H locs hinv hP hD hS ls hl
      refine lv_iload hx hb dX11_layOdds_3 (lv_at hl 0 rfl) ?_
      refine lv_bipush (v := 10) hx hb dX11_layOdds_5 rfl ?_
      refine lv_icmp_ge (tgt := 37) hx hb dX11_layOdds_7 rfl (fun c6 => ?_) (fun c6 => ?_)
      · skip
        have tn2273_ : nIT j1 := fun _ => nI_toInt (by first | omega | (have t := leI c6; omega))
        have n7 : 10 ≤ j1 := by have t := leI c6; rw [show (nI (j1)).toInt = ((j1 : Nat) : Int) from tn2273_ ()] at t; have : (10 : Int32).toInt = 10 := qI_10; omega
        refine lv_iconst (v := 0) hx hb dX11_layOdds_37 rfl ?_
        refine lv_istore (lv' := [(4, .int 0), (0, .ref h0), (1, .int (nI nn)), (2, .int x1), (3, .int x2)]) hx hb dX11_layOdds_38 hl (by decide) rfl (fun ls hl => ?_)
        have loop40_11 : ∀ (nf j8 : Nat), nn + 1 ≤ j8 + nf → j8 ≤ nn → ∀ (g9 : Nat → Int64) (g10 : Nat → Int64) (H : Heap) (locs : List Loc), (∀ q9 : Nat, q9 < 10 → g9 q9 = odR (fun jb => rhO fst jb (qbF x1 jb)) (sdN fst) x2 j8 q9) → va_P (dC, dI) vwCl [(h0, .inr (11, [.ref st, .int (nI N), .int (nI B), .ref rp, .int vrs, .int vrb, .int vhs, .int vca, .int vxs, .int vxb, .ref tp, .int (nI T), .int vfa, .int vbr, .int vba, .int vsp, .int vhe, .int vtk, .int vva, .ref cu, .ref lt, .ref od, .ref th, .ref be, .ref ln, .int (nI S), .ref ma, .int (nI M), .ref ah, .ref bh, .ref ik, .ref la, .ref lg, .ref ce, .int vto])), (st, .inl (G 0, 196, .inl fst)), (od, .inl (G 1, 10, .inr (.inl g9))), (th, .inl (G 1, 10, .inr (.inl g10)))] H → va_D A [(h0, .inr (11, [.ref st, .int (nI N), .int (nI B), .ref rp, .int vrs, .int vrb, .int vhs, .int vca, .int vxs, .int vxb, .ref tp, .int (nI T), .int vfa, .int vbr, .int vba, .int vsp, .int vhe, .int vtk, .int vva, .ref cu, .ref lt, .ref od, .ref th, .ref be, .ref ln, .int (nI S), .ref ma, .int (nI M), .ref ah, .ref bh, .ref ik, .ref la, .ref lg, .ref ce, .int vto])), (st, .inl (G 0, 196, .inl fst)), (od, .inl (G 1, 10, .inr (.inl g9))), (th, .inl (G 1, 10, .inr (.inl g10)))] → va_S A s.heap H locs → ∀ (ls : Array Slot), lv_has ls 8 [(4, .int (nI j8)), (0, .ref h0), (1, .int (nI nn)), (2, .int x1), (3, .int x2)] → W p l e (headSpec (Cond.code yX11_layOdds cX11_layOdds 8 none :: GT) ({ frames := 3, cells := 0, slots := 0, locals := 72 } : Room)).room s m ([.ref h0, .int (nI nn), .int x1, .int x2] : List Value).toArray below meth c H locs 0 0 (MQ below (va_Qv (fun (u : (Nat → Int64) × (Nat → Int64)) => match u with | (ood, oth) => ∀ q9 : Nat, q9 < 10 → ood q9 = odR (fun jb => rhO fst jb (qbF x1 jb)) (sdN fst) x2 nn q9) (fun (u : (Nat → Int64) × (Nat → Int64)) (t : State) => match u with | (ood, oth) => va_P (dC, dI) vwCl [(h0, .inr (11, [.ref st, .int (nI N), .int (nI B), .ref rp, .int vrs, .int vrb, .int vhs, .int vca, .int vxs, .int vxb, .ref tp, .int (nI T), .int vfa, .int vbr, .int vba, .int vsp, .int vhe, .int vtk, .int vva, .ref cu, .ref lt, .ref od, .ref th, .ref be, .ref ln, .int (nI S), .ref ma, .int (nI M), .ref ah, .ref bh, .ref ik, .ref la, .ref lg, .ref ce, .int vto])), (st, .inl (G 0, 196, .inl fst)), (od, .inl (G 1, 10, .inr (.inl ood))), (th, .inl (G 1, 10, .inr (.inl oth)))] t.heap ∧ va_D A [(h0, .inr (11, [.ref st, .int (nI N), .int (nI B), .ref rp, .int vrs, .int vrb, .int vhs, .int vca, .int vxs, .int vxb, .ref tp, .int (nI T), .int vfa, .int vbr, .int vba, .int vsp, .int vhe, .int vtk, .int vva, .ref cu, .ref lt, .ref od, .ref th, .ref be, .ref ln, .int (nI S), .ref ma, .int (nI M), .ref ah, .ref bh, .ref ik, .ref la, .ref lg, .ref ce, .int vto])), (st, .inl (G 0, 196, .inl fst)), (od, .inl (G 1, 10, .inr (.inl ood))), (th, .inl (G 1, 10, .inr (.inl oth)))]) A) ([.ref h0, .int (nI nn), .int x1, .int x2] : List Value).toArray s 0 0 A) (F0 m 40 ls []) := by
          intro nf
          induction nf with
          | zero => intro j8 h1 h2; exact absurd h1 (by omega)
          | succ nf ih40_11 =>
            intro j8 hn12 hj13 g9 g10 H locs hinv hP hD hS ls hl
            refine lv_iload hx hb dX11_layOdds_40 (lv_at hl 0 rfl) ?_
            refine lv_iload_n hx hb dX11_layOdds_42 rfl (lv_at hl 2 rfl) ?_
            refine lv_icmp_ge (tgt := 231) hx hb dX11_layOdds_43 rfl (fun c14 => ?_) (fun c14 => ?_)
            · skip
              have tn2274_ : nIT j8 := fun _ => nI_toInt (by first | omega | (have t := leI c14; omega))
              have tn2275_ : nIT nn := fun _ => nI_toInt (by omega)
              have n15 : nn ≤ j8 := by have t := leI c14; rw [show (nI (j8)).toInt = ((j8 : Nat) : Int) from tn2274_ ()] at t; rw [show (nI (nn)).toInt = ((nn : Nat) : Int) from tn2275_ ()] at t; omega
              obtain ⟨hP9, hD9⟩ := va_sub2 (ws' := [(h0, .inr (11, [.ref st, .int (nI N), .int (nI B), .ref rp, .int vrs, .int vrb, .int vhs, .int vca, .int vxs, .int vxb, .ref tp, .int (nI T), .int vfa, .int vbr, .int vba, .int vsp, .int vhe, .int vtk, .int vva, .ref cu, .ref lt, .ref od, .ref th, .ref be, .ref ln, .int (nI S), .ref ma, .int (nI M), .ref ah, .ref bh, .ref ik, .ref la, .ref lg, .ref ce, .int vto])), (st, .inl (G 0, 196, .inl fst)), (od, .inl (G 1, 10, .inr (.inl g9))), (th, .inl (G 1, 10, .inr (.inl g10)))]) hP hD [0, 1, 2, 3] (by decide +kernel) rfl
              refine W.widen (k := 0) (n := 0) (Nat.le_of_ble_eq_true rfl) (Nat.le_of_ble_eq_true rfl) ?_
              exact W.vret hx hb hr (fun t ht hW => ⟨⟨(g9, g10), rfl, (fun q9 h9 => by have e9 := hinv q9 h9; rw [show j8 = nn by omega] at e9; exact e9), ⟨by rw [ht]; exact hP9, hD9⟩⟩, hS.F ht⟩) hS.2.2 dX11_layOdds_231
            · skip
              have tn2276_ : nIT j8 := fun _ => nI_toInt (by first | omega | (have t := nleI c14; omega))
              have tn2277_ : nIT nn := fun _ => nI_toInt (by omega)
              have n16 : j8 < nn := by have t := nleI c14; rw [show (nI (j8)).toInt = ((j8 : Nat) : Int) from tn2276_ ()] at t; rw [show (nI (nn)).toInt = ((nn : Nat) : Int) from tn2277_ ()] at t; omega
              refine lv_aload_n hx hb dX11_layOdds_46 rfl (lv_at hl 1 rfl) ?_
              refine lv_iload hx hb dX11_layOdds_47 (lv_at hl 0 rfl) ?_
              refine lv_iload_n hx hb dX11_layOdds_49 rfl (lv_at hl 3 rfl) ?_
              refine lv_iload hx hb dX11_layOdds_50 (lv_at hl 0 rfl) ?_
              refine lv_ishr hx hb dX11_layOdds_52 ?_
              refine lv_iconst (v := 1) hx hb dX11_layOdds_53 rfl ?_
              refine lv_iand hx hb dX11_layOdds_54 ?_
              refine lv_iconst (v := 1) hx hb dX11_layOdds_55 rfl ?_
              have cut64_18 : ∀ (y17 : Int32) (H : Heap) (locs : List Loc), y17 = qbF x1 j8 → va_P (dC, dI) vwCl [(h0, .inr (11, [.ref st, .int (nI N), .int (nI B), .ref rp, .int vrs, .int vrb, .int vhs, .int vca, .int vxs, .int vxb, .ref tp, .int (nI T), .int vfa, .int vbr, .int vba, .int vsp, .int vhe, .int vtk, .int vva, .ref cu, .ref lt, .ref od, .ref th, .ref be, .ref ln, .int (nI S), .ref ma, .int (nI M), .ref ah, .ref bh, .ref ik, .ref la, .ref lg, .ref ce, .int vto])), (st, .inl (G 0, 196, .inl fst)), (od, .inl (G 1, 10, .inr (.inl g9))), (th, .inl (G 1, 10, .inr (.inl g10)))] H → va_D A [(h0, .inr (11, [.ref st, .int (nI N), .int (nI B), .ref rp, .int vrs, .int vrb, .int vhs, .int vca, .int vxs, .int vxb, .ref tp, .int (nI T), .int vfa, .int vbr, .int vba, .int vsp, .int vhe, .int vtk, .int vva, .ref cu, .ref lt, .ref od, .ref th, .ref be, .ref ln, .int (nI S), .ref ma, .int (nI M), .ref ah, .ref bh, .ref ik, .ref la, .ref lg, .ref ce, .int vto])), (st, .inl (G 0, 196, .inl fst)), (od, .inl (G 1, 10, .inr (.inl g9))), (th, .inl (G 1, 10, .inr (.inl g10)))] → va_S A s.heap H locs → ∀ (ls : Array Slot), lv_has ls 8 [(4, .int (nI j8)), (0, .ref h0), (1, .int (nI nn)), (2, .int x1), (3, .int x2)] → W p l e (headSpec (Cond.code yX11_layOdds cX11_layOdds 8 none :: GT) ({ frames := 3, cells := 0, slots := 0, locals := 72 } : Room)).room s m ([.ref h0, .int (nI nn), .int x1, .int x2] : List Value).toArray below meth c H locs 0 0 (MQ below (va_Qv (fun (u : (Nat → Int64) × (Nat → Int64)) => match u with | (ood, oth) => ∀ q9 : Nat, q9 < 10 → ood q9 = odR (fun jb => rhO fst jb (qbF x1 jb)) (sdN fst) x2 nn q9) (fun (u : (Nat → Int64) × (Nat → Int64)) (t : State) => match u with | (ood, oth) => va_P (dC, dI) vwCl [(h0, .inr (11, [.ref st, .int (nI N), .int (nI B), .ref rp, .int vrs, .int vrb, .int vhs, .int vca, .int vxs, .int vxb, .ref tp, .int (nI T), .int vfa, .int vbr, .int vba, .int vsp, .int vhe, .int vtk, .int vva, .ref cu, .ref lt, .ref od, .ref th, .ref be, .ref ln, .int (nI S), .ref ma, .int (nI M), .ref ah, .ref bh, .ref ik, .ref la, .ref lg, .ref ce, .int vto])), (st, .inl (G 0, 196, .inl fst)), (od, .inl (G 1, 10, .inr (.inl ood))), (th, .inl (G 1, 10, .inr (.inl oth)))] t.heap ∧ va_D A [(h0, .inr (11, [.ref st, .int (nI N), .int (nI B), .ref rp, .int vrs, .int vrb, .int vhs, .int vca, .int vxs, .int vxb, .ref tp, .int (nI T), .int vfa, .int vbr, .int vba, .int vsp, .int vhe, .int vtk, .int vva, .ref cu, .ref lt, .ref od, .ref th, .ref be, .ref ln, .int (nI S), .ref ma, .int (nI M), .ref ah, .ref bh, .ref ik, .ref la, .ref lg, .ref ce, .int vto])), (st, .inl (G 0, 196, .inl fst)), (od, .inl (G 1, 10, .inr (.inl ood))), (th, .inl (G 1, 10, .inr (.inl oth)))]) A) ([.ref h0, .int (nI nn), .int x1, .int x2] : List Value).toArray s 0 0 A) (F0 m 64 ls [.int y17, .int (nI j8), .ref h0]) := by
                intro y17 H locs hcut hP hD hS ls hl
                subst hcut
                have hPc := hP.sub (ws' := [(h0, .inr (11, [.ref st, .int (nI N), .int (nI B), .ref rp, .int vrs, .int vrb, .int vhs, .int vca, .int vxs, .int vxb, .ref tp, .int (nI T), .int vfa, .int vbr, .int vba, .int vsp, .int vhe, .int vtk, .int vva, .ref cu, .ref lt, .ref od, .ref th, .ref be, .ref ln, .int (nI S), .ref ma, .int (nI M), .ref ah, .ref bh, .ref ik, .ref la, .ref lg, .ref ce, .int vto])), (st, .inl (G 0, 196, .inl fst))]) [0, 1] rfl
                refine va_calli (va_runV (As := [.int (nI j8), .int (qbF x1 j8)]) (rest := []) ⟨hx, hb, hml, hown, hg⟩ (c_X11_orderedHarmE l dC dI G _ h0 j8 st N B rp tp T cu lt od th be ln S ma M ah bh ik la lg ce (qbF x1 j8) vrs vrb vhs vca vxs vxb vfa vbr vba vsp vhe vtk vva vto fst hN hB_ hT_ hS0 hM_ (by first | omega | (have t_hj5 := hj5; have t_n7 := n7; have t_hj13 := hj13; have t_n16 := n16; have tnb_ := nib8 tn2277_ tn2268_ tn2269_ tn2270_ tn2271_ tn2272_ tn2273_ tn2276_; omega)) hst) (kwV hg mfX11_orderedHarm wt_1123 ⟨Nat.le_of_ble_eq_true rfl, Nat.le_of_ble_eq_true rfl⟩) (preVR hK hPc (ci := 11) (r := (RX11, TX11, 35)) rfl rfl) rfl rfl hl.1 rfl (lv_room (Nat.le_of_ble_eq_true rfl)) dX11_layOdds_64 ⟨Nat.le_of_ble_eq_true rfl, Nat.le_of_ble_eq_true rfl⟩) hS (fun q h1 h2 => absurd h2 (Nat.not_le.mpr h1)) (fun q h => hA q (Nat.le_trans hS.1 h)) (fun r19 ur19 t H1 locs ht hvm w20 hB hz1 hk1 hS => ?_)
                have hP := keepR hP hk1
                obtain ⟨w20, w20x⟩ := w20
                subst w20
                refine lv_istore (lv' := [(5, .int (rhO fst j8 (qbF x1 j8))), (4, .int (nI j8)), (0, .ref h0), (1, .int (nI nn)), (2, .int x1), (3, .int x2)]) hx hb dX11_layOdds_67 hl (by decide) rfl (fun ls hl => ?_)
                have hO9 := hinv
                refine lv_iconst (v := 0) hx hb dX11_layOdds_69 rfl ?_
                refine lv_istore (lv' := [(6, .int 0), (5, .int (rhO fst j8 (qbF x1 j8))), (4, .int (nI j8)), (0, .ref h0), (1, .int (nI nn)), (2, .int x1), (3, .int x2)]) hx hb dX11_layOdds_70 hl (by decide) rfl (fun ls hl => ?_)
                have loop72_23 : ∀ (nf j21 : Nat), 10 + 1 ≤ j21 + nf → j21 ≤ 10 → ∀ (g22 : Nat → Int64) (H : Heap) (locs : List Loc), (∀ q9 : Nat, q9 < j21 → g22 q9 = 0) → va_P (dC, dI) vwCl [(h0, .inr (11, [.ref st, .int (nI N), .int (nI B), .ref rp, .int vrs, .int vrb, .int vhs, .int vca, .int vxs, .int vxb, .ref tp, .int (nI T), .int vfa, .int vbr, .int vba, .int vsp, .int vhe, .int vtk, .int vva, .ref cu, .ref lt, .ref od, .ref th, .ref be, .ref ln, .int (nI S), .ref ma, .int (nI M), .ref ah, .ref bh, .ref ik, .ref la, .ref lg, .ref ce, .int vto])), (st, .inl (G 0, 196, .inl fst)), (od, .inl (G 1, 10, .inr (.inl g9))), (th, .inl (G 1, 10, .inr (.inl g22)))] H → va_D A [(h0, .inr (11, [.ref st, .int (nI N), .int (nI B), .ref rp, .int vrs, .int vrb, .int vhs, .int vca, .int vxs, .int vxb, .ref tp, .int (nI T), .int vfa, .int vbr, .int vba, .int vsp, .int vhe, .int vtk, .int vva, .ref cu, .ref lt, .ref od, .ref th, .ref be, .ref ln, .int (nI S), .ref ma, .int (nI M), .ref ah, .ref bh, .ref ik, .ref la, .ref lg, .ref ce, .int vto])), (st, .inl (G 0, 196, .inl fst)), (od, .inl (G 1, 10, .inr (.inl g9))), (th, .inl (G 1, 10, .inr (.inl g22)))] → va_S A s.heap H locs → ∀ (ls : Array Slot), lv_has ls 8 [(6, .int (nI j21)), (5, .int (rhO fst j8 (qbF x1 j8))), (4, .int (nI j8)), (0, .ref h0), (1, .int (nI nn)), (2, .int x1), (3, .int x2)] → W p l e (headSpec (Cond.code yX11_layOdds cX11_layOdds 8 none :: GT) ({ frames := 3, cells := 0, slots := 0, locals := 72 } : Room)).room s m ([.ref h0, .int (nI nn), .int x1, .int x2] : List Value).toArray below meth c H locs 0 0 (MQ below (va_Qv (fun (u : (Nat → Int64) × (Nat → Int64)) => match u with | (ood, oth) => ∀ q9 : Nat, q9 < 10 → ood q9 = odR (fun jb => rhO fst jb (qbF x1 jb)) (sdN fst) x2 nn q9) (fun (u : (Nat → Int64) × (Nat → Int64)) (t : State) => match u with | (ood, oth) => va_P (dC, dI) vwCl [(h0, .inr (11, [.ref st, .int (nI N), .int (nI B), .ref rp, .int vrs, .int vrb, .int vhs, .int vca, .int vxs, .int vxb, .ref tp, .int (nI T), .int vfa, .int vbr, .int vba, .int vsp, .int vhe, .int vtk, .int vva, .ref cu, .ref lt, .ref od, .ref th, .ref be, .ref ln, .int (nI S), .ref ma, .int (nI M), .ref ah, .ref bh, .ref ik, .ref la, .ref lg, .ref ce, .int vto])), (st, .inl (G 0, 196, .inl fst)), (od, .inl (G 1, 10, .inr (.inl ood))), (th, .inl (G 1, 10, .inr (.inl oth)))] t.heap ∧ va_D A [(h0, .inr (11, [.ref st, .int (nI N), .int (nI B), .ref rp, .int vrs, .int vrb, .int vhs, .int vca, .int vxs, .int vxb, .ref tp, .int (nI T), .int vfa, .int vbr, .int vba, .int vsp, .int vhe, .int vtk, .int vva, .ref cu, .ref lt, .ref od, .ref th, .ref be, .ref ln, .int (nI S), .ref ma, .int (nI M), .ref ah, .ref bh, .ref ik, .ref la, .ref lg, .ref ce, .int vto])), (st, .inl (G 0, 196, .inl fst)), (od, .inl (G 1, 10, .inr (.inl ood))), (th, .inl (G 1, 10, .inr (.inl oth)))]) A) ([.ref h0, .int (nI nn), .int x1, .int x2] : List Value).toArray s 0 0 A) (F0 m 72 ls []) := by
                  intro nf
                  induction nf with
                  | zero => intro j21 h1 h2; exact absurd h1 (by omega)
                  | succ nf ih72_23 =>
                    intro j21 hn24 hj25 g22 H locs hinv hP hD hS ls hl
                    refine lv_iload hx hb dX11_layOdds_72 (lv_at hl 0 rfl) ?_
                    refine lv_bipush (v := 10) hx hb dX11_layOdds_74 rfl ?_
                    refine lv_icmp_ge (tgt := 93) hx hb dX11_layOdds_76 rfl (fun c26 => ?_) (fun c26 => ?_)
                    · skip
                      have tn2278_ : nIT j21 := fun _ => nI_toInt (by first | omega | (have t := leI c26; omega))
                      have n27 : 10 ≤ j21 := by have t := leI c26; rw [show (nI (j21)).toInt = ((j21 : Nat) : Int) from tn2278_ ()] at t; have : (10 : Int32).toInt = 10 := qI_10; omega
                      have hZ9 : ∀ q9 : Nat, q9 < 10 → g22 q9 = 0 := fun q9 h9 => hinv q9 (by omega)
                      refine lv_aload_n hx hb dX11_layOdds_93 rfl (lv_at hl 3 rfl) ?_
                      refine va_get (D := (dC, dI)) (ci := 11) (v := .ref th) (C := RX11) (T := TX11) (N := 35) hx hb hg inG11 hown hK.1 hP 0 rfl rfl 22 (Nat.le_of_ble_eq_true rfl) (hg _ wt_900) (fun _ h9 => h9) rfl dX11_layOdds_94 ?_
                      refine lv_iconst (v := 0) hx hb dX11_layOdds_97 rfl ?_
                      refine lv_ldc2 (v := 20) hx hb hown (hg _ wt_1127) dX11_layOdds_98 ?_
                      refine lv_aload_n hx hb dX11_layOdds_101 rfl (lv_at hl 3 rfl) ?_
                      refine va_get (D := (dC, dI)) (ci := 11) (v := .ref od) (C := RX11) (T := TX11) (N := 35) hx hb hg inG11 hown hK.1 hP 0 rfl rfl 21 (Nat.le_of_ble_eq_true rfl) (hg _ wt_899) (fun _ h9 => h9) rfl dX11_layOdds_102 ?_
                      refine lv_iconst (v := 0) hx hb dX11_layOdds_105 rfl ?_
                      refine va_lald hx hb hK.1 hP 2 1 rfl rfl (vp_in_iff.mpr ⟨by decide, by decide⟩) dX11_layOdds_106 ?_
                      refine lv_cgl (y := g9 0) (by rfl) ?_
                      refine lv_lmul hx hb dX11_layOdds_107 ?_
                      refine va_last hx hb hK.1 hP hD hS 3 1 rfl rfl (vp_in_iff.mpr ⟨by decide, by decide⟩) dX11_layOdds_108 (fun H locs hP hD hS => ?_)
                      refine lv_iconst (v := 1) hx hb dX11_layOdds_109 rfl ?_
                      refine lv_istore (lv' := [(6, .int 1), (5, .int (rhO fst j8 (qbF x1 j8))), (4, .int (nI j8)), (0, .ref h0), (1, .int (nI nn)), (2, .int x1), (3, .int x2)]) hx hb dX11_layOdds_110 hl (by decide) rfl (fun ls hl => ?_)
                      have loop112_30 : ∀ (nf j28 : Nat), 10 + 1 ≤ j28 + nf → j28 ≤ 10 → 1 ≤ j28 → ∀ (g29 : Nat → Int64) (H : Heap) (locs : List Loc), (∀ q9 : Nat, q9 < 10 → g29 q9 = psR (decide (nI j8 = x2)) (rhO fst j8 (qbF x1 j8)) g9 (j28 - 1) q9) → va_P (dC, dI) vwCl [(h0, .inr (11, [.ref st, .int (nI N), .int (nI B), .ref rp, .int vrs, .int vrb, .int vhs, .int vca, .int vxs, .int vxb, .ref tp, .int (nI T), .int vfa, .int vbr, .int vba, .int vsp, .int vhe, .int vtk, .int vva, .ref cu, .ref lt, .ref od, .ref th, .ref be, .ref ln, .int (nI S), .ref ma, .int (nI M), .ref ah, .ref bh, .ref ik, .ref la, .ref lg, .ref ce, .int vto])), (st, .inl (G 0, 196, .inl fst)), (od, .inl (G 1, 10, .inr (.inl g9))), (th, .inl (G 1, 10, .inr (.inl g29)))] H → va_D A [(h0, .inr (11, [.ref st, .int (nI N), .int (nI B), .ref rp, .int vrs, .int vrb, .int vhs, .int vca, .int vxs, .int vxb, .ref tp, .int (nI T), .int vfa, .int vbr, .int vba, .int vsp, .int vhe, .int vtk, .int vva, .ref cu, .ref lt, .ref od, .ref th, .ref be, .ref ln, .int (nI S), .ref ma, .int (nI M), .ref ah, .ref bh, .ref ik, .ref la, .ref lg, .ref ce, .int vto])), (st, .inl (G 0, 196, .inl fst)), (od, .inl (G 1, 10, .inr (.inl g9))), (th, .inl (G 1, 10, .inr (.inl g29)))] → va_S A s.heap H locs → ∀ (ls : Array Slot), lv_has ls 8 [(6, .int (nI j28)), (5, .int (rhO fst j8 (qbF x1 j8))), (4, .int (nI j8)), (0, .ref h0), (1, .int (nI nn)), (2, .int x1), (3, .int x2)] → W p l e (headSpec (Cond.code yX11_layOdds cX11_layOdds 8 none :: GT) ({ frames := 3, cells := 0, slots := 0, locals := 72 } : Room)).room s m ([.ref h0, .int (nI nn), .int x1, .int x2] : List Value).toArray below meth c H locs 0 0 (MQ below (va_Qv (fun (u : (Nat → Int64) × (Nat → Int64)) => match u with | (ood, oth) => ∀ q9 : Nat, q9 < 10 → ood q9 = odR (fun jb => rhO fst jb (qbF x1 jb)) (sdN fst) x2 nn q9) (fun (u : (Nat → Int64) × (Nat → Int64)) (t : State) => match u with | (ood, oth) => va_P (dC, dI) vwCl [(h0, .inr (11, [.ref st, .int (nI N), .int (nI B), .ref rp, .int vrs, .int vrb, .int vhs, .int vca, .int vxs, .int vxb, .ref tp, .int (nI T), .int vfa, .int vbr, .int vba, .int vsp, .int vhe, .int vtk, .int vva, .ref cu, .ref lt, .ref od, .ref th, .ref be, .ref ln, .int (nI S), .ref ma, .int (nI M), .ref ah, .ref bh, .ref ik, .ref la, .ref lg, .ref ce, .int vto])), (st, .inl (G 0, 196, .inl fst)), (od, .inl (G 1, 10, .inr (.inl ood))), (th, .inl (G 1, 10, .inr (.inl oth)))] t.heap ∧ va_D A [(h0, .inr (11, [.ref st, .int (nI N), .int (nI B), .ref rp, .int vrs, .int vrb, .int vhs, .int vca, .int vxs, .int vxb, .ref tp, .int (nI T), .int vfa, .int vbr, .int vba, .int vsp, .int vhe, .int vtk, .int vva, .ref cu, .ref lt, .ref od, .ref th, .ref be, .ref ln, .int (nI S), .ref ma, .int (nI M), .ref ah, .ref bh, .ref ik, .ref la, .ref lg, .ref ce, .int vto])), (st, .inl (G 0, 196, .inl fst)), (od, .inl (G 1, 10, .inr (.inl ood))), (th, .inl (G 1, 10, .inr (.inl oth)))]) A) ([.ref h0, .int (nI nn), .int x1, .int x2] : List Value).toArray s 0 0 A) (F0 m 112 ls []) := by
                        intro nf
                        induction nf with
                        | zero => intro j28 h1 h2; exact absurd h1 (by omega)
                        | succ nf ih112_30 =>
                          intro j28 hn31 hj32 hlo_j28 g29 H locs hinv hP hD hS ls hl
                          refine lv_iload hx hb dX11_layOdds_112 (lv_at hl 0 rfl) ?_
                          refine lv_bipush (v := 10) hx hb dX11_layOdds_114 rfl ?_
                          refine lv_icmp_ge (tgt := 195) hx hb dX11_layOdds_116 rfl (fun c33 => ?_) (fun c33 => ?_)
                          · skip
                            have tn2279_ : nIT j28 := fun _ => nI_toInt (by first | omega | (have t := leI c33; omega))
                            have n34 : 10 ≤ j28 := by have t := leI c33; rw [show (nI (j28)).toInt = ((j28 : Nat) : Int) from tn2279_ ()] at t; have : (10 : Int32).toInt = 10 := qI_10; omega
                            have hP9 : ∀ q9 : Nat, q9 < 10 → g29 q9 = psR (decide (nI j8 = x2)) (rhO fst j8 (qbF x1 j8)) g9 9 q9 := fun q9 h9 => by have e9 := hinv q9 h9; rw [show j28 - 1 = 9 by omega] at e9; exact e9
                            refine lv_iconst (v := 0) hx hb dX11_layOdds_195 rfl ?_
                            refine lv_istore (lv' := [(6, .int 0), (5, .int (rhO fst j8 (qbF x1 j8))), (4, .int (nI j8)), (0, .ref h0), (1, .int (nI nn)), (2, .int x1), (3, .int x2)]) hx hb dX11_layOdds_196 hl (by decide) rfl (fun ls hl => ?_)
                            have loop198_37 : ∀ (nf j35 : Nat), 10 + 1 ≤ j35 + nf → j35 ≤ 10 → ∀ (g36 : Nat → Int64) (H : Heap) (locs : List Loc), (∀ q9 : Nat, q9 < j35 → g36 q9 = g29 q9) → va_P (dC, dI) vwCl [(h0, .inr (11, [.ref st, .int (nI N), .int (nI B), .ref rp, .int vrs, .int vrb, .int vhs, .int vca, .int vxs, .int vxb, .ref tp, .int (nI T), .int vfa, .int vbr, .int vba, .int vsp, .int vhe, .int vtk, .int vva, .ref cu, .ref lt, .ref od, .ref th, .ref be, .ref ln, .int (nI S), .ref ma, .int (nI M), .ref ah, .ref bh, .ref ik, .ref la, .ref lg, .ref ce, .int vto])), (st, .inl (G 0, 196, .inl fst)), (od, .inl (G 1, 10, .inr (.inl g36))), (th, .inl (G 1, 10, .inr (.inl g29)))] H → va_D A [(h0, .inr (11, [.ref st, .int (nI N), .int (nI B), .ref rp, .int vrs, .int vrb, .int vhs, .int vca, .int vxs, .int vxb, .ref tp, .int (nI T), .int vfa, .int vbr, .int vba, .int vsp, .int vhe, .int vtk, .int vva, .ref cu, .ref lt, .ref od, .ref th, .ref be, .ref ln, .int (nI S), .ref ma, .int (nI M), .ref ah, .ref bh, .ref ik, .ref la, .ref lg, .ref ce, .int vto])), (st, .inl (G 0, 196, .inl fst)), (od, .inl (G 1, 10, .inr (.inl g36))), (th, .inl (G 1, 10, .inr (.inl g29)))] → va_S A s.heap H locs → ∀ (ls : Array Slot), lv_has ls 8 [(6, .int (nI j35)), (5, .int (rhO fst j8 (qbF x1 j8))), (4, .int (nI j8)), (0, .ref h0), (1, .int (nI nn)), (2, .int x1), (3, .int x2)] → W p l e (headSpec (Cond.code yX11_layOdds cX11_layOdds 8 none :: GT) ({ frames := 3, cells := 0, slots := 0, locals := 72 } : Room)).room s m ([.ref h0, .int (nI nn), .int x1, .int x2] : List Value).toArray below meth c H locs 0 0 (MQ below (va_Qv (fun (u : (Nat → Int64) × (Nat → Int64)) => match u with | (ood, oth) => ∀ q9 : Nat, q9 < 10 → ood q9 = odR (fun jb => rhO fst jb (qbF x1 jb)) (sdN fst) x2 nn q9) (fun (u : (Nat → Int64) × (Nat → Int64)) (t : State) => match u with | (ood, oth) => va_P (dC, dI) vwCl [(h0, .inr (11, [.ref st, .int (nI N), .int (nI B), .ref rp, .int vrs, .int vrb, .int vhs, .int vca, .int vxs, .int vxb, .ref tp, .int (nI T), .int vfa, .int vbr, .int vba, .int vsp, .int vhe, .int vtk, .int vva, .ref cu, .ref lt, .ref od, .ref th, .ref be, .ref ln, .int (nI S), .ref ma, .int (nI M), .ref ah, .ref bh, .ref ik, .ref la, .ref lg, .ref ce, .int vto])), (st, .inl (G 0, 196, .inl fst)), (od, .inl (G 1, 10, .inr (.inl ood))), (th, .inl (G 1, 10, .inr (.inl oth)))] t.heap ∧ va_D A [(h0, .inr (11, [.ref st, .int (nI N), .int (nI B), .ref rp, .int vrs, .int vrb, .int vhs, .int vca, .int vxs, .int vxb, .ref tp, .int (nI T), .int vfa, .int vbr, .int vba, .int vsp, .int vhe, .int vtk, .int vva, .ref cu, .ref lt, .ref od, .ref th, .ref be, .ref ln, .int (nI S), .ref ma, .int (nI M), .ref ah, .ref bh, .ref ik, .ref la, .ref lg, .ref ce, .int vto])), (st, .inl (G 0, 196, .inl fst)), (od, .inl (G 1, 10, .inr (.inl ood))), (th, .inl (G 1, 10, .inr (.inl oth)))]) A) ([.ref h0, .int (nI nn), .int x1, .int x2] : List Value).toArray s 0 0 A) (F0 m 198 ls []) := by
                              intro nf
                              induction nf with
                              | zero => intro j35 h1 h2; exact absurd h1 (by omega)
                              | succ nf ih198_37 =>
                                intro j35 hn38 hj39 g36 H locs hinv hP hD hS ls hl
                                refine lv_iload hx hb dX11_layOdds_198 (lv_at hl 0 rfl) ?_
                                refine lv_bipush (v := 10) hx hb dX11_layOdds_200 rfl ?_
                                refine lv_icmp_ge (tgt := 225) hx hb dX11_layOdds_202 rfl (fun c40 => ?_) (fun c40 => ?_)
                                · skip
                                  have tn2280_ : nIT j35 := fun _ => nI_toInt (by first | omega | (have t := leI c40; omega))
                                  have n41 : 10 ≤ j35 := by have t := leI c40; rw [show (nI (j35)).toInt = ((j35 : Nat) : Int) from tn2280_ ()] at t; have : (10 : Int32).toInt = 10 := qI_10; omega
                                  refine lv_iinc (v := nI (j8 + 1)) (lv' := [(4, .int (nI (j8 + 1))), (6, .int (nI j35)), (5, .int (rhO fst j8 (qbF x1 j8))), (0, .ref h0), (1, .int (nI nn)), (2, .int x1), (3, .int x2)]) hx hb dX11_layOdds_225 hl (k := 2) rfl (by rw [show Int32.ofInt 1 = nI 1 from by decide]; exact nI_add _ _) (by decide) rfl (fun ls hl => ?_)
                                  refine lv_goto (tgt := 40) hx hb dX11_layOdds_228 rfl ?_
                                  exact ih40_11 (j8 + 1) (by omega) (by omega) g36 g29 _ _ (or_step (H := (fun jb => rhO fst jb (qbF x1 jb))) hO9 hP9 (fun q9 h9 => hinv q9 (by omega))) hP hD hS ls (lv_sub hl [0, 3, 4, 5, 6] rfl)
                                · skip
                                  have tn2281_ : nIT j35 := fun _ => nI_toInt (by first | omega | (have t := nleI c40; omega))
                                  have n42 : j35 < 10 := by have t := nleI c40; rw [show (nI (j35)).toInt = ((j35 : Nat) : Int) from tn2281_ ()] at t; have : (10 : Int32).toInt = 10 := qI_10; omega
                                  refine lv_aload_n hx hb dX11_layOdds_205 rfl (lv_at hl 3 rfl) ?_
                                  refine va_get (D := (dC, dI)) (ci := 11) (v := .ref od) (C := RX11) (T := TX11) (N := 35) hx hb hg inG11 hown hK.1 hP 0 rfl rfl 21 (Nat.le_of_ble_eq_true rfl) (hg _ wt_899) (fun _ h9 => h9) rfl dX11_layOdds_206 ?_
                                  refine lv_iload hx hb dX11_layOdds_209 (lv_at hl 0 rfl) ?_
                                  refine lv_aload_n hx hb dX11_layOdds_211 rfl (lv_at hl 3 rfl) ?_
                                  refine va_get (D := (dC, dI)) (ci := 11) (v := .ref th) (C := RX11) (T := TX11) (N := 35) hx hb hg inG11 hown hK.1 hP 0 rfl rfl 22 (Nat.le_of_ble_eq_true rfl) (hg _ wt_900) (fun _ h9 => h9) rfl dX11_layOdds_212 ?_
                                  refine lv_iload hx hb dX11_layOdds_215 (lv_at hl 0 rfl) ?_
                                  refine va_lald hx hb hK.1 hP 3 1 rfl rfl (vp_in_nI (by first | omega | (have t_hj5 := hj5; have t_n7 := n7; have t_hj13 := hj13; have t_n16 := n16; have t_hj25 := hj25; have t_n27 := n27; have t_hj32 := hj32; have t_hlo_j28 := hlo_j28; have t_n34 := n34; have t_hj39 := hj39; have t_n42 := n42; have tnb_ := nib11 tn2277_ tn2268_ tn2269_ tn2270_ tn2271_ tn2272_ tn2273_ tn2276_ tn2278_ tn2279_ tn2281_; omega)) (by decide)) dX11_layOdds_217 ?_
                                  refine lv_cgl (y := g29 j35) (by rw [nI_clamp (by omega)]) ?_
                                  refine va_last hx hb hK.1 hP hD hS 2 1 rfl rfl (vp_in_nI (by first | omega | (have t_hj5 := hj5; have t_n7 := n7; have t_hj13 := hj13; have t_n16 := n16; have t_hj25 := hj25; have t_n27 := n27; have t_hj32 := hj32; have t_hlo_j28 := hlo_j28; have t_n34 := n34; have t_hj39 := hj39; have t_n42 := n42; have tnb_ := nib11 tn2277_ tn2268_ tn2269_ tn2270_ tn2271_ tn2272_ tn2273_ tn2276_ tn2278_ tn2279_ tn2281_; omega)) (by decide)) dX11_layOdds_218 (fun H locs hP hD hS => ?_)
                                  rw [nI_clamp (by omega)] at hP hD
                                  refine lv_iinc (v := nI (j35 + 1)) (lv' := [(6, .int (nI (j35 + 1))), (5, .int (rhO fst j8 (qbF x1 j8))), (4, .int (nI j8)), (0, .ref h0), (1, .int (nI nn)), (2, .int x1), (3, .int x2)]) hx hb dX11_layOdds_219 hl (k := 0) rfl (by rw [show Int32.ofInt 1 = nI 1 from by decide]; exact nI_add _ _) (by decide) rfl (fun ls hl => ?_)
                                  refine lv_goto (tgt := 198) hx hb dX11_layOdds_222 rfl ?_
                                  exact ih198_37 (j35 + 1) (by omega) (by omega) (vp_updL g36 j35 (g29 j35)) _ _ (cp_step hinv) hP hD hS ls (lv_sub hl [0, 1, 2, 3, 4, 5, 6] rfl)
                            exact loop198_37 (10 + 1) 0 (by omega) (by omega) g9 _ _ (fun q9 h9 => absurd h9 (Nat.not_lt_zero _)) hP hD hS ls (lv_sub hl [0, 1, 2, 3, 4, 5, 6] rfl)
                          · skip
                            have tn2282_ : nIT j28 := fun _ => nI_toInt (by first | omega | (have t := nleI c33; omega))
                            have n43 : j28 < 10 := by have t := nleI c33; rw [show (nI (j28)).toInt = ((j28 : Nat) : Int) from tn2282_ ()] at t; have : (10 : Int32).toInt = 10 := qI_10; omega
                            refine lv_iload hx hb dX11_layOdds_119 (lv_at hl 2 rfl) ?_
                            refine lv_iload_n hx hb dX11_layOdds_121 rfl (lv_at hl 6 rfl) ?_
                            refine lv_icmp_ne (tgt := 134) hx hb dX11_layOdds_122 rfl (fun c44 => ?_) (fun c44 => ?_)
                            · skip
                              refine lv_iload hx hb dX11_layOdds_134 (lv_at hl 0 rfl) ?_
                              refine lv_istore (lv' := [(7, .int (nI j28)), (6, .int (nI j28)), (5, .int (rhO fst j8 (qbF x1 j8))), (4, .int (nI j8)), (0, .ref h0), (1, .int (nI nn)), (2, .int x1), (3, .int x2)]) hx hb dX11_layOdds_136 hl (by decide) rfl (fun ls hl => ?_)
                              refine lv_aload_n hx hb dX11_layOdds_138 rfl (lv_at hl 4 rfl) ?_
                              refine va_get (D := (dC, dI)) (ci := 11) (v := .ref th) (C := RX11) (T := TX11) (N := 35) hx hb hg inG11 hown hK.1 hP 0 rfl rfl 22 (Nat.le_of_ble_eq_true rfl) (hg _ wt_900) (fun _ h9 => h9) rfl dX11_layOdds_139 ?_
                              refine lv_iload hx hb dX11_layOdds_142 (lv_at hl 0 rfl) ?_
                              refine lv_iconst (v := 1) hx hb dX11_layOdds_144 rfl ?_
                              refine lv_isub hx hb dX11_layOdds_145 ?_
                              refine lv_cg (y := nI (j28 - 1)) (by rw [show (1 : Int32) = nI 1 from rfl]; exact pk_sub (by have t_hj5 := hj5; have t_n7 := n7; have t_hj13 := hj13; have t_n16 := n16; have t_hj25 := hj25; have t_n27 := n27; have t_hj32 := hj32; have t_hlo_j28 := hlo_j28; have t_n43 := n43; have t_c44 := neI c44; have tnb_ := nib10 tn2277_ tn2268_ tn2269_ tn2270_ tn2271_ tn2272_ tn2273_ tn2276_ tn2278_ tn2282_; omega)) ?_
                              refine lv_dup2_11 hx hb dX11_layOdds_146 rfl rfl ?_
                              refine va_lald hx hb hK.1 hP 3 1 rfl rfl (vp_in_nI (by first | omega | (have t_hj5 := hj5; have t_n7 := n7; have t_hj13 := hj13; have t_n16 := n16; have t_hj25 := hj25; have t_n27 := n27; have t_hj32 := hj32; have t_hlo_j28 := hlo_j28; have t_n43 := n43; have t_c44 := neI c44; have tnb_ := nib10 tn2277_ tn2268_ tn2269_ tn2270_ tn2271_ tn2272_ tn2273_ tn2276_ tn2278_ tn2282_; omega)) (by decide)) dX11_layOdds_147 ?_
                              refine lv_cgl (y := g29 (j28 - 1)) (by rw [nI_clamp (by omega)]) ?_
                              refine lv_iload hx hb dX11_layOdds_148 (lv_at hl 2 rfl) ?_
                              refine lv_i2l (v := (rhO fst j8 (qbF x1 j8)).toInt64) hx hb dX11_layOdds_150 rfl ?_
                              refine lv_aload_n hx hb dX11_layOdds_151 rfl (lv_at hl 4 rfl) ?_
                              refine va_get (D := (dC, dI)) (ci := 11) (v := .ref od) (C := RX11) (T := TX11) (N := 35) hx hb hg inG11 hown hK.1 hP 0 rfl rfl 21 (Nat.le_of_ble_eq_true rfl) (hg _ wt_899) (fun _ h9 => h9) rfl dX11_layOdds_152 ?_
                              refine lv_iload hx hb dX11_layOdds_155 (lv_at hl 1 rfl) ?_
                              refine va_lald hx hb hK.1 hP 2 1 rfl rfl (vp_in_nI (by first | omega | (have t_hj5 := hj5; have t_n7 := n7; have t_hj13 := hj13; have t_n16 := n16; have t_hj25 := hj25; have t_n27 := n27; have t_hj32 := hj32; have t_hlo_j28 := hlo_j28; have t_n43 := n43; have t_c44 := neI c44; have tnb_ := nib10 tn2277_ tn2268_ tn2269_ tn2270_ tn2271_ tn2272_ tn2273_ tn2276_ tn2278_ tn2282_; omega)) (by decide)) dX11_layOdds_157 ?_
                              refine lv_cgl (y := g9 j28) (by rw [nI_clamp (by omega)]) ?_
                              refine lv_lmul hx hb dX11_layOdds_158 ?_
                              refine lv_ladd hx hb dX11_layOdds_159 ?_
                              refine va_last hx hb hK.1 hP hD hS 3 1 rfl rfl (vp_in_nI (by first | omega | (have t_hj5 := hj5; have t_n7 := n7; have t_hj13 := hj13; have t_n16 := n16; have t_hj25 := hj25; have t_n27 := n27; have t_hj32 := hj32; have t_hlo_j28 := hlo_j28; have t_n43 := n43; have t_c44 := neI c44; have tnb_ := nib10 tn2277_ tn2268_ tn2269_ tn2270_ tn2271_ tn2272_ tn2273_ tn2276_ tn2278_ tn2282_; omega)) (by decide)) dX11_layOdds_160 (fun H locs hP hD hS => ?_)
                              rw [nI_clamp (by omega)] at hP hD
                              refine lv_aload_n hx hb dX11_layOdds_161 rfl (lv_at hl 4 rfl) ?_
                              refine va_get (D := (dC, dI)) (ci := 11) (v := .ref th) (C := RX11) (T := TX11) (N := 35) hx hb hg inG11 hown hK.1 hP 0 rfl rfl 22 (Nat.le_of_ble_eq_true rfl) (hg _ wt_900) (fun _ h9 => h9) rfl dX11_layOdds_162 ?_
                              refine lv_iload hx hb dX11_layOdds_165 (lv_at hl 0 rfl) ?_
                              refine lv_iconst (v := 1) hx hb dX11_layOdds_167 rfl ?_
                              have hPc := hP.sub (ws' := []) [] rfl
                              refine va_calli (va_runS (As := [.int (nI j28), .int 1]) (rest := [.ref th]) ⟨hx, hb, hml, hown, hg⟩ (c_X11_deeper l dC dI G _ j28 1 (by first | omega | (have t_hj5 := hj5; have t_n7 := n7; have t_hj13 := hj13; have t_n16 := n16; have t_hj25 := hj25; have t_n27 := n27; have t_hj32 := hj32; have t_hlo_j28 := hlo_j28; have t_n43 := n43; have t_c44 := neI c44; have tnb_ := nib10 tn2277_ tn2268_ tn2269_ tn2270_ tn2271_ tn2272_ tn2273_ tn2276_ tn2278_ tn2282_; have : (1 : Int32).toInt = 1 := qI_1; omega)) (by first | omega | (have t_hj5 := hj5; have t_n7 := n7; have t_hj13 := hj13; have t_n16 := n16; have t_hj25 := hj25; have t_n27 := n27; have t_hj32 := hj32; have t_hlo_j28 := hlo_j28; have t_n43 := n43; have t_c44 := neI c44; have tnb_ := nib10 tn2277_ tn2268_ tn2269_ tn2270_ tn2271_ tn2272_ tn2273_ tn2276_ tn2278_ tn2282_; have : (1 : Int32).toInt = 1 := qI_1; omega))) (kwS hg mfX11_deeper wt_1128 ⟨Nat.le_of_ble_eq_true rfl, Nat.le_of_ble_eq_true rfl⟩) (preSR hK hPc) rfl rfl hl.1 rfl (lv_room (Nat.le_of_ble_eq_true rfl)) dX11_layOdds_168 ⟨Nat.le_of_ble_eq_true rfl, Nat.le_of_ble_eq_true rfl⟩) hS (fun q h1 h2 => absurd h2 (Nat.not_le.mpr h1)) (fun q h => hA q (Nat.le_trans hS.1 h)) (fun r45 ur45 t H1 locs ht hvm w46 hB hz1 hk1 hS => ?_)
                              have hP := keepR hP hk1
                              obtain ⟨w46, w46x⟩ := w46
                              have hs47 : j28 ≤ (min 9 (j28 + 1)) ∧ (min 9 (j28 + 1)) ≤ 9 := (by omega)
                              subst w46
                              refine lv_dup2_11 hx hb dX11_layOdds_171 rfl rfl ?_
                              refine va_lald hx hb hK.1 hP 3 1 rfl rfl (vp_in_nI (by first | omega | (have t_hj5 := hj5; have t_n7 := n7; have t_hj13 := hj13; have t_n16 := n16; have t_hj25 := hj25; have t_n27 := n27; have t_hj32 := hj32; have t_hlo_j28 := hlo_j28; have t_n43 := n43; have t_c44 := neI c44; have t_hs47 := hs47; have tnb_ := nib10 tn2277_ tn2268_ tn2269_ tn2270_ tn2271_ tn2272_ tn2273_ tn2276_ tn2278_ tn2282_; omega)) (by decide)) dX11_layOdds_172 ?_
                              refine lv_cgl (y := (vp_updL g29 (j28 - 1) ((g29 (j28 - 1)) + (((rhO fst j8 (qbF x1 j8)).toInt64) * (g9 j28)))) (min 9 (j28 + 1))) (by rw [nI_clamp (by omega)]) ?_
                              refine lv_bipush (v := 20) hx hb dX11_layOdds_173 rfl ?_
                              refine lv_iload hx hb dX11_layOdds_175 (lv_at hl 2 rfl) ?_
                              refine lv_isub hx hb dX11_layOdds_177 ?_
                              refine lv_i2l (v := (20 - (rhO fst j8 (qbF x1 j8))).toInt64) hx hb dX11_layOdds_178 rfl ?_
                              refine lv_aload_n hx hb dX11_layOdds_179 rfl (lv_at hl 4 rfl) ?_
                              refine va_get (D := (dC, dI)) (ci := 11) (v := .ref od) (C := RX11) (T := TX11) (N := 35) hx hb hg inG11 hown hK.1 hP 0 rfl rfl 21 (Nat.le_of_ble_eq_true rfl) (hg _ wt_899) (fun _ h9 => h9) rfl dX11_layOdds_180 ?_
                              refine lv_iload hx hb dX11_layOdds_183 (lv_at hl 1 rfl) ?_
                              refine va_lald hx hb hK.1 hP 2 1 rfl rfl (vp_in_nI (by first | omega | (have t_hj5 := hj5; have t_n7 := n7; have t_hj13 := hj13; have t_n16 := n16; have t_hj25 := hj25; have t_n27 := n27; have t_hj32 := hj32; have t_hlo_j28 := hlo_j28; have t_n43 := n43; have t_c44 := neI c44; have t_hs47 := hs47; have tnb_ := nib10 tn2277_ tn2268_ tn2269_ tn2270_ tn2271_ tn2272_ tn2273_ tn2276_ tn2278_ tn2282_; omega)) (by decide)) dX11_layOdds_185 ?_
                              refine lv_cgl (y := g9 j28) (by rw [nI_clamp (by omega)]) ?_
                              refine lv_lmul hx hb dX11_layOdds_186 ?_
                              refine lv_ladd hx hb dX11_layOdds_187 ?_
                              refine va_last hx hb hK.1 hP hD hS 3 1 rfl rfl (vp_in_nI (by first | omega | (have t_hj5 := hj5; have t_n7 := n7; have t_hj13 := hj13; have t_n16 := n16; have t_hj25 := hj25; have t_n27 := n27; have t_hj32 := hj32; have t_hlo_j28 := hlo_j28; have t_n43 := n43; have t_c44 := neI c44; have t_hs47 := hs47; have tnb_ := nib10 tn2277_ tn2268_ tn2269_ tn2270_ tn2271_ tn2272_ tn2273_ tn2276_ tn2278_ tn2282_; omega)) (by decide)) dX11_layOdds_188 (fun H locs hP hD hS => ?_)
                              rw [nI_clamp (by omega)] at hP hD
                              refine lv_iinc (v := nI (j28 + 1)) (lv' := [(6, .int (nI (j28 + 1))), (7, .int (nI j28)), (5, .int (rhO fst j8 (qbF x1 j8))), (4, .int (nI j8)), (0, .ref h0), (1, .int (nI nn)), (2, .int x1), (3, .int x2)]) hx hb dX11_layOdds_189 hl (k := 1) rfl (by rw [show Int32.ofInt 1 = nI 1 from by decide]; exact nI_add _ _) (by decide) rfl (fun ls hl => ?_)
                              refine lv_goto (tgt := 112) hx hb dX11_layOdds_192 rfl ?_
                              exact ih112_30 (j28 + 1) (by omega) (by omega) (by omega) (vp_updL (vp_updL g29 (j28 - 1) ((g29 (j28 - 1)) + (((rhO fst j8 (qbF x1 j8)).toInt64) * (g9 j28)))) (min 9 (j28 + 1)) (((vp_updL g29 (j28 - 1) ((g29 (j28 - 1)) + (((rhO fst j8 (qbF x1 j8)).toInt64) * (g9 j28)))) (min 9 (j28 + 1))) + (((20 - (rhO fst j8 (qbF x1 j8))).toInt64) * (g9 j28)))) _ _ (ps_stepR (fr := j28) (by omega) (by omega) (psF_n (fun e9 => by have t_hj5 := hj5; have t_n7 := n7; have t_hj13 := hj13; have t_n16 := n16; have t_hj25 := hj25; have t_n27 := n27; have t_hj32 := hj32; have t_hlo_j28 := hlo_j28; have t_n43 := n43; have t_c44 := neI c44; have t_hs47 := hs47; have tnb_ := nib10 tn2277_ tn2268_ tn2269_ tn2270_ tn2271_ tn2272_ tn2273_ tn2276_ tn2278_ tn2282_; have tqz_ := qz41_; have e8 := congrArg Int32.toInt e9; omega) j28) rfl hinv) hP hD hS ls (lv_sub hl [0, 2, 3, 4, 5, 6, 7] rfl)
                            · skip
                              refine lv_iload hx hb dX11_layOdds_125 (lv_at hl 0 rfl) ?_
                              refine lv_iconst (v := 2) hx hb dX11_layOdds_127 rfl ?_
                              have hPc := hP.sub (ws' := []) [] rfl
                              refine va_calli (va_runS (As := [.int (nI j28), .int 2]) (rest := []) ⟨hx, hb, hml, hown, hg⟩ (c_X11_deeper l dC dI G _ j28 2 (by first | omega | (have t_hj5 := hj5; have t_n7 := n7; have t_hj13 := hj13; have t_n16 := n16; have t_hj25 := hj25; have t_n27 := n27; have t_hj32 := hj32; have t_hlo_j28 := hlo_j28; have t_n43 := n43; have t_c44 := eqI c44; have tnb_ := nib10 tn2277_ tn2268_ tn2269_ tn2270_ tn2271_ tn2272_ tn2273_ tn2276_ tn2278_ tn2282_; have : (2 : Int32).toInt = 2 := qI_2; omega)) (by first | omega | (have t_hj5 := hj5; have t_n7 := n7; have t_hj13 := hj13; have t_n16 := n16; have t_hj25 := hj25; have t_n27 := n27; have t_hj32 := hj32; have t_hlo_j28 := hlo_j28; have t_n43 := n43; have t_c44 := eqI c44; have tnb_ := nib10 tn2277_ tn2268_ tn2269_ tn2270_ tn2271_ tn2272_ tn2273_ tn2276_ tn2278_ tn2282_; have : (2 : Int32).toInt = 2 := qI_2; omega))) (kwS hg mfX11_deeper wt_1128 ⟨Nat.le_of_ble_eq_true rfl, Nat.le_of_ble_eq_true rfl⟩) (preSR hK hPc) rfl rfl hl.1 rfl (lv_room (Nat.le_of_ble_eq_true rfl)) dX11_layOdds_128 ⟨Nat.le_of_ble_eq_true rfl, Nat.le_of_ble_eq_true rfl⟩) hS (fun q h1 h2 => absurd h2 (Nat.not_le.mpr h1)) (fun q h => hA q (Nat.le_trans hS.1 h)) (fun r48 ur48 t H1 locs ht hvm w49 hB hz1 hk1 hS => ?_)
                              have hP := keepR hP hk1
                              obtain ⟨w49, w49x⟩ := w49
                              have hs50 : j28 ≤ (min 9 (j28 + 2)) ∧ (min 9 (j28 + 2)) ≤ 9 := (by omega)
                              subst w49
                              refine lv_goto (tgt := 136) hx hb dX11_layOdds_131 rfl ?_
                              refine lv_istore (lv' := [(7, .int (nI (min 9 (j28 + 2)))), (6, .int (nI j28)), (5, .int (rhO fst j8 (qbF x1 j8))), (4, .int (nI j8)), (0, .ref h0), (1, .int (nI nn)), (2, .int x1), (3, .int x2)]) hx hb dX11_layOdds_136 hl (by decide) rfl (fun ls hl => ?_)
                              refine lv_aload_n hx hb dX11_layOdds_138 rfl (lv_at hl 4 rfl) ?_
                              refine va_get (D := (dC, dI)) (ci := 11) (v := .ref th) (C := RX11) (T := TX11) (N := 35) hx hb hg inG11 hown hK.1 hP 0 rfl rfl 22 (Nat.le_of_ble_eq_true rfl) (hg _ wt_900) (fun _ h9 => h9) rfl dX11_layOdds_139 ?_
                              refine lv_iload hx hb dX11_layOdds_142 (lv_at hl 0 rfl) ?_
                              refine lv_iconst (v := 1) hx hb dX11_layOdds_144 rfl ?_
                              refine lv_isub hx hb dX11_layOdds_145 ?_
                              refine lv_cg (y := nI ((min 9 (j28 + 2)) - 1)) (by rw [show (1 : Int32) = nI 1 from rfl]; exact pk_sub (by have t_hj5 := hj5; have t_n7 := n7; have t_hj13 := hj13; have t_n16 := n16; have t_hj25 := hj25; have t_n27 := n27; have t_hj32 := hj32; have t_hlo_j28 := hlo_j28; have t_n43 := n43; have t_c44 := eqI c44; have t_hs50 := hs50; have tnb_ := nib10 tn2277_ tn2268_ tn2269_ tn2270_ tn2271_ tn2272_ tn2273_ tn2276_ tn2278_ tn2282_; omega)) ?_
                              refine lv_dup2_11 hx hb dX11_layOdds_146 rfl rfl ?_
                              refine va_lald hx hb hK.1 hP 3 1 rfl rfl (vp_in_nI (by first | omega | (have t_hj5 := hj5; have t_n7 := n7; have t_hj13 := hj13; have t_n16 := n16; have t_hj25 := hj25; have t_n27 := n27; have t_hj32 := hj32; have t_hlo_j28 := hlo_j28; have t_n43 := n43; have t_c44 := eqI c44; have t_hs50 := hs50; have tnb_ := nib10 tn2277_ tn2268_ tn2269_ tn2270_ tn2271_ tn2272_ tn2273_ tn2276_ tn2278_ tn2282_; omega)) (by decide)) dX11_layOdds_147 ?_
                              refine lv_cgl (y := g29 ((min 9 (j28 + 2)) - 1)) (by rw [nI_clamp (by omega)]) ?_
                              refine lv_iload hx hb dX11_layOdds_148 (lv_at hl 2 rfl) ?_
                              refine lv_i2l (v := (rhO fst j8 (qbF x1 j8)).toInt64) hx hb dX11_layOdds_150 rfl ?_
                              refine lv_aload_n hx hb dX11_layOdds_151 rfl (lv_at hl 4 rfl) ?_
                              refine va_get (D := (dC, dI)) (ci := 11) (v := .ref od) (C := RX11) (T := TX11) (N := 35) hx hb hg inG11 hown hK.1 hP 0 rfl rfl 21 (Nat.le_of_ble_eq_true rfl) (hg _ wt_899) (fun _ h9 => h9) rfl dX11_layOdds_152 ?_
                              refine lv_iload hx hb dX11_layOdds_155 (lv_at hl 1 rfl) ?_
                              refine va_lald hx hb hK.1 hP 2 1 rfl rfl (vp_in_nI (by first | omega | (have t_hj5 := hj5; have t_n7 := n7; have t_hj13 := hj13; have t_n16 := n16; have t_hj25 := hj25; have t_n27 := n27; have t_hj32 := hj32; have t_hlo_j28 := hlo_j28; have t_n43 := n43; have t_c44 := eqI c44; have t_hs50 := hs50; have tnb_ := nib10 tn2277_ tn2268_ tn2269_ tn2270_ tn2271_ tn2272_ tn2273_ tn2276_ tn2278_ tn2282_; omega)) (by decide)) dX11_layOdds_157 ?_
                              refine lv_cgl (y := g9 j28) (by rw [nI_clamp (by omega)]) ?_
                              refine lv_lmul hx hb dX11_layOdds_158 ?_
                              refine lv_ladd hx hb dX11_layOdds_159 ?_
                              refine va_last hx hb hK.1 hP hD hS 3 1 rfl rfl (vp_in_nI (by first | omega | (have t_hj5 := hj5; have t_n7 := n7; have t_hj13 := hj13; have t_n16 := n16; have t_hj25 := hj25; have t_n27 := n27; have t_hj32 := hj32; have t_hlo_j28 := hlo_j28; have t_n43 := n43; have t_c44 := eqI c44; have t_hs50 := hs50; have tnb_ := nib10 tn2277_ tn2268_ tn2269_ tn2270_ tn2271_ tn2272_ tn2273_ tn2276_ tn2278_ tn2282_; omega)) (by decide)) dX11_layOdds_160 (fun H locs hP hD hS => ?_)
                              rw [nI_clamp (by omega)] at hP hD
                              refine lv_aload_n hx hb dX11_layOdds_161 rfl (lv_at hl 4 rfl) ?_
                              refine va_get (D := (dC, dI)) (ci := 11) (v := .ref th) (C := RX11) (T := TX11) (N := 35) hx hb hg inG11 hown hK.1 hP 0 rfl rfl 22 (Nat.le_of_ble_eq_true rfl) (hg _ wt_900) (fun _ h9 => h9) rfl dX11_layOdds_162 ?_
                              refine lv_iload hx hb dX11_layOdds_165 (lv_at hl 0 rfl) ?_
                              refine lv_iconst (v := 1) hx hb dX11_layOdds_167 rfl ?_
                              have hPc := hP.sub (ws' := []) [] rfl
                              refine va_calli (va_runS (As := [.int (nI (min 9 (j28 + 2))), .int 1]) (rest := [.ref th]) ⟨hx, hb, hml, hown, hg⟩ (c_X11_deeper l dC dI G _ (min 9 (j28 + 2)) 1 (by first | omega | (have t_hj5 := hj5; have t_n7 := n7; have t_hj13 := hj13; have t_n16 := n16; have t_hj25 := hj25; have t_n27 := n27; have t_hj32 := hj32; have t_hlo_j28 := hlo_j28; have t_n43 := n43; have t_c44 := eqI c44; have t_hs50 := hs50; have tnb_ := nib10 tn2277_ tn2268_ tn2269_ tn2270_ tn2271_ tn2272_ tn2273_ tn2276_ tn2278_ tn2282_; have : (1 : Int32).toInt = 1 := qI_1; omega)) (by first | omega | (have t_hj5 := hj5; have t_n7 := n7; have t_hj13 := hj13; have t_n16 := n16; have t_hj25 := hj25; have t_n27 := n27; have t_hj32 := hj32; have t_hlo_j28 := hlo_j28; have t_n43 := n43; have t_c44 := eqI c44; have t_hs50 := hs50; have tnb_ := nib10 tn2277_ tn2268_ tn2269_ tn2270_ tn2271_ tn2272_ tn2273_ tn2276_ tn2278_ tn2282_; have : (1 : Int32).toInt = 1 := qI_1; omega))) (kwS hg mfX11_deeper wt_1128 ⟨Nat.le_of_ble_eq_true rfl, Nat.le_of_ble_eq_true rfl⟩) (preSR hK hPc) rfl rfl hl.1 rfl (lv_room (Nat.le_of_ble_eq_true rfl)) dX11_layOdds_168 ⟨Nat.le_of_ble_eq_true rfl, Nat.le_of_ble_eq_true rfl⟩) hS (fun q h1 h2 => absurd h2 (Nat.not_le.mpr h1)) (fun q h => hA q (Nat.le_trans hS.1 h)) (fun r51 ur51 t H1 locs ht hvm w52 hB hz1 hk1 hS => ?_)
                              have hP := keepR hP hk1
                              obtain ⟨w52, w52x⟩ := w52
                              have hs53 : (min 9 (j28 + 2)) ≤ (min 9 ((min 9 (j28 + 2)) + 1)) ∧ (min 9 ((min 9 (j28 + 2)) + 1)) ≤ 9 := (by omega)
                              subst w52
                              refine lv_dup2_11 hx hb dX11_layOdds_171 rfl rfl ?_
                              refine va_lald hx hb hK.1 hP 3 1 rfl rfl (vp_in_nI (by first | omega | (have t_hj5 := hj5; have t_n7 := n7; have t_hj13 := hj13; have t_n16 := n16; have t_hj25 := hj25; have t_n27 := n27; have t_hj32 := hj32; have t_hlo_j28 := hlo_j28; have t_n43 := n43; have t_c44 := eqI c44; have t_hs50 := hs50; have t_hs53 := hs53; have tnb_ := nib10 tn2277_ tn2268_ tn2269_ tn2270_ tn2271_ tn2272_ tn2273_ tn2276_ tn2278_ tn2282_; omega)) (by decide)) dX11_layOdds_172 ?_
                              refine lv_cgl (y := (vp_updL g29 ((min 9 (j28 + 2)) - 1) ((g29 ((min 9 (j28 + 2)) - 1)) + (((rhO fst j8 (qbF x1 j8)).toInt64) * (g9 j28)))) (min 9 ((min 9 (j28 + 2)) + 1))) (by rw [nI_clamp (by omega)]) ?_
                              refine lv_bipush (v := 20) hx hb dX11_layOdds_173 rfl ?_
                              refine lv_iload hx hb dX11_layOdds_175 (lv_at hl 2 rfl) ?_
                              refine lv_isub hx hb dX11_layOdds_177 ?_
                              refine lv_i2l (v := (20 - (rhO fst j8 (qbF x1 j8))).toInt64) hx hb dX11_layOdds_178 rfl ?_
                              refine lv_aload_n hx hb dX11_layOdds_179 rfl (lv_at hl 4 rfl) ?_
                              refine va_get (D := (dC, dI)) (ci := 11) (v := .ref od) (C := RX11) (T := TX11) (N := 35) hx hb hg inG11 hown hK.1 hP 0 rfl rfl 21 (Nat.le_of_ble_eq_true rfl) (hg _ wt_899) (fun _ h9 => h9) rfl dX11_layOdds_180 ?_
                              refine lv_iload hx hb dX11_layOdds_183 (lv_at hl 1 rfl) ?_
                              refine va_lald hx hb hK.1 hP 2 1 rfl rfl (vp_in_nI (by first | omega | (have t_hj5 := hj5; have t_n7 := n7; have t_hj13 := hj13; have t_n16 := n16; have t_hj25 := hj25; have t_n27 := n27; have t_hj32 := hj32; have t_hlo_j28 := hlo_j28; have t_n43 := n43; have t_c44 := eqI c44; have t_hs50 := hs50; have t_hs53 := hs53; have tnb_ := nib10 tn2277_ tn2268_ tn2269_ tn2270_ tn2271_ tn2272_ tn2273_ tn2276_ tn2278_ tn2282_; omega)) (by decide)) dX11_layOdds_185 ?_
                              refine lv_cgl (y := g9 j28) (by rw [nI_clamp (by omega)]) ?_
                              refine lv_lmul hx hb dX11_layOdds_186 ?_
                              refine lv_ladd hx hb dX11_layOdds_187 ?_
                              refine va_last hx hb hK.1 hP hD hS 3 1 rfl rfl (vp_in_nI (by first | omega | (have t_hj5 := hj5; have t_n7 := n7; have t_hj13 := hj13; have t_n16 := n16; have t_hj25 := hj25; have t_n27 := n27; have t_hj32 := hj32; have t_hlo_j28 := hlo_j28; have t_n43 := n43; have t_c44 := eqI c44; have t_hs50 := hs50; have t_hs53 := hs53; have tnb_ := nib10 tn2277_ tn2268_ tn2269_ tn2270_ tn2271_ tn2272_ tn2273_ tn2276_ tn2278_ tn2282_; omega)) (by decide)) dX11_layOdds_188 (fun H locs hP hD hS => ?_)
                              rw [nI_clamp (by omega)] at hP hD
                              refine lv_iinc (v := nI (j28 + 1)) (lv' := [(6, .int (nI (j28 + 1))), (7, .int (nI (min 9 (j28 + 2)))), (5, .int (rhO fst j8 (qbF x1 j8))), (4, .int (nI j8)), (0, .ref h0), (1, .int (nI nn)), (2, .int x1), (3, .int x2)]) hx hb dX11_layOdds_189 hl (k := 1) rfl (by rw [show Int32.ofInt 1 = nI 1 from by decide]; exact nI_add _ _) (by decide) rfl (fun ls hl => ?_)
                              refine lv_goto (tgt := 112) hx hb dX11_layOdds_192 rfl ?_
                              exact ih112_30 (j28 + 1) (by omega) (by omega) (by omega) (vp_updL (vp_updL g29 ((min 9 (j28 + 2)) - 1) ((g29 ((min 9 (j28 + 2)) - 1)) + (((rhO fst j8 (qbF x1 j8)).toInt64) * (g9 j28)))) (min 9 ((min 9 (j28 + 2)) + 1)) (((vp_updL g29 ((min 9 (j28 + 2)) - 1) ((g29 ((min 9 (j28 + 2)) - 1)) + (((rhO fst j8 (qbF x1 j8)).toInt64) * (g9 j28)))) (min 9 ((min 9 (j28 + 2)) + 1))) + (((20 - (rhO fst j8 (qbF x1 j8))).toInt64) * (g9 j28)))) _ _ (ps_stepR (fr := (min 9 (j28 + 2))) (by omega) (by omega) (psF_t (Int32.toInt_inj.mp (by have t_hj5 := hj5; have t_n7 := n7; have t_hj13 := hj13; have t_n16 := n16; have t_hj25 := hj25; have t_n27 := n27; have t_hj32 := hj32; have t_hlo_j28 := hlo_j28; have t_n43 := n43; have t_c44 := eqI c44; have t_hs50 := hs50; have t_hs53 := hs53; have tnb_ := nib10 tn2277_ tn2268_ tn2269_ tn2270_ tn2271_ tn2272_ tn2273_ tn2276_ tn2278_ tn2282_; have tqz_ := qz41_; omega)) j28) rfl hinv) hP hD hS ls (lv_sub hl [0, 2, 3, 4, 5, 6, 7] rfl)
                      exact loop112_30 (10 + 1) 1 (by omega) (by omega) (by omega) (vp_updL g22 0 (20 * (g9 0))) _ _ (ps_zeroR hZ9 rfl) hP hD hS ls (lv_sub hl [0, 1, 2, 3, 4, 5, 6] rfl)
                    · skip
                      have tn2283_ : nIT j21 := fun _ => nI_toInt (by first | omega | (have t := nleI c26; omega))
                      have n54 : j21 < 10 := by have t := nleI c26; rw [show (nI (j21)).toInt = ((j21 : Nat) : Int) from tn2283_ ()] at t; have : (10 : Int32).toInt = 10 := qI_10; omega
                      refine lv_aload_n hx hb dX11_layOdds_79 rfl (lv_at hl 3 rfl) ?_
                      refine va_get (D := (dC, dI)) (ci := 11) (v := .ref th) (C := RX11) (T := TX11) (N := 35) hx hb hg inG11 hown hK.1 hP 0 rfl rfl 22 (Nat.le_of_ble_eq_true rfl) (hg _ wt_900) (fun _ h9 => h9) rfl dX11_layOdds_80 ?_
                      refine lv_iload hx hb dX11_layOdds_83 (lv_at hl 0 rfl) ?_
                      refine lv_lconst (v := 0) hx hb dX11_layOdds_85 (by decide) ?_
                      refine va_last hx hb hK.1 hP hD hS 3 1 rfl rfl (vp_in_nI (by first | omega | (have t_hj5 := hj5; have t_n7 := n7; have t_hj13 := hj13; have t_n16 := n16; have t_hj25 := hj25; have t_n54 := n54; have tnb_ := nib9 tn2277_ tn2268_ tn2269_ tn2270_ tn2271_ tn2272_ tn2273_ tn2276_ tn2283_; omega)) (by decide)) dX11_layOdds_86 (fun H locs hP hD hS => ?_)
                      rw [nI_clamp (by omega)] at hP hD
                      refine lv_iinc (v := nI (j21 + 1)) (lv' := [(6, .int (nI (j21 + 1))), (5, .int (rhO fst j8 (qbF x1 j8))), (4, .int (nI j8)), (0, .ref h0), (1, .int (nI nn)), (2, .int x1), (3, .int x2)]) hx hb dX11_layOdds_87 hl (k := 0) rfl (by rw [show Int32.ofInt 1 = nI 1 from by decide]; exact nI_add _ _) (by decide) rfl (fun ls hl => ?_)
                      refine lv_goto (tgt := 72) hx hb dX11_layOdds_90 rfl ?_
                      exact ih72_23 (j21 + 1) (by omega) (by omega) (vp_updL g22 j21 0) _ _ (zr_step hinv) hP hD hS ls (lv_sub hl [0, 1, 2, 3, 4, 5, 6] rfl)
                exact loop72_23 (10 + 1) 0 (by omega) (by omega) g10 _ _ (fun q9 h9 => absurd h9 (Nat.not_lt_zero _)) hP hD hS ls (lv_sub hl [0, 1, 2, 3, 4, 5, 6] rfl)
              refine lv_icmp_ne (tgt := 63) hx hb dX11_layOdds_56 rfl (fun c55 => ?_) (fun c55 => ?_)
              · skip
                refine lv_iconst (v := 0) hx hb dX11_layOdds_63 rfl ?_
                exact cut64_18 0 _ _ (by first | exact (if_pos (by first | with_reducible assumption | assumption)).symm | exact (if_neg (by first | with_reducible assumption | assumption)).symm | exact ((if_neg (by first | with_reducible assumption | assumption)).trans (if_pos (by first | with_reducible assumption | assumption))).symm | exact ((if_neg (by first | with_reducible assumption | assumption)).trans (if_neg (by first | with_reducible assumption | assumption))).symm | exact (if_pos ⟨by assumption, by assumption⟩).symm | exact (if_neg (fun h9 => absurd h9.1 (by first | with_reducible assumption | assumption))).symm | exact (if_neg (fun h9 => h9.2 (by first | with_reducible assumption | assumption))).symm) hP hD hS ls (lv_sub hl [0, 1, 2, 3, 4] rfl)
              · skip
                refine lv_iconst (v := 1) hx hb dX11_layOdds_59 rfl ?_
                refine lv_goto (tgt := 64) hx hb dX11_layOdds_60 rfl ?_
                exact cut64_18 1 _ _ (by first | exact (if_pos (by first | with_reducible assumption | assumption)).symm | exact (if_neg (by first | with_reducible assumption | assumption)).symm | exact ((if_neg (by first | with_reducible assumption | assumption)).trans (if_pos (by first | with_reducible assumption | assumption))).symm | exact ((if_neg (by first | with_reducible assumption | assumption)).trans (if_neg (by first | with_reducible assumption | assumption))).symm | exact (if_pos ⟨by assumption, by assumption⟩).symm | exact (if_neg (fun h9 => absurd h9.1 (by first | with_reducible assumption | assumption))).symm | exact (if_neg (fun h9 => h9.2 (by first | with_reducible assumption | assumption))).symm) hP hD hS ls (lv_sub hl [0, 1, 2, 3, 4] rfl)
        exact loop40_11 (nn + 1) 0 (by omega) (by omega) g2 fth _ _ (fun q9 h9 => hinv q9 (by omega)) hP hD hS ls (lv_sub hl [0, 1, 2, 3, 4] rfl)
      · skip
        have tn2284_ : nIT j1 := fun _ => nI_toInt (by first | omega | (have t := nleI c6; omega))
        have n56 : j1 < 10 := by have t := nleI c6; rw [show (nI (j1)).toInt = ((j1 : Nat) : Int) from tn2284_ ()] at t; have : (10 : Int32).toInt = 10 := qI_10; omega
        refine lv_aload_n hx hb dX11_layOdds_10 rfl (lv_at hl 1 rfl) ?_
        refine va_get (D := (dC, dI)) (ci := 11) (v := .ref od) (C := RX11) (T := TX11) (N := 35) hx hb hg inG11 hown hK.1 hP 0 rfl rfl 21 (Nat.le_of_ble_eq_true rfl) (hg _ wt_899) (fun _ h9 => h9) rfl dX11_layOdds_11 ?_
        refine lv_iload hx hb dX11_layOdds_14 (lv_at hl 0 rfl) ?_
        refine lv_iload hx hb dX11_layOdds_16 (lv_at hl 0 rfl) ?_
        refine lv_aload_n hx hb dX11_layOdds_18 rfl (lv_at hl 1 rfl) ?_
        have hPc := hP.sub (ws' := [(h0, .inr (11, [.ref st, .int (nI N), .int (nI B), .ref rp, .int vrs, .int vrb, .int vhs, .int vca, .int vxs, .int vxb, .ref tp, .int (nI T), .int vfa, .int vbr, .int vba, .int vsp, .int vhe, .int vtk, .int vva, .ref cu, .ref lt, .ref od, .ref th, .ref be, .ref ln, .int (nI S), .ref ma, .int (nI M), .ref ah, .ref bh, .ref ik, .ref la, .ref lg, .ref ce, .int vto])), (st, .inl (G 0, 196, .inl fst))]) [0, 1] rfl
        have tn2285_ : nIT nn := fun _ => nI_toInt (by first | omega | (have t_hj5 := hj5; have t_n56 := n56; omega))
        refine va_calli (va_runV (As := []) (rest := [.int (nI j1), .int (nI j1), .ref od]) ⟨hx, hb, hml, hown, hg⟩ (c_X11_startNowS l dC dI G _ h0 st N B rp tp T cu lt od th be ln S ma M ah bh ik la lg ce vrs vrb vhs vca vxs vxb vfa vbr vba vsp vhe vtk vva vto fst hN hB_ hT_ hS0 hM_ hst) (kwV hg mfX11_startNow wt_1044 ⟨Nat.le_of_ble_eq_true rfl, Nat.le_of_ble_eq_true rfl⟩) (preVR hK hPc (ci := 11) (r := (RX11, TX11, 35)) rfl rfl) rfl rfl hl.1 rfl (lv_room (Nat.le_of_ble_eq_true rfl)) dX11_layOdds_19 ⟨Nat.le_of_ble_eq_true rfl, Nat.le_of_ble_eq_true rfl⟩) hS (fun q h1 h2 => absurd h2 (Nat.not_le.mpr h1)) (fun q h => hA q (Nat.le_trans hS.1 h)) (fun r57 ur57 t H1 locs ht hvm w58 hB hz1 hk1 hS => ?_)
        have hP := keepR hP hk1
        obtain ⟨w58, w58x⟩ := w58
        have w58b := w58.2
        replace w58 := w58.1
        subst w58
        refine lv_icmp_ne (tgt := 29) hx hb dX11_layOdds_22 rfl (fun c59 => ?_) (fun c59 => ?_)
        · skip
          have tn2286_ : nIT (sdN fst) := fun _ => nI_toInt (by omega)
          have n60 : j1 ≠ (sdN fst) := by have t := neI c59; rw [show (nI (j1)).toInt = ((j1 : Nat) : Int) from tn2284_ ()] at t; rw [show (nI (sdN fst)).toInt = ((sdN fst : Nat) : Int) from tn2286_ ()] at t; omega
          refine lv_lconst (v := 0) hx hb dX11_layOdds_29 (by decide) ?_
          refine va_last hx hb hK.1 hP hD hS 2 1 rfl rfl (vp_in_nI (by first | omega | (have t_hj5 := hj5; have t_n56 := n56; have t_w58b := w58b; have t_n60 := n60; have tnb_ := nib7 tn2285_ tn2268_ tn2269_ tn2270_ tn2271_ tn2272_ tn2284_; omega)) (by decide)) dX11_layOdds_30 (fun H locs hP hD hS => ?_)
          rw [nI_clamp (by omega)] at hP hD
          refine lv_iinc (v := nI (j1 + 1)) (lv' := [(4, .int (nI (j1 + 1))), (0, .ref h0), (1, .int (nI nn)), (2, .int x1), (3, .int x2)]) hx hb dX11_layOdds_31 hl (k := 0) rfl (by rw [show Int32.ofInt 1 = nI 1 from by decide]; exact nI_add _ _) (by decide) rfl (fun ls hl => ?_)
          refine lv_goto (tgt := 3) hx hb dX11_layOdds_34 rfl ?_
          exact ih3_3 (j1 + 1) (by omega) (by omega) (vp_updL g2 j1 0) _ _ (by first | exact od_s1 hinv (by omega) | exact od_s0 hinv (by omega)) hP hD hS ls (lv_sub hl [0, 1, 2, 3, 4] rfl)
        · skip
          have tn2287_ : nIT (sdN fst) := fun _ => nI_toInt (by omega)
          have n61 : j1 = (sdN fst) := by have t := eqI c59; rw [show (nI (j1)).toInt = ((j1 : Nat) : Int) from tn2284_ ()] at t; rw [show (nI (sdN fst)).toInt = ((sdN fst : Nat) : Int) from tn2287_ ()] at t; omega
          refine lv_lconst (v := 1) hx hb dX11_layOdds_25 (by decide) ?_
          refine lv_goto (tgt := 30) hx hb dX11_layOdds_26 rfl ?_
          refine va_last hx hb hK.1 hP hD hS 2 1 rfl rfl (vp_in_nI (by first | omega | (have t_hj5 := hj5; have t_n56 := n56; have t_w58b := w58b; have t_n61 := n61; have tnb_ := nib7 tn2285_ tn2268_ tn2269_ tn2270_ tn2271_ tn2272_ tn2284_; omega)) (by decide)) dX11_layOdds_30 (fun H locs hP hD hS => ?_)
          rw [nI_clamp (by omega)] at hP hD
          refine lv_iinc (v := nI (j1 + 1)) (lv' := [(4, .int (nI (j1 + 1))), (0, .ref h0), (1, .int (nI nn)), (2, .int x1), (3, .int x2)]) hx hb dX11_layOdds_31 hl (k := 0) rfl (by rw [show Int32.ofInt 1 = nI 1 from by decide]; exact nI_add _ _) (by decide) rfl (fun ls hl => ?_)
          refine lv_goto (tgt := 3) hx hb dX11_layOdds_34 rfl ?_
          exact ih3_3 (j1 + 1) (by omega) (by omega) (vp_updL g2 j1 1) _ _ (by first | exact od_s1 hinv (by omega) | exact od_s0 hinv (by omega)) hP hD hS ls (lv_sub hl [0, 1, 2, 3, 4] rfl)
  exact loop3_3 (10 + 1) 0 (by omega) (by omega) fod _ _ (fun q9 h9 => absurd h9 (Nat.not_lt_zero _)) hP hD hS ls (lv_sub hl [0, 1, 2, 3, 4] rfl)

set_option maxHeartbeats 1000000 in
set_option maxRecDepth 100000 in
theorem c_X11_lowestE (l : Launch) (dC : Nat → ClassId) (dI : Nat → Nat → Nat) (G : Nat → ClassId) (sz : Nat) (what : Int32) (x1 x2 : Int64) (hx2 : x2.toInt ≠ 0) : Met l yX11_lowest (Cond.code yX11_lowest cX11_lowest 11 (some .long) :: GT) ({ frames := 0, cells := 0, slots := 0, locals := 0 } : Room) (PcR [.long x1, .long x2, .int what] dC dI G [] sz) (va_Ql (fun (r : Int64) (u : Unit) => match u with | _ => (r = frF x1 x2 what) ∧ True) (fun _ _ => True) (fun q : Nat => sz ≤ q)) 0 0 (fun q : Nat => sz ≤ q) := by
  refine Met.ofW (cc := cX11_lowest) (maxL := 11) (ret := (some .long)) (by decide) rfl ?_
  intro p e s m args below meth c s₁ Bd hml hv
  obtain ⟨rfl, hsz, hP, hK⟩ := hv
  have hx := Bd.exec
  have hb := Bd.bytes
  have hr := Bd.returns
  have hg : ∀ w ∈ GT, w.before ([.long x1, .long x2, .int what] : List Value).toArray s = true := fun w h => atoms_spec (ws := Cond.code yX11_lowest cX11_lowest 11 (some .long) :: GT) Bd.pre w (List.mem_cons_of_mem _ h)
  have hown : s.vm.findClass RX11 = some m.cls := findClass_of_methodNamed Bd.named
  have hlocks := Bd.notSynchronized
  subst hsz
  have hA : ∀ q : Nat, s.heap.size ≤ q → (fun q : Nat => s.heap.size ≤ q) q := fun _ h => h
  have hS : va_S (fun q : Nat => s.heap.size ≤ q) s.heap s.heap [] := va_S.rf
  have hl := lv_entry ([.long x1, .long x2, .int what]) (n := 11) (Nat.le_of_ble_eq_true rfl)
  rw [lg_entry_eq]
  generalize (lg_sl ([.long x1, .long x2, .int what]) ++ List.replicate (11 - (lg_sl ([.long x1, .long x2, .int what])).length) Slot.unset).toArray = ls at hl ⊢
  have hl : lv_has ls 11 [(0, .long x1), (2, .long x2), (4, .int what)] := hl
  refine lv_lload_n hx hb dX11_lowest_0 rfl (lv_at hl 0 rfl) ?_
  refine lv_lstore (lv' := [(5, .long x1), (0, .long x1), (2, .long x2), (4, .int what)]) hx hb dX11_lowest_1 hl (by decide) rfl (fun ls hl => ?_)
  refine lv_lload_n hx hb dX11_lowest_3 rfl (lv_at hl 2 rfl) ?_
  refine lv_lstore (lv' := [(7, .long x2), (5, .long x1), (0, .long x1), (2, .long x2), (4, .int what)]) hx hb dX11_lowest_4 hl (by decide) rfl (fun ls hl => ?_)
  have loop6_3 : ∀ (nf : Nat) (y1 : Int64) (y2 : Int64), y1.toInt.natAbs < nf → ((y1.toInt ≠ 0 ∨ y2.toInt ≠ 0) ∧ euV y2 y1 = euV x1 x2) → ∀ (H : Heap) (locs : List Loc), va_P (dC, dI) vwCl [] H → va_S (fun q : Nat => s.heap.size ≤ q) s.heap H locs → ∀ (ls : Array Slot), lv_has ls 11 [(7, .long y1), (5, .long y2), (0, .long x1), (2, .long x2), (4, .int what)] → W p l e (headSpec (Cond.code yX11_lowest cX11_lowest 11 (some .long) :: GT) ({ frames := 0, cells := 0, slots := 0, locals := 0 } : Room)).room s m ([.long x1, .long x2, .int what] : List Value).toArray below meth c H locs 0 0 (MQ below (va_Ql (fun (r : Int64) (u : Unit) => match u with | _ => (r = frF x1 x2 what) ∧ True) (fun _ _ => True) (fun q : Nat => s.heap.size ≤ q)) ([.long x1, .long x2, .int what] : List Value).toArray s 0 0 (fun q : Nat => s.heap.size ≤ q)) (F0 m 6 ls []) := by
    intro nf
    induction nf with
    | zero => intro y1 y2 h1; exact absurd h1 (Nat.not_lt_zero _)
    | succ nf ih6_3 =>
      intro y1 y2 hm4 hinv H locs hP hS ls hl
      refine lv_lload hx hb dX11_lowest_6 (lv_at hl 0 rfl) ?_
      refine lv_lconst (v := 0) hx hb dX11_lowest_8 (by decide) ?_
      refine W.lcmp hx hb dX11_lowest_9 ?_
      refine lv_if_eq (tgt := 31) hx hb dX11_lowest_10 rfl (fun c5 => ?_) (fun c5 => ?_)
      · skip
        refine lv_iload hx hb dX11_lowest_31 (lv_at hl 4 rfl) ?_
        refine lv_if_ne (tgt := 40) hx hb dX11_lowest_33 rfl (fun c6 => ?_) (fun c6 => ?_)
        · skip
          refine lv_lload_n hx hb dX11_lowest_40 rfl (lv_at hl 3 rfl) ?_
          refine lv_lload hx hb dX11_lowest_41 (lv_at hl 1 rfl) ?_
          refine lv_ldiv hx hb dX11_lowest_43 (by intro h0; have t0 := congrArg Int64.toInt h0; have z0 : (0 : Int64).toInt = 0 := qL_0; have t_hinv := hinv.1; have t_c5 := lcm_eq_t c5; have t_c6 := neI c6; have tqz_ := qz4_; omega) ?_
          have hpost : (x2 / y2 : Int64) = frF x1 x2 what := by
            have t_hinv := hinv.1
            have t_c5 := lcm_eq_t c5
            have t_c6 := neI c6
            have : (0 : Int32).toInt = 0 := qI_0
            have : (0 : Int64).toInt = 0 := qL_0
            have z0 : (0 : Int32).toInt = 0 := qI_0
            have z1 : (1 : Int32).toInt = 1 := qI_1
            have z2 : (2 : Int32).toInt = 2 := qI_2
            have z3 : (3 : Int32).toInt = 3 := qI_3
            have z5 : (5 : Int32).toInt = 5 := qI_5
            have z9 : (9 : Int32).toInt = 9 := qI_9
            have e9 : y2 = euV x1 x2 := (by rw [← hinv.2]; exact (euV_0 (by omega)).symm)
            unfold frF
            by_cases h9 : what = 0
            · have h8 := congrArg Int32.toInt h9; rw [if_pos h9, ← e9]; first | done | (exfalso; omega)
            · rw [if_neg h9, ← e9]; first | done | (exfalso; exact h9 (Int32.toInt_inj.mp (by omega)))
          refine W.widen (k := 0) (n := 0) (Nat.le_of_ble_eq_true rfl) (Nat.le_of_ble_eq_true rfl) ?_
          exact W.lret (v := x2 / y2) hx hb hr (fun t ht hW => ⟨⟨x2 / y2, (), rfl, ⟨hpost, trivial⟩, trivial⟩, hS.F ht⟩) hS.2.2 dX11_lowest_44
        · skip
          refine lv_lload_n hx hb dX11_lowest_36 rfl (lv_at hl 2 rfl) ?_
          refine lv_goto (tgt := 41) hx hb dX11_lowest_37 rfl ?_
          refine lv_lload hx hb dX11_lowest_41 (lv_at hl 1 rfl) ?_
          refine lv_ldiv hx hb dX11_lowest_43 (by intro h0; have t0 := congrArg Int64.toInt h0; have z0 : (0 : Int64).toInt = 0 := qL_0; have t_hinv := hinv.1; have t_c5 := lcm_eq_t c5; have t_c6 := eqI c6; have tqz_ := qz4_; omega) ?_
          have hpost : (x1 / y2 : Int64) = frF x1 x2 what := by
            have t_hinv := hinv.1
            have t_c5 := lcm_eq_t c5
            have t_c6 := eqI c6
            have : (0 : Int32).toInt = 0 := qI_0
            have : (0 : Int64).toInt = 0 := qL_0
            have z0 : (0 : Int32).toInt = 0 := qI_0
            have z1 : (1 : Int32).toInt = 1 := qI_1
            have z2 : (2 : Int32).toInt = 2 := qI_2
            have z3 : (3 : Int32).toInt = 3 := qI_3
            have z5 : (5 : Int32).toInt = 5 := qI_5
            have z9 : (9 : Int32).toInt = 9 := qI_9
            have e9 : y2 = euV x1 x2 := (by rw [← hinv.2]; exact (euV_0 (by omega)).symm)
            unfold frF
            by_cases h9 : what = 0
            · have h8 := congrArg Int32.toInt h9; rw [if_pos h9, ← e9]; first | done | (exfalso; omega)
            · rw [if_neg h9, ← e9]; first | done | (exfalso; exact h9 (Int32.toInt_inj.mp (by omega)))
          refine W.widen (k := 0) (n := 0) (Nat.le_of_ble_eq_true rfl) (Nat.le_of_ble_eq_true rfl) ?_
          exact W.lret (v := x1 / y2) hx hb hr (fun t ht hW => ⟨⟨x1 / y2, (), rfl, ⟨hpost, trivial⟩, trivial⟩, hS.F ht⟩) hS.2.2 dX11_lowest_44
      · skip
        refine lv_lload hx hb dX11_lowest_13 (lv_at hl 1 rfl) ?_
        refine lv_lload hx hb dX11_lowest_15 (lv_at hl 0 rfl) ?_
        refine lv_lrem hx hb dX11_lowest_17 (by intro h0; have t0 := congrArg Int64.toInt h0; have z0 : (0 : Int64).toInt = 0 := qL_0; have t_hinv := hinv.1; have t_c5 := lcm_eq_f c5; have : (0 : Int64).toInt = 0 := qL_0; omega) ?_
        refine lv_lstore (lv' := [(9, .long (y2 - y2 / y1 * y1)), (7, .long y1), (5, .long y2), (0, .long x1), (2, .long x2), (4, .int what)]) hx hb dX11_lowest_18 hl (by decide) rfl (fun ls hl => ?_)
        refine lv_lload hx hb dX11_lowest_20 (lv_at hl 1 rfl) ?_
        refine lv_lstore (lv' := [(5, .long y1), (9, .long (y2 - y2 / y1 * y1)), (7, .long y1), (0, .long x1), (2, .long x2), (4, .int what)]) hx hb dX11_lowest_22 hl (by decide) rfl (fun ls hl => ?_)
        refine lv_lload hx hb dX11_lowest_24 (lv_at hl 1 rfl) ?_
        refine lv_lstore (lv' := [(7, .long (y2 - y2 / y1 * y1)), (5, .long y1), (9, .long (y2 - y2 / y1 * y1)), (0, .long x1), (2, .long x2), (4, .int what)]) hx hb dX11_lowest_26 hl (by decide) rfl (fun ls hl => ?_)
        refine lv_goto (tgt := 6) hx hb dX11_lowest_28 rfl ?_
        exact ih6_3 (y2 - y2 / y1 * y1) y1 (Nat.lt_of_lt_of_le (rem_lt (by have t_hinv := hinv.1; have t_c5 := lcm_eq_f c5; have : (0 : Int64).toInt = 0 := qL_0; omega)) (Nat.le_of_lt_succ hm4)) ⟨Or.inr (by have t_hinv := hinv.1; have t_c5 := lcm_eq_f c5; have : (0 : Int64).toInt = 0 := qL_0; omega), (by rw [← hinv.2]; exact (euV_s (by have t_hinv := hinv.1; have t_c5 := lcm_eq_f c5; have : (0 : Int64).toInt = 0 := qL_0; omega)).symm)⟩ _ _ hP hS ls (lv_sub hl [0, 1, 3, 4, 5] rfl)
  exact loop6_3 (x2.toInt.natAbs + 1) x2 x1 (Nat.lt_succ_self _) ⟨Or.inl hx2, rfl⟩ _ _ hP hS ls (lv_sub hl [0, 1, 2, 3, 4] rfl)

def NNg (a : Nat → Int64) : Prop := ∀ q : Nat, q < 10 → 0 ≤ (a q).toInt
theorem NNg.up {g : Nat → Int64} {k : Nat} {v : Int64} (h : NNg g) (hv : 0 ≤ v.toInt) : NNg (vp_updL g k v) := by
  intro q hq
  by_cases c : q = k
  · rw [c, upL_eq]; exact hv
  · rw [upL_ne c]; exact h q hq
-- the least of several
def mnF (v : Nat → Int64) : Nat → Int64 × Nat
  | 0 => (v 0, 0)
  | n + 1 => if (v (n + 1)).toInt < (mnF v n).1.toInt then (v (n + 1), n + 1) else mnF v n
theorem mnF_lt {v : Nat → Int64} {j k : Nat} {x : Int64} (hj : 1 ≤ j) (h : (x, k) = mnF v (j - 1)) (c : (v j).toInt < x.toInt) : (v j, j) = mnF v (j + 1 - 1) := by
  obtain ⟨n, rfl⟩ : ∃ n : Nat, j = n + 1 := ⟨j - 1, by omega⟩
  have h : (x, k) = mnF v n := h
  show _ = (if (v (n + 1)).toInt < (mnF v n).1.toInt then (v (n + 1), n + 1) else mnF v n)
  rw [← h, if_pos c]
theorem mnF_ge {v : Nat → Int64} {j k : Nat} {x : Int64} (hj : 1 ≤ j) (h : (x, k) = mnF v (j - 1)) (c : ¬ (v j).toInt < x.toInt) : (x, k) = mnF v (j + 1 - 1) := by
  obtain ⟨n, rfl⟩ : ∃ n : Nat, j = n + 1 := ⟨j - 1, by omega⟩
  have h : (x, k) = mnF v n := h
  show _ = (if (v (n + 1)).toInt < (mnF v n).1.toInt then (v (n + 1), n + 1) else mnF v n)
  rw [← h, if_neg c]
def mnI (v : Nat → Int64) (j : Nat) (x : Int64) (k : Nat) : Prop := (j = 0 ∧ x = 4000000000000000000 ∧ k = 0) ∨ (1 ≤ j ∧ (x, k) = mnF v (j - 1))
theorem mnI.lt {v : Nat → Int64} {j k : Nat} {x : Int64} (h : mnI v j x k) (c : (v j).toInt < x.toInt) : mnI v (j + 1) (v j) j := by
  rcases h with ⟨a, b, d⟩ | ⟨a, b⟩
  · subst a; exact Or.inr ⟨by omega, rfl⟩
  · exact Or.inr ⟨by omega, mnF_lt a b c⟩
theorem mnI.ge {v : Nat → Int64} {j k : Nat} {x : Int64} (h : mnI v j x k) (hf : (v j).toInt < 4000000000000000000) (c : ¬ (v j).toInt < x.toInt) : mnI v (j + 1) x k := by
  rcases h with ⟨a, b, d⟩ | ⟨a, b⟩
  · have z : (4000000000000000000 : Int64).toInt = 4000000000000000000 := by decide
    rw [b, z] at c
    exact absurd hf c
  · exact Or.inr ⟨by omega, mnF_ge a b c⟩
theorem qbF_0 (j : Nat) : qbF 0 j = 0 := by
  unfold qbF
  rw [Int32.zero_shiftRight]
  rfl
theorem mnF_w {v : Nat → Int64} : ∀ n : Nat, (mnF v n).2 ≤ n := by
  intro n
  induction n with
  | zero => exact Nat.le_refl 0
  | succ n ih =>
    show (if (v (n + 1)).toInt < (mnF v n).1.toInt then (v (n + 1), n + 1) else mnF v n).2 ≤ n + 1
    split
    · exact Nat.le_refl _
    · omega
theorem mnW {v : Nat → Int64} {x : Int64} {k j : Nat} (h : (x, k) = mnF v (j - 1)) : k ≤ j := by
  have t := mnF_w (v := v) (j - 1)
  rw [← h] at t
  have t : k ≤ j - 1 := t
  omega
theorem mnI.w {v : Nat → Int64} {x : Int64} {k j : Nat} (h : mnI v j x k) : k ≤ j := by
  rcases h with ⟨_, _, d⟩ | ⟨_, b⟩
  · omega
  · exact mnW b

def xcg (a : Nat → Int32) (i k : Nat) : Nat → Int32 := upd (upd a i (a k)) k (a i)
theorem xcg_xcg {a : Nat → Int32} {i k : Nat} : xcg (xcg a i k) i k = a := by
  funext q
  unfold xcg upd
  by_cases c : q = k
  · by_cases d : i = k
    · simp [c, d]
    · simp [c, d] <;> (intro e; rw [e])
  · by_cases d : q = i
    · simp [c, d] <;> (intro e n; exact absurd e n)
    · simp [c, d]
def swK (v : Nat → Nat → Int64) (i : Nat) : Nat → Int64 × Int32 → Int64 × Int32
  | 0, s => s
  | n + 1, s => if (v i (i + 1 + n)).toInt < (swK v i n s).1.toInt then (v i (i + 1 + n), nI (10 * i + (i + 1 + n))) else swK v i n s
def swJ (v : Nat → Nat → Int64) (N : Nat) (s : Int64 × Int32) : Nat → Int64 × Int32
  | 0 => s
  | i + 1 => swK v i (N - (i + 1)) (swJ v N s i)
theorem swK_lt {v : Nat → Nat → Int64} {i k : Nat} {s : Int64 × Int32} {x : Int64} {w : Int32} (hk : i + 1 ≤ k) (h : (x, w) = swK v i (k - (i + 1)) s) (c : (v i k).toInt < x.toInt) : (v i k, nI (10 * i + k)) = swK v i (k + 1 - (i + 1)) s := by
  obtain ⟨n, rfl⟩ : ∃ n : Nat, k = i + 1 + n := ⟨k - (i + 1), by omega⟩
  rw [show i + 1 + n - (i + 1) = n by omega] at h
  rw [show i + 1 + n + 1 - (i + 1) = n + 1 by omega]
  show _ = (if (v i (i + 1 + n)).toInt < (swK v i n s).1.toInt then (v i (i + 1 + n), nI (10 * i + (i + 1 + n))) else swK v i n s)
  rw [← h, if_pos c]
theorem swK_ge {v : Nat → Nat → Int64} {i k : Nat} {s : Int64 × Int32} {x : Int64} {w : Int32} (hk : i + 1 ≤ k) (h : (x, w) = swK v i (k - (i + 1)) s) (c : ¬ (v i k).toInt < x.toInt) : (x, w) = swK v i (k + 1 - (i + 1)) s := by
  obtain ⟨n, rfl⟩ : ∃ n : Nat, k = i + 1 + n := ⟨k - (i + 1), by omega⟩
  rw [show i + 1 + n - (i + 1) = n by omega] at h
  rw [show i + 1 + n + 1 - (i + 1) = n + 1 by omega]
  show _ = (if (v i (i + 1 + n)).toInt < (swK v i n s).1.toInt then (v i (i + 1 + n), nI (10 * i + (i + 1 + n))) else swK v i n s)
  rw [← h, if_neg c]
theorem swK_cg {v v' : Nat → Nat → Int64} {i : Nat} {s : Int64 × Int32} : ∀ n : Nat, (∀ k : Nat, k < i + 1 + n → v i k = v' i k) → swK v i n s = swK v' i n s := by
  intro n
  induction n with
  | zero => intro _; rfl
  | succ n ih =>
    intro h
    show (if (v i (i + 1 + n)).toInt < (swK v i n s).1.toInt then (v i (i + 1 + n), nI (10 * i + (i + 1 + n))) else swK v i n s) = (if (v' i (i + 1 + n)).toInt < (swK v' i n s).1.toInt then (v' i (i + 1 + n), nI (10 * i + (i + 1 + n))) else swK v' i n s)
    rw [h (i + 1 + n) (by omega), ih (fun k hk => h k (by omega))]
theorem swJ_cg {v v' : Nat → Nat → Int64} {N : Nat} {s : Int64 × Int32} (h : ∀ i k : Nat, i < N → k < N → v i k = v' i k) : ∀ n : Nat, n ≤ N → swJ v N s n = swJ v' N s n := by
  intro n
  induction n with
  | zero => intro _; rfl
  | succ n ih =>
    intro hn
    show swK v n (N - (n + 1)) (swJ v N s n) = swK v' n (N - (n + 1)) (swJ v' N s n)
    rw [ih (by omega)]
    exact swK_cg _ (fun k hk => h n k (by omega) (by omega))
def swA (what : Int32) (N : Nat) (s : Int64 × Int32) : Int64 := if s.2 = -4 ∨ what = 2 then s.2.toInt64 else frF s.1 (powF N) what

set_option maxHeartbeats 1000000 in
set_option maxRecDepth 100000 in
theorem c_X9_exchangeE (l : Launch) (dC : Nat → ClassId) (dI : Nat → Nat → Nat) (G : Nat → ClassId) (sz : Nat) (h0 a1 a2 a3 a4 a5 a6 N B D i k : Nat) (f3 : Nat → Int32) (hN_N : N ≤ 10) (hB_B : B ≤ 6) (hD_D : 1 ≤ D ∧ D ≤ 9) (hi : i < N) (hk : k < N) : Met l yX9_exchange (Cond.code yX9_exchange cX9_exchange 4 none :: GT) ({ frames := 1, cells := 0, slots := 0, locals := 21 } : Room) (PcW [.ref h0, .int (nI i), .int (nI k)] dC dI G [(h0, .inr (9, [.int (nI N), .int (nI B), .int (nI D), .ref a1, .ref a2, .ref a3, .ref a4, .ref a5, .ref a6])), (a3, .inl (G 0, 10, .inl f3))] sz) (va_Qv (fun (u : (Nat → Int32)) => match u with | u0 => u0 = xcg f3 i k) (fun (u : (Nat → Int32)) (t : State) => match u with | u0 => va_P (dC, dI) vwCl [(h0, .inr (9, [.int (nI N), .int (nI B), .int (nI D), .ref a1, .ref a2, .ref a3, .ref a4, .ref a5, .ref a6])), (a3, .inl (G 0, 10, .inl u0))] t.heap ∧ va_D (va_A [(h0, .inr (9, [.int (nI N), .int (nI B), .int (nI D), .ref a1, .ref a2, .ref a3, .ref a4, .ref a5, .ref a6])), (a3, .inl (G 0, 10, .inl f3))] sz) [(h0, .inr (9, [.int (nI N), .int (nI B), .int (nI D), .ref a1, .ref a2, .ref a3, .ref a4, .ref a5, .ref a6])), (a3, .inl (G 0, 10, .inl u0))]) (va_A [(h0, .inr (9, [.int (nI N), .int (nI B), .int (nI D), .ref a1, .ref a2, .ref a3, .ref a4, .ref a5, .ref a6])), (a3, .inl (G 0, 10, .inl f3))] sz)) 0 0 (va_A [(h0, .inr (9, [.int (nI N), .int (nI B), .int (nI D), .ref a1, .ref a2, .ref a3, .ref a4, .ref a5, .ref a6])), (a3, .inl (G 0, 10, .inl f3))] sz) := by
  have tn2353_ : nIT N := fun _ => nI_toInt (by omega)
  have tn2354_ : nIT B := fun _ => nI_toInt (by omega)
  have tn2355_ : nIT D := fun _ => nI_toInt (by omega)
  refine Met.ofW (cc := cX9_exchange) (maxL := 4) (ret := none) (by decide) rfl ?_
  intro p e s m args below meth c s₁ Bd hml hv
  obtain ⟨rfl, hsz, hP, hK, hD0⟩ := hv
  have hx := Bd.exec
  have hb := Bd.bytes
  have hr := Bd.returns
  have hg : ∀ w ∈ GT, w.before ([.ref h0, .int (nI i), .int (nI k)] : List Value).toArray s = true := fun w h => atoms_spec (ws := Cond.code yX9_exchange cX9_exchange 4 none :: GT) Bd.pre w (List.mem_cons_of_mem _ h)
  have hown : s.vm.findClass RX9 = some m.cls := findClass_of_methodNamed Bd.named
  have hlocks := Bd.notSynchronized
  subst hsz
  have hD := hD0.self (sz := s.heap.size)
  generalize hAe : va_A [(h0, .inr (9, [.int (nI N), .int (nI B), .int (nI D), .ref a1, .ref a2, .ref a3, .ref a4, .ref a5, .ref a6])), (a3, .inl (G 0, 10, .inl f3))] s.heap.size = A at hD ⊢
  have hA : ∀ q : Nat, s.heap.size ≤ q → A q := fun q h => by rw [← hAe]; exact Or.inr h
  have hS : va_S A s.heap s.heap [] := va_S.rf
  have hl := lv_entry ([.ref h0, .int (nI i), .int (nI k)]) (n := 4) (Nat.le_of_ble_eq_true rfl)
  rw [lg_entry_eq]
  generalize (lg_sl ([.ref h0, .int (nI i), .int (nI k)]) ++ List.replicate (4 - (lg_sl ([.ref h0, .int (nI i), .int (nI k)])).length) Slot.unset).toArray = ls at hl ⊢
  have hl : lv_has ls 4 [(0, .ref h0), (1, .int (nI i)), (2, .int (nI k))] := hl
  refine lv_aload_n hx hb dX9_exchange_0 rfl (lv_at hl 0 rfl) ?_
  refine lv_iload_n hx hb dX9_exchange_1 rfl (lv_at hl 1 rfl) ?_
  have hPc := hP.sub (ws' := [(h0, .inr (9, [.int (nI N), .int (nI B), .int (nI D), .ref a1, .ref a2, .ref a3, .ref a4, .ref a5, .ref a6]))]) [0] rfl
  have tn2356_ : nIT i := fun _ => nI_toInt (by omega)
  have tn2357_ : nIT k := fun _ => nI_toInt (by omega)
  refine va_calli (va_runV (As := [.int (nI i)]) (rest := []) ⟨hx, hb, hml, hown, hg⟩ (c_X9_hasStretch l dC dI G _ h0 a1 a2 a3 a4 a5 a6 N B D (nI i) hN_N hB_B hD_D) (kwV hg mfX9_hasStretch wt_574 ⟨Nat.le_of_ble_eq_true rfl, Nat.le_of_ble_eq_true rfl⟩) (preVR hK hPc (ci := 9) (r := (RX9, TX9, 9)) rfl rfl) rfl rfl hl.1 rfl (lv_room (Nat.le_of_ble_eq_true rfl)) dX9_exchange_2 ⟨Nat.le_of_ble_eq_true rfl, Nat.le_of_ble_eq_true rfl⟩) hS (fun q h1 h2 => absurd h2 (Nat.not_le.mpr h1)) (fun q h => hA q (Nat.le_trans hS.1 h)) (fun r1 ur1 t H1 locs ht hvm w2 hB hz1 hk1 hS => ?_)
  have hP := keepR hP hk1
  obtain ⟨w2, w2x⟩ := w2
  try simp only [l_ii, show (0 : Int32).toInt = 0 from by decide] at w2
  try rw [show (nI (i)).toInt = ((i : Nat) : Int) from tn2356_ ()] at w2
  try rw [show (nI (N)).toInt = ((N : Nat) : Int) from tn2353_ ()] at w2
  have w2 : r1 = 1 := w2.trans (if_pos (by have tnb_ := nib5 tn2356_ tn2357_ tn2353_ tn2354_ tn2355_; omega))
  subst w2
  refine lv_if_eq (tgt := 42) hx hb dX9_exchange_5 rfl (fun c3 => ?_) (fun c3 => ?_)
  · skip
    exact absurd c3 (by decide)
  · skip
    refine lv_aload_n hx hb dX9_exchange_8 rfl (lv_at hl 0 rfl) ?_
    refine lv_iload_n hx hb dX9_exchange_9 rfl (lv_at hl 2 rfl) ?_
    have hPc := hP.sub (ws' := [(h0, .inr (9, [.int (nI N), .int (nI B), .int (nI D), .ref a1, .ref a2, .ref a3, .ref a4, .ref a5, .ref a6]))]) [0] rfl
    refine va_calli (va_runV (As := [.int (nI k)]) (rest := []) ⟨hx, hb, hml, hown, hg⟩ (c_X9_hasStretch l dC dI G _ h0 a1 a2 a3 a4 a5 a6 N B D (nI k) hN_N hB_B hD_D) (kwV hg mfX9_hasStretch wt_574 ⟨Nat.le_of_ble_eq_true rfl, Nat.le_of_ble_eq_true rfl⟩) (preVR hK hPc (ci := 9) (r := (RX9, TX9, 9)) rfl rfl) rfl rfl hl.1 rfl (lv_room (Nat.le_of_ble_eq_true rfl)) dX9_exchange_10 ⟨Nat.le_of_ble_eq_true rfl, Nat.le_of_ble_eq_true rfl⟩) hS (fun q h1 h2 => absurd h2 (Nat.not_le.mpr h1)) (fun q h => hA q (Nat.le_trans hS.1 h)) (fun r4 ur4 t H1 locs ht hvm w5 hB hz1 hk1 hS => ?_)
    have hP := keepR hP hk1
    obtain ⟨w5, w5x⟩ := w5
    try simp only [l_ii, show (0 : Int32).toInt = 0 from by decide] at w5
    try rw [show (nI (k)).toInt = ((k : Nat) : Int) from tn2357_ ()] at w5
    try rw [show (nI (N)).toInt = ((N : Nat) : Int) from tn2353_ ()] at w5
    have w5 : r4 = 1 := w5.trans (if_pos (by have t_c3 := neI c3; have tqz_ := qz2_; have tnb_ := nib5 tn2356_ tn2357_ tn2353_ tn2354_ tn2355_; omega))
    subst w5
    refine lv_if_eq (tgt := 42) hx hb dX9_exchange_13 rfl (fun c6 => ?_) (fun c6 => ?_)
    · skip
      exact absurd c6 (by decide)
    · skip
      refine lv_aload_n hx hb dX9_exchange_16 rfl (lv_at hl 0 rfl) ?_
      refine va_get (D := (dC, dI)) (ci := 9) (v := .ref a3) (C := RX9) (T := TX9) (N := 9) hx hb hg inG9 hown hK.1 hP 0 rfl rfl 5 (Nat.le_of_ble_eq_true rfl) (hg _ wt_77) (fun _ h9 => h9) rfl dX9_exchange_17 ?_
      refine lv_iload_n hx hb dX9_exchange_20 rfl (lv_at hl 1 rfl) ?_
      refine va_iald hx hb hK.1 hP 1 0 rfl rfl (vp_in_nI (by first | omega | (have t_c3 := neI c3; have t_c6 := neI c6; have tqz_ := qz2_; have tnb_ := nib5 tn2356_ tn2357_ tn2353_ tn2354_ tn2355_; omega)) (by decide)) dX9_exchange_21 ?_
      refine lv_cg (y := f3 i) (by rw [nI_clamp (by omega)]) ?_
      refine lv_istore_n (lv' := [(3, .int (f3 i)), (0, .ref h0), (1, .int (nI i)), (2, .int (nI k))]) hx hb dX9_exchange_22 rfl hl (by decide) rfl (fun ls hl => ?_)
      refine lv_aload_n hx hb dX9_exchange_23 rfl (lv_at hl 1 rfl) ?_
      refine va_get (D := (dC, dI)) (ci := 9) (v := .ref a3) (C := RX9) (T := TX9) (N := 9) hx hb hg inG9 hown hK.1 hP 0 rfl rfl 5 (Nat.le_of_ble_eq_true rfl) (hg _ wt_77) (fun _ h9 => h9) rfl dX9_exchange_24 ?_
      refine lv_iload_n hx hb dX9_exchange_27 rfl (lv_at hl 2 rfl) ?_
      refine lv_aload_n hx hb dX9_exchange_28 rfl (lv_at hl 1 rfl) ?_
      refine va_get (D := (dC, dI)) (ci := 9) (v := .ref a3) (C := RX9) (T := TX9) (N := 9) hx hb hg inG9 hown hK.1 hP 0 rfl rfl 5 (Nat.le_of_ble_eq_true rfl) (hg _ wt_77) (fun _ h9 => h9) rfl dX9_exchange_29 ?_
      refine lv_iload_n hx hb dX9_exchange_32 rfl (lv_at hl 3 rfl) ?_
      refine va_iald hx hb hK.1 hP 1 0 rfl rfl (vp_in_nI (by first | omega | (have t_c3 := neI c3; have t_c6 := neI c6; have tqz_ := qz2_; have tnb_ := nib5 tn2356_ tn2357_ tn2353_ tn2354_ tn2355_; omega)) (by decide)) dX9_exchange_33 ?_
      refine lv_cg (y := f3 k) (by rw [nI_clamp (by omega)]) ?_
      refine va_iast hx hb hK.1 hP hD hS 1 0 rfl rfl (vp_in_nI (by first | omega | (have t_c3 := neI c3; have t_c6 := neI c6; have tqz_ := qz2_; have tnb_ := nib5 tn2356_ tn2357_ tn2353_ tn2354_ tn2355_; omega)) (by decide)) dX9_exchange_34 (fun H locs hP hD hS => ?_)
      rw [nI_clamp (by omega)] at hP hD
      refine lv_aload_n hx hb dX9_exchange_35 rfl (lv_at hl 1 rfl) ?_
      refine va_get (D := (dC, dI)) (ci := 9) (v := .ref a3) (C := RX9) (T := TX9) (N := 9) hx hb hg inG9 hown hK.1 hP 0 rfl rfl 5 (Nat.le_of_ble_eq_true rfl) (hg _ wt_77) (fun _ h9 => h9) rfl dX9_exchange_36 ?_
      refine lv_iload_n hx hb dX9_exchange_39 rfl (lv_at hl 3 rfl) ?_
      refine lv_iload_n hx hb dX9_exchange_40 rfl (lv_at hl 0 rfl) ?_
      refine va_iast hx hb hK.1 hP hD hS 1 0 rfl rfl (vp_in_nI (by first | omega | (have t_c3 := neI c3; have t_c6 := neI c6; have tqz_ := qz2_; have tnb_ := nib5 tn2356_ tn2357_ tn2353_ tn2354_ tn2355_; omega)) (by decide)) dX9_exchange_41 (fun H locs hP hD hS => ?_)
      rw [nI_clamp (by omega)] at hP hD
      obtain ⟨hP9, hD9⟩ := va_sub2 (ws' := [(h0, .inr (9, [.int (nI N), .int (nI B), .int (nI D), .ref a1, .ref a2, .ref a3, .ref a4, .ref a5, .ref a6])), (a3, .inl (G 0, 10, .inl (upd (upd f3 i (f3 k)) k (f3 i))))]) hP hD [0, 1] (by decide +kernel) rfl
      refine W.widen (k := 0) (n := 0) (Nat.le_of_ble_eq_true rfl) (Nat.le_of_ble_eq_true rfl) ?_
      exact W.vret hx hb hr (fun t ht hW => ⟨⟨(upd (upd f3 i (f3 k)) k (f3 i)), rfl, rfl, ⟨by rw [ht]; exact hP9, hD9⟩⟩, hS.F ht⟩) hS.2.2 dX9_exchange_42

set_option maxHeartbeats 1000000 in
set_option maxRecDepth 100000 in
theorem c_X10_swapE (l : Launch) (dC : Nat → ClassId) (dI : Nat → Nat → Nat) (G : Nat → ClassId) (sz : Nat) (h0 rd wy tr im kp od ch cr le mk tl sh sa aa a1 a2 a3 a4 a5 a6 N B D tc1 tc2 tc3 tc4 tc5 tc6 X Y Z : Nat) (tf rf what : Int32) (w0 : Int64) (f1 f2 f3 f4 f5 f6 z1 z2 z3 z4 z5 z6 : Nat → Int32) (f g : Nat → Int64) (hN_N : N ≤ 10) (hB_B : B ≤ 6) (hD_D : 1 ≤ D ∧ D ≤ 9) (hN_X : X ≤ 10) (hB_Y : Y ≤ 6) (hD_Z : 1 ≤ Z ∧ Z ≤ 9) : Met l yX10_swap (Cond.code yX10_swap cX10_swap 9 (some .long) :: GT) ({ frames := 5, cells := 0, slots := 0, locals := 121 } : Room) (PcW [.ref h0, .int what] dC dI G [(h0, .inr (10, [.ref rd, .ref wy, .ref tr, .ref im, .ref kp, .ref od, .ref ch, .ref cr, .ref le, .ref mk, .ref tl, .ref sh, .int tf, .int rf])), (tr, .inr (9, [.int (nI X), .int (nI Y), .int (nI Z), .ref tc1, .ref tc2, .ref tc3, .ref tc4, .ref tc5, .ref tc6])), (tc1, .inl (G 0, 10, .inl z1)), (tc2, .inl (G 0, 10, .inl z2)), (tc3, .inl (G 0, 10, .inl z3)), (tc4, .inl (G 0, 6, .inl z4)), (tc5, .inl (G 0, 6, .inl z5)), (tc6, .inl (G 0, 6, .inl z6)), (od, .inr (4, [.long w0, .ref sa, .ref aa])), (sa, .inl (G 1, 10, .inr (.inl f))), (aa, .inl (G 1, 10, .inr (.inl g))), (wy, .inr (9, [.int (nI N), .int (nI B), .int (nI D), .ref a1, .ref a2, .ref a3, .ref a4, .ref a5, .ref a6])), (a1, .inl (G 0, 10, .inl f1)), (a2, .inl (G 0, 10, .inl f2)), (a3, .inl (G 0, 10, .inl f3)), (a4, .inl (G 0, 6, .inl f4)), (a5, .inl (G 0, 6, .inl f5)), (a6, .inl (G 0, 6, .inl f6))] sz) (va_Ql (fun (r : Int64) (u : Nat × Nat × Nat × (Nat → Int32) × (Nat → Int32) × (Nat → Int32) × (Nat → Int32) × (Nat → Int32) × (Nat → Int32) × Int64 × (Nat → Int64) × (Nat → Int64)) => match u with | (u0, u1, u2, u3, u4, u5, u6, u7, u8, u9, v1, v2) => (r = if (0 ≤ what.toInt ∧ what.toInt ≤ 2) then swA what N (swJ (fun ib kb => odS (fun jb => hmO N B (va_cpy f1 z1 0 0 10) (va_cpy f2 z2 0 0 10) (xcg (va_cpy f3 z3 0 0 10) ib kb) (va_cpy f4 z4 0 0 6) (va_cpy f5 z5 0 0 6) (va_cpy f6 z6 0 0 6) (nI jb)) D (-4) N 0) N (odS (fun jb => hmO N B f1 f2 f3 f4 f5 f6 (nI jb)) D (-4) N 0, -4) N) else -1) ∧ u0 ≤ 10 ∧ u1 ≤ 6 ∧ (1 ≤ u2 ∧ u2 ≤ 9)) (fun (u : Nat × Nat × Nat × (Nat → Int32) × (Nat → Int32) × (Nat → Int32) × (Nat → Int32) × (Nat → Int32) × (Nat → Int32) × Int64 × (Nat → Int64) × (Nat → Int64)) (t : State) => match u with | (u0, u1, u2, u3, u4, u5, u6, u7, u8, u9, v1, v2) => va_P (dC, dI) vwCl [(h0, .inr (10, [.ref rd, .ref wy, .ref tr, .ref im, .ref kp, .ref od, .ref ch, .ref cr, .ref le, .ref mk, .ref tl, .ref sh, .int tf, .int rf])), (tr, .inr (9, [.int (nI u0), .int (nI u1), .int (nI u2), .ref tc1, .ref tc2, .ref tc3, .ref tc4, .ref tc5, .ref tc6])), (tc1, .inl (G 0, 10, .inl u3)), (tc2, .inl (G 0, 10, .inl u4)), (tc3, .inl (G 0, 10, .inl u5)), (tc4, .inl (G 0, 6, .inl u6)), (tc5, .inl (G 0, 6, .inl u7)), (tc6, .inl (G 0, 6, .inl u8)), (od, .inr (4, [.long u9, .ref sa, .ref aa])), (sa, .inl (G 1, 10, .inr (.inl v1))), (aa, .inl (G 1, 10, .inr (.inl v2))), (wy, .inr (9, [.int (nI N), .int (nI B), .int (nI D), .ref a1, .ref a2, .ref a3, .ref a4, .ref a5, .ref a6])), (a1, .inl (G 0, 10, .inl f1)), (a2, .inl (G 0, 10, .inl f2)), (a3, .inl (G 0, 10, .inl f3)), (a4, .inl (G 0, 6, .inl f4)), (a5, .inl (G 0, 6, .inl f5)), (a6, .inl (G 0, 6, .inl f6))] t.heap ∧ va_D (va_A [(h0, .inr (10, [.ref rd, .ref wy, .ref tr, .ref im, .ref kp, .ref od, .ref ch, .ref cr, .ref le, .ref mk, .ref tl, .ref sh, .int tf, .int rf])), (tr, .inr (9, [.int (nI X), .int (nI Y), .int (nI Z), .ref tc1, .ref tc2, .ref tc3, .ref tc4, .ref tc5, .ref tc6])), (tc1, .inl (G 0, 10, .inl z1)), (tc2, .inl (G 0, 10, .inl z2)), (tc3, .inl (G 0, 10, .inl z3)), (tc4, .inl (G 0, 6, .inl z4)), (tc5, .inl (G 0, 6, .inl z5)), (tc6, .inl (G 0, 6, .inl z6)), (od, .inr (4, [.long w0, .ref sa, .ref aa])), (sa, .inl (G 1, 10, .inr (.inl f))), (aa, .inl (G 1, 10, .inr (.inl g))), (wy, .inr (9, [.int (nI N), .int (nI B), .int (nI D), .ref a1, .ref a2, .ref a3, .ref a4, .ref a5, .ref a6])), (a1, .inl (G 0, 10, .inl f1)), (a2, .inl (G 0, 10, .inl f2)), (a3, .inl (G 0, 10, .inl f3)), (a4, .inl (G 0, 6, .inl f4)), (a5, .inl (G 0, 6, .inl f5)), (a6, .inl (G 0, 6, .inl f6))] sz) [(h0, .inr (10, [.ref rd, .ref wy, .ref tr, .ref im, .ref kp, .ref od, .ref ch, .ref cr, .ref le, .ref mk, .ref tl, .ref sh, .int tf, .int rf])), (tr, .inr (9, [.int (nI u0), .int (nI u1), .int (nI u2), .ref tc1, .ref tc2, .ref tc3, .ref tc4, .ref tc5, .ref tc6])), (tc1, .inl (G 0, 10, .inl u3)), (tc2, .inl (G 0, 10, .inl u4)), (tc3, .inl (G 0, 10, .inl u5)), (tc4, .inl (G 0, 6, .inl u6)), (tc5, .inl (G 0, 6, .inl u7)), (tc6, .inl (G 0, 6, .inl u8)), (od, .inr (4, [.long u9, .ref sa, .ref aa])), (sa, .inl (G 1, 10, .inr (.inl v1))), (aa, .inl (G 1, 10, .inr (.inl v2))), (wy, .inr (9, [.int (nI N), .int (nI B), .int (nI D), .ref a1, .ref a2, .ref a3, .ref a4, .ref a5, .ref a6])), (a1, .inl (G 0, 10, .inl f1)), (a2, .inl (G 0, 10, .inl f2)), (a3, .inl (G 0, 10, .inl f3)), (a4, .inl (G 0, 6, .inl f4)), (a5, .inl (G 0, 6, .inl f5)), (a6, .inl (G 0, 6, .inl f6))]) (va_A [(h0, .inr (10, [.ref rd, .ref wy, .ref tr, .ref im, .ref kp, .ref od, .ref ch, .ref cr, .ref le, .ref mk, .ref tl, .ref sh, .int tf, .int rf])), (tr, .inr (9, [.int (nI X), .int (nI Y), .int (nI Z), .ref tc1, .ref tc2, .ref tc3, .ref tc4, .ref tc5, .ref tc6])), (tc1, .inl (G 0, 10, .inl z1)), (tc2, .inl (G 0, 10, .inl z2)), (tc3, .inl (G 0, 10, .inl z3)), (tc4, .inl (G 0, 6, .inl z4)), (tc5, .inl (G 0, 6, .inl z5)), (tc6, .inl (G 0, 6, .inl z6)), (od, .inr (4, [.long w0, .ref sa, .ref aa])), (sa, .inl (G 1, 10, .inr (.inl f))), (aa, .inl (G 1, 10, .inr (.inl g))), (wy, .inr (9, [.int (nI N), .int (nI B), .int (nI D), .ref a1, .ref a2, .ref a3, .ref a4, .ref a5, .ref a6])), (a1, .inl (G 0, 10, .inl f1)), (a2, .inl (G 0, 10, .inl f2)), (a3, .inl (G 0, 10, .inl f3)), (a4, .inl (G 0, 6, .inl f4)), (a5, .inl (G 0, 6, .inl f5)), (a6, .inl (G 0, 6, .inl f6))] sz)) 0 0 (va_A [(h0, .inr (10, [.ref rd, .ref wy, .ref tr, .ref im, .ref kp, .ref od, .ref ch, .ref cr, .ref le, .ref mk, .ref tl, .ref sh, .int tf, .int rf])), (tr, .inr (9, [.int (nI X), .int (nI Y), .int (nI Z), .ref tc1, .ref tc2, .ref tc3, .ref tc4, .ref tc5, .ref tc6])), (tc1, .inl (G 0, 10, .inl z1)), (tc2, .inl (G 0, 10, .inl z2)), (tc3, .inl (G 0, 10, .inl z3)), (tc4, .inl (G 0, 6, .inl z4)), (tc5, .inl (G 0, 6, .inl z5)), (tc6, .inl (G 0, 6, .inl z6)), (od, .inr (4, [.long w0, .ref sa, .ref aa])), (sa, .inl (G 1, 10, .inr (.inl f))), (aa, .inl (G 1, 10, .inr (.inl g))), (wy, .inr (9, [.int (nI N), .int (nI B), .int (nI D), .ref a1, .ref a2, .ref a3, .ref a4, .ref a5, .ref a6])), (a1, .inl (G 0, 10, .inl f1)), (a2, .inl (G 0, 10, .inl f2)), (a3, .inl (G 0, 10, .inl f3)), (a4, .inl (G 0, 6, .inl f4)), (a5, .inl (G 0, 6, .inl f5)), (a6, .inl (G 0, 6, .inl f6))] sz) := by
  have tn2358_ : nIT N := fun _ => nI_toInt (by omega)
  have tn2359_ : nIT B := fun _ => nI_toInt (by omega)
  have tn2360_ : nIT D := fun _ => nI_toInt (by omega)
  have tn2361_ : nIT X := fun _ => nI_toInt (by omega)
  have tn2362_ : nIT Y := fun _ => nI_toInt (by omega)
  have tn2363_ : nIT Z := fun _ => nI_toInt (by omega)
  refine Met.ofW (cc := cX10_swap) (maxL := 9) (ret := (some .long)) (by decide) rfl ?_
  intro p e s m args below meth c s₁ Bd hml hv
  obtain ⟨rfl, hsz, hP, hK, hD0⟩ := hv
  have hx := Bd.exec
  have hb := Bd.bytes
  have hr := Bd.returns
  have hg : ∀ w ∈ GT, w.before ([.ref h0, .int what] : List Value).toArray s = true := fun w h => atoms_spec (ws := Cond.code yX10_swap cX10_swap 9 (some .long) :: GT) Bd.pre w (List.mem_cons_of_mem _ h)
  have hown : s.vm.findClass RX10 = some m.cls := findClass_of_methodNamed Bd.named
  have hlocks := Bd.notSynchronized
  subst hsz
  have hD := hD0.self (sz := s.heap.size)
  generalize hAe : va_A [(h0, .inr (10, [.ref rd, .ref wy, .ref tr, .ref im, .ref kp, .ref od, .ref ch, .ref cr, .ref le, .ref mk, .ref tl, .ref sh, .int tf, .int rf])), (tr, .inr (9, [.int (nI X), .int (nI Y), .int (nI Z), .ref tc1, .ref tc2, .ref tc3, .ref tc4, .ref tc5, .ref tc6])), (tc1, .inl (G 0, 10, .inl z1)), (tc2, .inl (G 0, 10, .inl z2)), (tc3, .inl (G 0, 10, .inl z3)), (tc4, .inl (G 0, 6, .inl z4)), (tc5, .inl (G 0, 6, .inl z5)), (tc6, .inl (G 0, 6, .inl z6)), (od, .inr (4, [.long w0, .ref sa, .ref aa])), (sa, .inl (G 1, 10, .inr (.inl f))), (aa, .inl (G 1, 10, .inr (.inl g))), (wy, .inr (9, [.int (nI N), .int (nI B), .int (nI D), .ref a1, .ref a2, .ref a3, .ref a4, .ref a5, .ref a6])), (a1, .inl (G 0, 10, .inl f1)), (a2, .inl (G 0, 10, .inl f2)), (a3, .inl (G 0, 10, .inl f3)), (a4, .inl (G 0, 6, .inl f4)), (a5, .inl (G 0, 6, .inl f5)), (a6, .inl (G 0, 6, .inl f6))] s.heap.size = A at hD ⊢
  have hA : ∀ q : Nat, s.heap.size ≤ q → A q := fun q h => by rw [← hAe]; exact Or.inr h
  have hS : va_S A s.heap s.heap [] := va_S.rf
  have hl := lv_entry ([.ref h0, .int what]) (n := 9) (Nat.le_of_ble_eq_true rfl)
  rw [lg_entry_eq]
  generalize (lg_sl ([.ref h0, .int what]) ++ List.replicate (9 - (lg_sl ([.ref h0, .int what])).length) Slot.unset).toArray = ls at hl ⊢
  have hl : lv_has ls 9 [(0, .ref h0), (1, .int what)] := hl
  refine lv_iload_n hx hb dX10_swap_0 rfl (lv_at hl 1 rfl) ?_
  have hPc := hP.sub (ws' := []) [] rfl
  refine va_calli (va_runS (As := [.int what]) (rest := []) ⟨hx, hb, hml, hown, hg⟩ (c_X10_isAnswerPart l dC dI G _ what) (kwS hg mfX10_isAnswerPart wt_694 ⟨Nat.le_of_ble_eq_true rfl, Nat.le_of_ble_eq_true rfl⟩) (preSR hK hPc) rfl rfl hl.1 rfl (lv_room (Nat.le_of_ble_eq_true rfl)) dX10_swap_1 ⟨Nat.le_of_ble_eq_true rfl, Nat.le_of_ble_eq_true rfl⟩) hS (fun q h1 h2 => absurd h2 (Nat.not_le.mpr h1)) (fun q h => hA q (Nat.le_trans hS.1 h)) (fun r1 ur1 t H1 locs ht hvm w2 hB hz1 hk1 hS => ?_)
  have hP := keepR hP hk1
  obtain ⟨w2, w2x⟩ := w2
  try simp only [l_ii, show (0 : Int32).toInt = 0 from by decide, show (2 : Int32).toInt = 2 from by decide] at w2
  subst w2
  refine lv_if_ne (tgt := 11) hx hb dX10_swap_4 rfl (fun c3 => ?_) (fun c3 => ?_)
  · skip
    have b4 := if10_p c3
    refine lv_aload_n hx hb dX10_swap_11 rfl (lv_at hl 0 rfl) ?_
    refine va_get (D := (dC, dI)) (ci := 10) (v := .ref tr) (C := RX10) (T := TX10) (N := 14) hx hb hg inG10 hown hK.1 hP 0 rfl rfl 2 (Nat.le_of_ble_eq_true rfl) (hg _ wt_304) (fun _ h9 => h9) rfl dX10_swap_12 ?_
    refine lv_aload_n hx hb dX10_swap_15 rfl (lv_at hl 0 rfl) ?_
    refine va_get (D := (dC, dI)) (ci := 10) (v := .ref wy) (C := RX10) (T := TX10) (N := 14) hx hb hg inG10 hown hK.1 hP 0 rfl rfl 1 (Nat.le_of_ble_eq_true rfl) (hg _ wt_303) (fun _ h9 => h9) rfl dX10_swap_16 ?_
    obtain ⟨hPc, hDc, hFc⟩ := va_sub3 (ws' := [(tr, .inr (9, [.int (nI X), .int (nI Y), .int (nI Z), .ref tc1, .ref tc2, .ref tc3, .ref tc4, .ref tc5, .ref tc6])), (tc1, .inl (G 0, 10, .inl z1)), (tc2, .inl (G 0, 10, .inl z2)), (tc3, .inl (G 0, 10, .inl z3)), (tc4, .inl (G 0, 6, .inl z4)), (tc5, .inl (G 0, 6, .inl z5)), (tc6, .inl (G 0, 6, .inl z6)), (wy, .inr (9, [.int (nI N), .int (nI B), .int (nI D), .ref a1, .ref a2, .ref a3, .ref a4, .ref a5, .ref a6])), (a1, .inl (G 0, 10, .inl f1)), (a2, .inl (G 0, 10, .inl f2)), (a3, .inl (G 0, 10, .inl f3)), (a4, .inl (G 0, 6, .inl f4)), (a5, .inl (G 0, 6, .inl f5)), (a6, .inl (G 0, 6, .inl f6))]) hP hD hS hA [1, 2, 3, 4, 5, 6, 7, 11, 12, 13, 14, 15, 16, 17] (by decide +kernel) rfl
    refine va_callv (va_runVN (As := [.ref wy]) (rest := []) ⟨hx, hb, hml, hown, hg⟩ (c_X9_copyOfE l dC dI G _ tr wy tc1 tc2 tc3 tc4 tc5 tc6 a1 a2 a3 a4 a5 a6 (nI X) (nI Y) (nI Z) (nI N) (nI B) (nI D) z1 z2 z3 z4 z5 z6 f1 f2 f3 f4 f5 f6) (kwVN hg hK mfX9_copyOf wn_507 ⟨Nat.le_of_ble_eq_true rfl, Nat.le_of_ble_eq_true rfl⟩) (preVW hK hPc hDc (ci := 9) (r := (RX9, TX9, 9)) rfl rfl) rfl rfl hl.1 rfl (lv_room (Nat.le_of_ble_eq_true rfl)) dX10_swap_19 ⟨Nat.le_of_ble_eq_true rfl, Nat.le_of_ble_eq_true rfl⟩) hS (fun q _ h => hFc q h) hFc (fun ur5 t H1 locs ht hvm w6 hB hz1 hk1 hS => ?_)
    obtain ⟨u7, u8, u9, u10, u11, u12⟩ := ur5
    obtain ⟨hP1, hD1⟩ := hB
    rw [ht] at hP1
    obtain ⟨hP, hD⟩ := va_join (wr := [(h0, .inr (10, [.ref rd, .ref wy, .ref tr, .ref im, .ref kp, .ref od, .ref ch, .ref cr, .ref le, .ref mk, .ref tl, .ref sh, .int tf, .int rf])), (od, .inr (4, [.long w0, .ref sa, .ref aa])), (sa, .inl (G 1, 10, .inr (.inl f))), (aa, .inl (G 1, 10, .inr (.inl g)))]) (w1 := [(tr, .inr (9, [.int (nI N), .int (nI B), .int (nI D), .ref tc1, .ref tc2, .ref tc3, .ref tc4, .ref tc5, .ref tc6])), (tc1, .inl (G 0, 10, .inl u7)), (tc2, .inl (G 0, 10, .inl u8)), (tc3, .inl (G 0, 10, .inl u9)), (tc4, .inl (G 0, 6, .inl u10)), (tc5, .inl (G 0, 6, .inl u11)), (tc6, .inl (G 0, 6, .inl u12)), (wy, .inr (9, [.int (nI N), .int (nI B), .int (nI D), .ref a1, .ref a2, .ref a3, .ref a4, .ref a5, .ref a6])), (a1, .inl (G 0, 10, .inl f1)), (a2, .inl (G 0, 10, .inl f2)), (a3, .inl (G 0, 10, .inl f3)), (a4, .inl (G 0, 6, .inl f4)), (a5, .inl (G 0, 6, .inl f5)), (a6, .inl (G 0, 6, .inl f6))]) hP hD [1, 2, 3, 4, 5, 6, 7, 11, 12, 13, 14, 15, 16, 17] [0, 8, 9, 10] rfl rfl (by decide +kernel) (by decide +kernel) hk1 hFc hP1 hD1
    have w6 : u7 = va_cpy f1 z1 0 0 10 ∧ u8 = va_cpy f2 z2 0 0 10 ∧ u9 = va_cpy f3 z3 0 0 10 ∧ u10 = va_cpy f4 z4 0 0 6 ∧ u11 = va_cpy f5 z5 0 0 6 ∧ u12 = va_cpy f6 z6 0 0 6 := w6
    generalize H1 = H at hP hS ⊢
    have ew60 : u7 = va_cpy f1 z1 0 0 10 := w6.1
    have ew61 : u8 = va_cpy f2 z2 0 0 10 := w6.2.1
    have ew62 : u9 = va_cpy f3 z3 0 0 10 := w6.2.2.1
    have ew63 : u10 = va_cpy f4 z4 0 0 6 := w6.2.2.2.1
    have ew64 : u11 = va_cpy f5 z5 0 0 6 := w6.2.2.2.2.1
    have ew65 : u12 = va_cpy f6 z6 0 0 6 := w6.2.2.2.2.2
    subst ew60
    subst ew61
    subst ew62
    subst ew63
    subst ew64
    subst ew65
    refine lv_aload_n hx hb dX10_swap_22 rfl (lv_at hl 0 rfl) ?_
    refine va_get (D := (dC, dI)) (ci := 10) (v := .ref od) (C := RX10) (T := TX10) (N := 14) hx hb hg inG10 hown hK.1 hP 0 rfl rfl 5 (Nat.le_of_ble_eq_true rfl) (hg _ wt_307) (fun _ h9 => h9) rfl dX10_swap_23 ?_
    refine lv_aload_n hx hb dX10_swap_26 rfl (lv_at hl 0 rfl) ?_
    refine va_get (D := (dC, dI)) (ci := 10) (v := .ref wy) (C := RX10) (T := TX10) (N := 14) hx hb hg inG10 hown hK.1 hP 0 rfl rfl 1 (Nat.le_of_ble_eq_true rfl) (hg _ wt_303) (fun _ h9 => h9) rfl dX10_swap_27 ?_
    refine lv_aload_n hx hb dX10_swap_30 rfl (lv_at hl 0 rfl) ?_
    refine va_get (D := (dC, dI)) (ci := 10) (v := .ref wy) (C := RX10) (T := TX10) (N := 14) hx hb hg inG10 hown hK.1 hP 0 rfl rfl 1 (Nat.le_of_ble_eq_true rfl) (hg _ wt_303) (fun _ h9 => h9) rfl dX10_swap_31 ?_
    refine va_getN (D := (dC, dI)) (ci := 9) (v := .int (nI N)) (C := RX9) (T := TX9) (N := 9) hx hb hg inG9 hown hK.1 hP 11 rfl rfl 0 (Nat.le_of_ble_eq_true rfl) (hK.nest wn_60) (fun _ h9 => h9) rfl dX10_swap_34 ?_
    refine lv_bipush (v := (-4)) hx hb dX10_swap_37 rfl ?_
    obtain ⟨hPc, hDc, hFc⟩ := va_sub3 (ws' := [(od, .inr (4, [.long w0, .ref sa, .ref aa])), (sa, .inl (G 1, 10, .inr (.inl f))), (aa, .inl (G 1, 10, .inr (.inl g))), (wy, .inr (9, [.int (nI N), .int (nI B), .int (nI D), .ref a1, .ref a2, .ref a3, .ref a4, .ref a5, .ref a6])), (a1, .inl (G 0, 10, .inl f1)), (a2, .inl (G 0, 10, .inl f2)), (a3, .inl (G 0, 10, .inl f3)), (a4, .inl (G 0, 6, .inl f4)), (a5, .inl (G 0, 6, .inl f5)), (a6, .inl (G 0, 6, .inl f6))]) hP hD hS hA [1, 2, 3, 11, 12, 13, 14, 15, 16, 17] (by decide +kernel) rfl
    refine va_calll (va_runVN (As := [.ref wy, .int (nI N), .int (-4)]) (rest := []) ⟨hx, hb, hml, hown, hg⟩ (c_X4_wakingE l dC dI G _ od sa aa wy a1 a2 a3 a4 a5 a6 N B D N (-4) w0 f1 f2 f3 f4 f5 f6 f g hN_N hB_B hD_D hN_N) (kwVN hg hK mfX4_waking wn_608 ⟨Nat.le_of_ble_eq_true rfl, Nat.le_of_ble_eq_true rfl⟩) (preVW hK hPc hDc (ci := 4) (r := (RX4, TX4, 3)) rfl rfl) rfl rfl hl.1 rfl (lv_room (Nat.le_of_ble_eq_true rfl)) dX10_swap_39 ⟨Nat.le_of_ble_eq_true rfl, Nat.le_of_ble_eq_true rfl⟩) hS (fun q _ h => hFc q h) hFc (fun r13 ur13 t H1 locs ht hvm w14 hB hz1 hk1 hS => ?_)
    obtain ⟨u15, u16, u17⟩ := ur13
    obtain ⟨hP1, hD1⟩ := hB
    rw [ht] at hP1
    obtain ⟨hP, hD⟩ := va_join (wr := [(h0, .inr (10, [.ref rd, .ref wy, .ref tr, .ref im, .ref kp, .ref od, .ref ch, .ref cr, .ref le, .ref mk, .ref tl, .ref sh, .int tf, .int rf])), (tr, .inr (9, [.int (nI N), .int (nI B), .int (nI D), .ref tc1, .ref tc2, .ref tc3, .ref tc4, .ref tc5, .ref tc6])), (tc1, .inl (G 0, 10, .inl (va_cpy f1 z1 0 0 10))), (tc2, .inl (G 0, 10, .inl (va_cpy f2 z2 0 0 10))), (tc3, .inl (G 0, 10, .inl (va_cpy f3 z3 0 0 10))), (tc4, .inl (G 0, 6, .inl (va_cpy f4 z4 0 0 6))), (tc5, .inl (G 0, 6, .inl (va_cpy f5 z5 0 0 6))), (tc6, .inl (G 0, 6, .inl (va_cpy f6 z6 0 0 6)))]) (w1 := [(od, .inr (4, [.long u15, .ref sa, .ref aa])), (sa, .inl (G 1, 10, .inr (.inl u16))), (aa, .inl (G 1, 10, .inr (.inl u17))), (wy, .inr (9, [.int (nI N), .int (nI B), .int (nI D), .ref a1, .ref a2, .ref a3, .ref a4, .ref a5, .ref a6])), (a1, .inl (G 0, 10, .inl f1)), (a2, .inl (G 0, 10, .inl f2)), (a3, .inl (G 0, 10, .inl f3)), (a4, .inl (G 0, 6, .inl f4)), (a5, .inl (G 0, 6, .inl f5)), (a6, .inl (G 0, 6, .inl f6))]) hP hD [1, 2, 3, 11, 12, 13, 14, 15, 16, 17] [0, 4, 5, 6, 7, 8, 9, 10] rfl rfl (by decide +kernel) (by decide +kernel) hk1 hFc hP1 hD1
    generalize H1 = H at hP hS ⊢
    obtain ⟨w14, w14x⟩ := w14
    subst w14
    refine lv_lstore_n (lv' := [(2, .long (odS (fun jb => hmO N B f1 f2 f3 f4 f5 f6 (nI jb)) D (-4) N 0)), (0, .ref h0), (1, .int what)]) hx hb dX10_swap_42 rfl hl (by decide) rfl (fun ls hl => ?_)
    refine lv_bipush (v := (-4)) hx hb dX10_swap_43 rfl ?_
    refine lv_istore (lv' := [(4, .int (-4)), (2, .long (odS (fun jb => hmO N B f1 f2 f3 f4 f5 f6 (nI jb)) D (-4) N 0)), (0, .ref h0), (1, .int what)]) hx hb dX10_swap_45 hl (by decide) rfl (fun ls hl => ?_)
    refine lv_iconst (v := 0) hx hb dX10_swap_47 rfl ?_
    refine lv_istore (lv' := [(5, .int 0), (4, .int (-4)), (2, .long (odS (fun jb => hmO N B f1 f2 f3 f4 f5 f6 (nI jb)) D (-4) N 0)), (0, .ref h0), (1, .int what)]) hx hb dX10_swap_48 hl (by decide) rfl (fun ls hl => ?_)
    have loop50_25 : ∀ (nf j18 : Nat), N + 1 ≤ j18 + nf → j18 ≤ N → ∀ (y19 : Int32) (y20 : Int64) (g21 : Nat → Int32) (y22 : Int64) (g23 : Nat → Int64) (g24 : Nat → Int64) (H : Heap) (locs : List Loc), (g21 = (va_cpy f3 z3 0 0 10) ∧ (y20, y19) = swJ (fun ib kb => odS (fun jb => hmO N B (va_cpy f1 z1 0 0 10) (va_cpy f2 z2 0 0 10) (xcg (va_cpy f3 z3 0 0 10) ib kb) (va_cpy f4 z4 0 0 6) (va_cpy f5 z5 0 0 6) (va_cpy f6 z6 0 0 6) (nI jb)) D (-4) N 0) N (odS (fun jb => hmO N B f1 f2 f3 f4 f5 f6 (nI jb)) D (-4) N 0, -4) j18 ∧ y22 = powF N) → va_P (dC, dI) vwCl [(h0, .inr (10, [.ref rd, .ref wy, .ref tr, .ref im, .ref kp, .ref od, .ref ch, .ref cr, .ref le, .ref mk, .ref tl, .ref sh, .int tf, .int rf])), (tr, .inr (9, [.int (nI N), .int (nI B), .int (nI D), .ref tc1, .ref tc2, .ref tc3, .ref tc4, .ref tc5, .ref tc6])), (tc1, .inl (G 0, 10, .inl (va_cpy f1 z1 0 0 10))), (tc2, .inl (G 0, 10, .inl (va_cpy f2 z2 0 0 10))), (tc3, .inl (G 0, 10, .inl g21)), (tc4, .inl (G 0, 6, .inl (va_cpy f4 z4 0 0 6))), (tc5, .inl (G 0, 6, .inl (va_cpy f5 z5 0 0 6))), (tc6, .inl (G 0, 6, .inl (va_cpy f6 z6 0 0 6))), (od, .inr (4, [.long y22, .ref sa, .ref aa])), (sa, .inl (G 1, 10, .inr (.inl g23))), (aa, .inl (G 1, 10, .inr (.inl g24))), (wy, .inr (9, [.int (nI N), .int (nI B), .int (nI D), .ref a1, .ref a2, .ref a3, .ref a4, .ref a5, .ref a6])), (a1, .inl (G 0, 10, .inl f1)), (a2, .inl (G 0, 10, .inl f2)), (a3, .inl (G 0, 10, .inl f3)), (a4, .inl (G 0, 6, .inl f4)), (a5, .inl (G 0, 6, .inl f5)), (a6, .inl (G 0, 6, .inl f6))] H → va_D A [(h0, .inr (10, [.ref rd, .ref wy, .ref tr, .ref im, .ref kp, .ref od, .ref ch, .ref cr, .ref le, .ref mk, .ref tl, .ref sh, .int tf, .int rf])), (tr, .inr (9, [.int (nI N), .int (nI B), .int (nI D), .ref tc1, .ref tc2, .ref tc3, .ref tc4, .ref tc5, .ref tc6])), (tc1, .inl (G 0, 10, .inl (va_cpy f1 z1 0 0 10))), (tc2, .inl (G 0, 10, .inl (va_cpy f2 z2 0 0 10))), (tc3, .inl (G 0, 10, .inl g21)), (tc4, .inl (G 0, 6, .inl (va_cpy f4 z4 0 0 6))), (tc5, .inl (G 0, 6, .inl (va_cpy f5 z5 0 0 6))), (tc6, .inl (G 0, 6, .inl (va_cpy f6 z6 0 0 6))), (od, .inr (4, [.long y22, .ref sa, .ref aa])), (sa, .inl (G 1, 10, .inr (.inl g23))), (aa, .inl (G 1, 10, .inr (.inl g24))), (wy, .inr (9, [.int (nI N), .int (nI B), .int (nI D), .ref a1, .ref a2, .ref a3, .ref a4, .ref a5, .ref a6])), (a1, .inl (G 0, 10, .inl f1)), (a2, .inl (G 0, 10, .inl f2)), (a3, .inl (G 0, 10, .inl f3)), (a4, .inl (G 0, 6, .inl f4)), (a5, .inl (G 0, 6, .inl f5)), (a6, .inl (G 0, 6, .inl f6))] → va_S A s.heap H locs → ∀ (ls : Array Slot), lv_has ls 9 [(5, .int (nI j18)), (4, .int y19), (2, .long y20), (0, .ref h0), (1, .int what)] → W p l e (headSpec (Cond.code yX10_swap cX10_swap 9 (some .long) :: GT) ({ frames := 5, cells := 0, slots := 0, locals := 121 } : Room)).room s m ([.ref h0, .int what] : List Value).toArray below meth c H locs 0 0 (MQ below (va_Ql (fun (r : Int64) (u : Nat × Nat × Nat × (Nat → Int32) × (Nat → Int32) × (Nat → Int32) × (Nat → Int32) × (Nat → Int32) × (Nat → Int32) × Int64 × (Nat → Int64) × (Nat → Int64)) => match u with | (u0, u1, u2, u3, u4, u5, u6, u7, u8, u9, v1, v2) => (r = if (0 ≤ what.toInt ∧ what.toInt ≤ 2) then swA what N (swJ (fun ib kb => odS (fun jb => hmO N B (va_cpy f1 z1 0 0 10) (va_cpy f2 z2 0 0 10) (xcg (va_cpy f3 z3 0 0 10) ib kb) (va_cpy f4 z4 0 0 6) (va_cpy f5 z5 0 0 6) (va_cpy f6 z6 0 0 6) (nI jb)) D (-4) N 0) N (odS (fun jb => hmO N B f1 f2 f3 f4 f5 f6 (nI jb)) D (-4) N 0, -4) N) else -1) ∧ u0 ≤ 10 ∧ u1 ≤ 6 ∧ (1 ≤ u2 ∧ u2 ≤ 9)) (fun (u : Nat × Nat × Nat × (Nat → Int32) × (Nat → Int32) × (Nat → Int32) × (Nat → Int32) × (Nat → Int32) × (Nat → Int32) × Int64 × (Nat → Int64) × (Nat → Int64)) (t : State) => match u with | (u0, u1, u2, u3, u4, u5, u6, u7, u8, u9, v1, v2) => va_P (dC, dI) vwCl [(h0, .inr (10, [.ref rd, .ref wy, .ref tr, .ref im, .ref kp, .ref od, .ref ch, .ref cr, .ref le, .ref mk, .ref tl, .ref sh, .int tf, .int rf])), (tr, .inr (9, [.int (nI u0), .int (nI u1), .int (nI u2), .ref tc1, .ref tc2, .ref tc3, .ref tc4, .ref tc5, .ref tc6])), (tc1, .inl (G 0, 10, .inl u3)), (tc2, .inl (G 0, 10, .inl u4)), (tc3, .inl (G 0, 10, .inl u5)), (tc4, .inl (G 0, 6, .inl u6)), (tc5, .inl (G 0, 6, .inl u7)), (tc6, .inl (G 0, 6, .inl u8)), (od, .inr (4, [.long u9, .ref sa, .ref aa])), (sa, .inl (G 1, 10, .inr (.inl v1))), (aa, .inl (G 1, 10, .inr (.inl v2))), (wy, .inr (9, [.int (nI N), .int (nI B), .int (nI D), .ref a1, .ref a2, .ref a3, .ref a4, .ref a5, .ref a6])), (a1, .inl (G 0, 10, .inl f1)), (a2, .inl (G 0, 10, .inl f2)), (a3, .inl (G 0, 10, .inl f3)), (a4, .inl (G 0, 6, .inl f4)), (a5, .inl (G 0, 6, .inl f5)), (a6, .inl (G 0, 6, .inl f6))] t.heap ∧ va_D A [(h0, .inr (10, [.ref rd, .ref wy, .ref tr, .ref im, .ref kp, .ref od, .ref ch, .ref cr, .ref le, .ref mk, .ref tl, .ref sh, .int tf, .int rf])), (tr, .inr (9, [.int (nI u0), .int (nI u1), .int (nI u2), .ref tc1, .ref tc2, .ref tc3, .ref tc4, .ref tc5, .ref tc6])), (tc1, .inl (G 0, 10, .inl u3)), (tc2, .inl (G 0, 10, .inl u4)), (tc3, .inl (G 0, 10, .inl u5)), (tc4, .inl (G 0, 6, .inl u6)), (tc5, .inl (G 0, 6, .inl u7)), (tc6, .inl (G 0, 6, .inl u8)), (od, .inr (4, [.long u9, .ref sa, .ref aa])), (sa, .inl (G 1, 10, .inr (.inl v1))), (aa, .inl (G 1, 10, .inr (.inl v2))), (wy, .inr (9, [.int (nI N), .int (nI B), .int (nI D), .ref a1, .ref a2, .ref a3, .ref a4, .ref a5, .ref a6])), (a1, .inl (G 0, 10, .inl f1)), (a2, .inl (G 0, 10, .inl f2)), (a3, .inl (G 0, 10, .inl f3)), (a4, .inl (G 0, 6, .inl f4)), (a5, .inl (G 0, 6, .inl f5)), (a6, .inl (G 0, 6, .inl f6))]) A) ([.ref h0, .int what] : List Value).toArray s 0 0 A) (F0 m 50 ls []) := by
      intro nf
      induction nf with
      | zero => intro j18 h1 h2; exact absurd h1 (by omega)
      | succ nf ih50_25 =>
        intro j18 hn26 hj27 y19 y20 g21 y22 g23 g24 H locs hinv hP hD hS ls hl
        refine lv_iload hx hb dX10_swap_50 (lv_at hl 0 rfl) ?_
        refine lv_aload_n hx hb dX10_swap_52 rfl (lv_at hl 3 rfl) ?_
        refine va_get (D := (dC, dI)) (ci := 10) (v := .ref wy) (C := RX10) (T := TX10) (N := 14) hx hb hg inG10 hown hK.1 hP 0 rfl rfl 1 (Nat.le_of_ble_eq_true rfl) (hg _ wt_303) (fun _ h9 => h9) rfl dX10_swap_53 ?_
        refine va_getN (D := (dC, dI)) (ci := 9) (v := .int (nI N)) (C := RX9) (T := TX9) (N := 9) hx hb hg inG9 hown hK.1 hP 11 rfl rfl 0 (Nat.le_of_ble_eq_true rfl) (hK.nest wn_60) (fun _ h9 => h9) rfl dX10_swap_56 ?_
        refine lv_icmp_ge (tgt := 156) hx hb dX10_swap_59 rfl (fun c28 => ?_) (fun c28 => ?_)
        · skip
          have tn2364_ : nIT j18 := fun _ => nI_toInt (by first | omega | (have t := leI c28; omega))
          have n29 : N ≤ j18 := by have t := leI c28; rw [show (nI (j18)).toInt = ((j18 : Nat) : Int) from tn2364_ ()] at t; rw [show (nI (N)).toInt = ((N : Nat) : Int) from tn2358_ ()] at t; omega
          refine lv_iload hx hb dX10_swap_156 (lv_at hl 1 rfl) ?_
          refine lv_bipush (v := (-4)) hx hb dX10_swap_158 rfl ?_
          refine lv_icmp_eq (tgt := 168) hx hb dX10_swap_160 rfl (fun c30 => ?_) (fun c30 => ?_)
          · skip
            refine lv_iload hx hb dX10_swap_168 (lv_at hl 1 rfl) ?_
            refine lv_i2l (v := y19.toInt64) hx hb dX10_swap_170 rfl ?_
            have hpost : (y19.toInt64 : Int64) = if (0 ≤ what.toInt ∧ what.toInt ≤ 2) then swA what N (swJ (fun ib kb => odS (fun jb => hmO N B (va_cpy f1 z1 0 0 10) (va_cpy f2 z2 0 0 10) (xcg (va_cpy f3 z3 0 0 10) ib kb) (va_cpy f4 z4 0 0 6) (va_cpy f5 z5 0 0 6) (va_cpy f6 z6 0 0 6) (nI jb)) D (-4) N 0) N (odS (fun jb => hmO N B f1 f2 f3 f4 f5 f6 (nI jb)) D (-4) N 0, -4) N) else -1 := by
              have e9 := hinv.2.1
              rw [show j18 = N by (have t_b4 := b4; have t_hj27 := hj27; have t_n29 := n29; have t_c30 := eqI c30; have : ((-4) : Int32).toInt = -4 := qI_m4; have tnb_ := nib7 tn2361_ tn2362_ tn2363_ tn2358_ tn2359_ tn2360_ tn2364_; have lz0 : (0 : Int32).toInt = 0 := qI_0; have lz1 : (1 : Int32).toInt = 1 := qI_1; have lz2 : (2 : Int32).toInt = 2 := qI_2; have lz3 : (3 : Int32).toInt = 3 := qI_3; have lz5 : (5 : Int32).toInt = 5 := qI_5; have lz9 : (9 : Int32).toInt = 9 := qI_9; omega)] at e9
              rw [if_pos (by (have t_b4 := b4; have t_hj27 := hj27; have t_n29 := n29; have t_c30 := eqI c30; have : ((-4) : Int32).toInt = -4 := qI_m4; have tnb_ := nib7 tn2361_ tn2362_ tn2363_ tn2358_ tn2359_ tn2360_ tn2364_; have lz0 : (0 : Int32).toInt = 0 := qI_0; have lz1 : (1 : Int32).toInt = 1 := qI_1; have lz2 : (2 : Int32).toInt = 2 := qI_2; have lz3 : (3 : Int32).toInt = 3 := qI_3; have lz5 : (5 : Int32).toInt = 5 := qI_5; have lz9 : (9 : Int32).toInt = 9 := qI_9; omega)), ← e9]
              unfold swA
              dsimp only
              first | (rw [if_pos (Or.inl (by first | with_reducible assumption | assumption))]; done) | (rw [if_pos (Or.inr (by first | with_reducible assumption | assumption))]; done) | (rw [if_neg (fun h9 => h9.elim (by first | with_reducible assumption | assumption) (by first | with_reducible assumption | assumption))]; first | done | (rw [hinv.2.2]; done))
            obtain ⟨hP9, hD9⟩ := va_sub2 (ws' := [(h0, .inr (10, [.ref rd, .ref wy, .ref tr, .ref im, .ref kp, .ref od, .ref ch, .ref cr, .ref le, .ref mk, .ref tl, .ref sh, .int tf, .int rf])), (tr, .inr (9, [.int (nI N), .int (nI B), .int (nI D), .ref tc1, .ref tc2, .ref tc3, .ref tc4, .ref tc5, .ref tc6])), (tc1, .inl (G 0, 10, .inl (va_cpy f1 z1 0 0 10))), (tc2, .inl (G 0, 10, .inl (va_cpy f2 z2 0 0 10))), (tc3, .inl (G 0, 10, .inl g21)), (tc4, .inl (G 0, 6, .inl (va_cpy f4 z4 0 0 6))), (tc5, .inl (G 0, 6, .inl (va_cpy f5 z5 0 0 6))), (tc6, .inl (G 0, 6, .inl (va_cpy f6 z6 0 0 6))), (od, .inr (4, [.long y22, .ref sa, .ref aa])), (sa, .inl (G 1, 10, .inr (.inl g23))), (aa, .inl (G 1, 10, .inr (.inl g24))), (wy, .inr (9, [.int (nI N), .int (nI B), .int (nI D), .ref a1, .ref a2, .ref a3, .ref a4, .ref a5, .ref a6])), (a1, .inl (G 0, 10, .inl f1)), (a2, .inl (G 0, 10, .inl f2)), (a3, .inl (G 0, 10, .inl f3)), (a4, .inl (G 0, 6, .inl f4)), (a5, .inl (G 0, 6, .inl f5)), (a6, .inl (G 0, 6, .inl f6))]) hP hD [0, 1, 2, 3, 4, 5, 6, 7, 8, 9, 10, 11, 12, 13, 14, 15, 16, 17] (by decide +kernel) rfl
            refine W.widen (k := 0) (n := 0) (Nat.le_of_ble_eq_true rfl) (Nat.le_of_ble_eq_true rfl) ?_
            exact W.lret (v := y19.toInt64) hx hb hr (fun t ht hW => ⟨⟨y19.toInt64, (N, B, D, (va_cpy f1 z1 0 0 10), (va_cpy f2 z2 0 0 10), g21, (va_cpy f4 z4 0 0 6), (va_cpy f5 z5 0 0 6), (va_cpy f6 z6 0 0 6), y22, g23, g24), rfl, ⟨hpost, (by have t_b4 := b4; have t_hj27 := hj27; have t_n29 := n29; have t_c30 := eqI c30; have : ((-4) : Int32).toInt = -4 := qI_m4; have tnb_ := nib7 tn2361_ tn2362_ tn2363_ tn2358_ tn2359_ tn2360_ tn2364_; omega)⟩, ⟨by rw [ht]; exact hP9, hD9⟩⟩, hS.F ht⟩) hS.2.2 dX10_swap_171
          · skip
            refine lv_iload_n hx hb dX10_swap_163 rfl (lv_at hl 4 rfl) ?_
            refine lv_iconst (v := 2) hx hb dX10_swap_164 rfl ?_
            refine lv_icmp_ne (tgt := 172) hx hb dX10_swap_165 rfl (fun c31 => ?_) (fun c31 => ?_)
            · skip
              refine lv_lload_n hx hb dX10_swap_172 rfl (lv_at hl 2 rfl) ?_
              refine lv_aload_n hx hb dX10_swap_173 rfl (lv_at hl 3 rfl) ?_
              refine va_get (D := (dC, dI)) (ci := 10) (v := .ref od) (C := RX10) (T := TX10) (N := 14) hx hb hg inG10 hown hK.1 hP 0 rfl rfl 5 (Nat.le_of_ble_eq_true rfl) (hg _ wt_307) (fun _ h9 => h9) rfl dX10_swap_174 ?_
              refine va_getN (D := (dC, dI)) (ci := 4) (v := .long y22) (C := RX4) (T := TX4) (N := 3) hx hb hg inG4 hown hK.1 hP 8 rfl rfl 0 (Nat.le_of_ble_eq_true rfl) (hK.nest wn_157) (fun _ h9 => h9) rfl dX10_swap_177 ?_
              refine lv_iload_n hx hb dX10_swap_180 rfl (lv_at hl 4 rfl) ?_
              have hPc := hP.sub (ws' := []) [] rfl
              refine va_calll (va_runS (As := [.long y20, .long y22, .int what]) (rest := []) ⟨hx, hb, hml, hown, hg⟩ (c_X10_fractionE l dC dI G _ what y20 y22 (by rw [hinv.2.2]; exact powF_ne (by omega))) (kwS hg mfX10_fraction wt_635 ⟨Nat.le_of_ble_eq_true rfl, Nat.le_of_ble_eq_true rfl⟩) (preSR hK hPc) rfl rfl hl.1 rfl (lv_room (Nat.le_of_ble_eq_true rfl)) dX10_swap_181 ⟨Nat.le_of_ble_eq_true rfl, Nat.le_of_ble_eq_true rfl⟩) hS (fun q h1 h2 => absurd h2 (Nat.not_le.mpr h1)) (fun q h => hA q (Nat.le_trans hS.1 h)) (fun r32 ur32 t H1 locs ht hvm w33 hB hz1 hk1 hS => ?_)
              have hP := keepR hP hk1
              obtain ⟨w33, w33x⟩ := w33
              subst w33
              have hpost : (frF y20 y22 what : Int64) = if (0 ≤ what.toInt ∧ what.toInt ≤ 2) then swA what N (swJ (fun ib kb => odS (fun jb => hmO N B (va_cpy f1 z1 0 0 10) (va_cpy f2 z2 0 0 10) (xcg (va_cpy f3 z3 0 0 10) ib kb) (va_cpy f4 z4 0 0 6) (va_cpy f5 z5 0 0 6) (va_cpy f6 z6 0 0 6) (nI jb)) D (-4) N 0) N (odS (fun jb => hmO N B f1 f2 f3 f4 f5 f6 (nI jb)) D (-4) N 0, -4) N) else -1 := by
                have e9 := hinv.2.1
                rw [show j18 = N by (have t_b4 := b4; have t_hj27 := hj27; have t_n29 := n29; have t_c30 := neI c30; have t_c31 := neI c31; have tqz_ := qz10_; have tnb_ := nib7 tn2361_ tn2362_ tn2363_ tn2358_ tn2359_ tn2360_ tn2364_; have lz0 : (0 : Int32).toInt = 0 := qI_0; have lz1 : (1 : Int32).toInt = 1 := qI_1; have lz2 : (2 : Int32).toInt = 2 := qI_2; have lz3 : (3 : Int32).toInt = 3 := qI_3; have lz5 : (5 : Int32).toInt = 5 := qI_5; have lz9 : (9 : Int32).toInt = 9 := qI_9; omega)] at e9
                rw [if_pos (by (have t_b4 := b4; have t_hj27 := hj27; have t_n29 := n29; have t_c30 := neI c30; have t_c31 := neI c31; have tqz_ := qz10_; have tnb_ := nib7 tn2361_ tn2362_ tn2363_ tn2358_ tn2359_ tn2360_ tn2364_; have lz0 : (0 : Int32).toInt = 0 := qI_0; have lz1 : (1 : Int32).toInt = 1 := qI_1; have lz2 : (2 : Int32).toInt = 2 := qI_2; have lz3 : (3 : Int32).toInt = 3 := qI_3; have lz5 : (5 : Int32).toInt = 5 := qI_5; have lz9 : (9 : Int32).toInt = 9 := qI_9; omega)), ← e9]
                unfold swA
                dsimp only
                first | (rw [if_pos (Or.inl (by first | with_reducible assumption | assumption))]; done) | (rw [if_pos (Or.inr (by first | with_reducible assumption | assumption))]; done) | (rw [if_neg (fun h9 => h9.elim (by first | with_reducible assumption | assumption) (by first | with_reducible assumption | assumption))]; first | done | (rw [hinv.2.2]; done))
              obtain ⟨hP9, hD9⟩ := va_sub2 (ws' := [(h0, .inr (10, [.ref rd, .ref wy, .ref tr, .ref im, .ref kp, .ref od, .ref ch, .ref cr, .ref le, .ref mk, .ref tl, .ref sh, .int tf, .int rf])), (tr, .inr (9, [.int (nI N), .int (nI B), .int (nI D), .ref tc1, .ref tc2, .ref tc3, .ref tc4, .ref tc5, .ref tc6])), (tc1, .inl (G 0, 10, .inl (va_cpy f1 z1 0 0 10))), (tc2, .inl (G 0, 10, .inl (va_cpy f2 z2 0 0 10))), (tc3, .inl (G 0, 10, .inl g21)), (tc4, .inl (G 0, 6, .inl (va_cpy f4 z4 0 0 6))), (tc5, .inl (G 0, 6, .inl (va_cpy f5 z5 0 0 6))), (tc6, .inl (G 0, 6, .inl (va_cpy f6 z6 0 0 6))), (od, .inr (4, [.long y22, .ref sa, .ref aa])), (sa, .inl (G 1, 10, .inr (.inl g23))), (aa, .inl (G 1, 10, .inr (.inl g24))), (wy, .inr (9, [.int (nI N), .int (nI B), .int (nI D), .ref a1, .ref a2, .ref a3, .ref a4, .ref a5, .ref a6])), (a1, .inl (G 0, 10, .inl f1)), (a2, .inl (G 0, 10, .inl f2)), (a3, .inl (G 0, 10, .inl f3)), (a4, .inl (G 0, 6, .inl f4)), (a5, .inl (G 0, 6, .inl f5)), (a6, .inl (G 0, 6, .inl f6))]) hP hD [0, 1, 2, 3, 4, 5, 6, 7, 8, 9, 10, 11, 12, 13, 14, 15, 16, 17] (by decide +kernel) rfl
              refine W.widen (k := 0) (n := 0) (Nat.le_of_ble_eq_true rfl) (Nat.le_of_ble_eq_true rfl) ?_
              exact W.lret (v := frF y20 y22 what) hx hb hr (fun t ht hW => ⟨⟨frF y20 y22 what, (N, B, D, (va_cpy f1 z1 0 0 10), (va_cpy f2 z2 0 0 10), g21, (va_cpy f4 z4 0 0 6), (va_cpy f5 z5 0 0 6), (va_cpy f6 z6 0 0 6), y22, g23, g24), rfl, ⟨hpost, (by have t_b4 := b4; have t_hj27 := hj27; have t_n29 := n29; have t_c30 := neI c30; have t_c31 := neI c31; have tqz_ := qz10_; have tnb_ := nib7 tn2361_ tn2362_ tn2363_ tn2358_ tn2359_ tn2360_ tn2364_; omega)⟩, ⟨by rw [ht]; exact hP9, hD9⟩⟩, hS.F ht⟩) hS.2.2 dX10_swap_184
            · skip
              refine lv_iload hx hb dX10_swap_168 (lv_at hl 1 rfl) ?_
              refine lv_i2l (v := y19.toInt64) hx hb dX10_swap_170 rfl ?_
              have hpost : (y19.toInt64 : Int64) = if (0 ≤ what.toInt ∧ what.toInt ≤ 2) then swA what N (swJ (fun ib kb => odS (fun jb => hmO N B (va_cpy f1 z1 0 0 10) (va_cpy f2 z2 0 0 10) (xcg (va_cpy f3 z3 0 0 10) ib kb) (va_cpy f4 z4 0 0 6) (va_cpy f5 z5 0 0 6) (va_cpy f6 z6 0 0 6) (nI jb)) D (-4) N 0) N (odS (fun jb => hmO N B f1 f2 f3 f4 f5 f6 (nI jb)) D (-4) N 0, -4) N) else -1 := by
                have e9 := hinv.2.1
                rw [show j18 = N by (have t_b4 := b4; have t_hj27 := hj27; have t_n29 := n29; have t_c30 := neI c30; have t_c31 := eqI c31; have tqz_ := qz10_; have tnb_ := nib7 tn2361_ tn2362_ tn2363_ tn2358_ tn2359_ tn2360_ tn2364_; have lz0 : (0 : Int32).toInt = 0 := qI_0; have lz1 : (1 : Int32).toInt = 1 := qI_1; have lz2 : (2 : Int32).toInt = 2 := qI_2; have lz3 : (3 : Int32).toInt = 3 := qI_3; have lz5 : (5 : Int32).toInt = 5 := qI_5; have lz9 : (9 : Int32).toInt = 9 := qI_9; omega)] at e9
                rw [if_pos (by (have t_b4 := b4; have t_hj27 := hj27; have t_n29 := n29; have t_c30 := neI c30; have t_c31 := eqI c31; have tqz_ := qz10_; have tnb_ := nib7 tn2361_ tn2362_ tn2363_ tn2358_ tn2359_ tn2360_ tn2364_; have lz0 : (0 : Int32).toInt = 0 := qI_0; have lz1 : (1 : Int32).toInt = 1 := qI_1; have lz2 : (2 : Int32).toInt = 2 := qI_2; have lz3 : (3 : Int32).toInt = 3 := qI_3; have lz5 : (5 : Int32).toInt = 5 := qI_5; have lz9 : (9 : Int32).toInt = 9 := qI_9; omega)), ← e9]
                unfold swA
                dsimp only
                first | (rw [if_pos (Or.inl (by first | with_reducible assumption | assumption))]; done) | (rw [if_pos (Or.inr (by first | with_reducible assumption | assumption))]; done) | (rw [if_neg (fun h9 => h9.elim (by first | with_reducible assumption | assumption) (by first | with_reducible assumption | assumption))]; first | done | (rw [hinv.2.2]; done))
              obtain ⟨hP9, hD9⟩ := va_sub2 (ws' := [(h0, .inr (10, [.ref rd, .ref wy, .ref tr, .ref im, .ref kp, .ref od, .ref ch, .ref cr, .ref le, .ref mk, .ref tl, .ref sh, .int tf, .int rf])), (tr, .inr (9, [.int (nI N), .int (nI B), .int (nI D), .ref tc1, .ref tc2, .ref tc3, .ref tc4, .ref tc5, .ref tc6])), (tc1, .inl (G 0, 10, .inl (va_cpy f1 z1 0 0 10))), (tc2, .inl (G 0, 10, .inl (va_cpy f2 z2 0 0 10))), (tc3, .inl (G 0, 10, .inl g21)), (tc4, .inl (G 0, 6, .inl (va_cpy f4 z4 0 0 6))), (tc5, .inl (G 0, 6, .inl (va_cpy f5 z5 0 0 6))), (tc6, .inl (G 0, 6, .inl (va_cpy f6 z6 0 0 6))), (od, .inr (4, [.long y22, .ref sa, .ref aa])), (sa, .inl (G 1, 10, .inr (.inl g23))), (aa, .inl (G 1, 10, .inr (.inl g24))), (wy, .inr (9, [.int (nI N), .int (nI B), .int (nI D), .ref a1, .ref a2, .ref a3, .ref a4, .ref a5, .ref a6])), (a1, .inl (G 0, 10, .inl f1)), (a2, .inl (G 0, 10, .inl f2)), (a3, .inl (G 0, 10, .inl f3)), (a4, .inl (G 0, 6, .inl f4)), (a5, .inl (G 0, 6, .inl f5)), (a6, .inl (G 0, 6, .inl f6))]) hP hD [0, 1, 2, 3, 4, 5, 6, 7, 8, 9, 10, 11, 12, 13, 14, 15, 16, 17] (by decide +kernel) rfl
              refine W.widen (k := 0) (n := 0) (Nat.le_of_ble_eq_true rfl) (Nat.le_of_ble_eq_true rfl) ?_
              exact W.lret (v := y19.toInt64) hx hb hr (fun t ht hW => ⟨⟨y19.toInt64, (N, B, D, (va_cpy f1 z1 0 0 10), (va_cpy f2 z2 0 0 10), g21, (va_cpy f4 z4 0 0 6), (va_cpy f5 z5 0 0 6), (va_cpy f6 z6 0 0 6), y22, g23, g24), rfl, ⟨hpost, (by have t_b4 := b4; have t_hj27 := hj27; have t_n29 := n29; have t_c30 := neI c30; have t_c31 := eqI c31; have tqz_ := qz10_; have tnb_ := nib7 tn2361_ tn2362_ tn2363_ tn2358_ tn2359_ tn2360_ tn2364_; omega)⟩, ⟨by rw [ht]; exact hP9, hD9⟩⟩, hS.F ht⟩) hS.2.2 dX10_swap_171
        · skip
          have tn2365_ : nIT j18 := fun _ => nI_toInt (by first | omega | (have t := nleI c28; omega))
          have n34 : j18 < N := by have t := nleI c28; rw [show (nI (j18)).toInt = ((j18 : Nat) : Int) from tn2365_ ()] at t; rw [show (nI (N)).toInt = ((N : Nat) : Int) from tn2358_ ()] at t; omega
          refine lv_iload hx hb dX10_swap_62 (lv_at hl 0 rfl) ?_
          refine lv_iconst (v := 1) hx hb dX10_swap_64 rfl ?_
          refine lv_iadd hx hb dX10_swap_65 ?_
          refine lv_cg (y := nI (j18 + 1)) (by rw [show (1 : Int32) = nI 1 from rfl]; exact nI_add _ _) ?_
          refine lv_istore (lv' := [(6, .int (nI (j18 + 1))), (5, .int (nI j18)), (4, .int y19), (2, .long y20), (0, .ref h0), (1, .int what)]) hx hb dX10_swap_66 hl (by decide) rfl (fun ls hl => ?_)
          have loop68_42 : ∀ (nf j35 : Nat), N + 1 ≤ j35 + nf → j35 ≤ N → (j18 + 1) ≤ j35 → ∀ (y36 : Int32) (y37 : Int64) (g38 : Nat → Int32) (y39 : Int64) (g40 : Nat → Int64) (g41 : Nat → Int64) (H : Heap) (locs : List Loc), (g38 = (va_cpy f3 z3 0 0 10) ∧ (y37, y36) = swK (fun ib kb => odS (fun jb => hmO N B (va_cpy f1 z1 0 0 10) (va_cpy f2 z2 0 0 10) (xcg (va_cpy f3 z3 0 0 10) ib kb) (va_cpy f4 z4 0 0 6) (va_cpy f5 z5 0 0 6) (va_cpy f6 z6 0 0 6) (nI jb)) D (-4) N 0) j18 (j35 - (j18 + 1)) (swJ (fun ib kb => odS (fun jb => hmO N B (va_cpy f1 z1 0 0 10) (va_cpy f2 z2 0 0 10) (xcg (va_cpy f3 z3 0 0 10) ib kb) (va_cpy f4 z4 0 0 6) (va_cpy f5 z5 0 0 6) (va_cpy f6 z6 0 0 6) (nI jb)) D (-4) N 0) N (odS (fun jb => hmO N B f1 f2 f3 f4 f5 f6 (nI jb)) D (-4) N 0, -4) j18) ∧ y39 = powF N) → va_P (dC, dI) vwCl [(h0, .inr (10, [.ref rd, .ref wy, .ref tr, .ref im, .ref kp, .ref od, .ref ch, .ref cr, .ref le, .ref mk, .ref tl, .ref sh, .int tf, .int rf])), (tr, .inr (9, [.int (nI N), .int (nI B), .int (nI D), .ref tc1, .ref tc2, .ref tc3, .ref tc4, .ref tc5, .ref tc6])), (tc1, .inl (G 0, 10, .inl (va_cpy f1 z1 0 0 10))), (tc2, .inl (G 0, 10, .inl (va_cpy f2 z2 0 0 10))), (tc3, .inl (G 0, 10, .inl g38)), (tc4, .inl (G 0, 6, .inl (va_cpy f4 z4 0 0 6))), (tc5, .inl (G 0, 6, .inl (va_cpy f5 z5 0 0 6))), (tc6, .inl (G 0, 6, .inl (va_cpy f6 z6 0 0 6))), (od, .inr (4, [.long y39, .ref sa, .ref aa])), (sa, .inl (G 1, 10, .inr (.inl g40))), (aa, .inl (G 1, 10, .inr (.inl g41))), (wy, .inr (9, [.int (nI N), .int (nI B), .int (nI D), .ref a1, .ref a2, .ref a3, .ref a4, .ref a5, .ref a6])), (a1, .inl (G 0, 10, .inl f1)), (a2, .inl (G 0, 10, .inl f2)), (a3, .inl (G 0, 10, .inl f3)), (a4, .inl (G 0, 6, .inl f4)), (a5, .inl (G 0, 6, .inl f5)), (a6, .inl (G 0, 6, .inl f6))] H → va_D A [(h0, .inr (10, [.ref rd, .ref wy, .ref tr, .ref im, .ref kp, .ref od, .ref ch, .ref cr, .ref le, .ref mk, .ref tl, .ref sh, .int tf, .int rf])), (tr, .inr (9, [.int (nI N), .int (nI B), .int (nI D), .ref tc1, .ref tc2, .ref tc3, .ref tc4, .ref tc5, .ref tc6])), (tc1, .inl (G 0, 10, .inl (va_cpy f1 z1 0 0 10))), (tc2, .inl (G 0, 10, .inl (va_cpy f2 z2 0 0 10))), (tc3, .inl (G 0, 10, .inl g38)), (tc4, .inl (G 0, 6, .inl (va_cpy f4 z4 0 0 6))), (tc5, .inl (G 0, 6, .inl (va_cpy f5 z5 0 0 6))), (tc6, .inl (G 0, 6, .inl (va_cpy f6 z6 0 0 6))), (od, .inr (4, [.long y39, .ref sa, .ref aa])), (sa, .inl (G 1, 10, .inr (.inl g40))), (aa, .inl (G 1, 10, .inr (.inl g41))), (wy, .inr (9, [.int (nI N), .int (nI B), .int (nI D), .ref a1, .ref a2, .ref a3, .ref a4, .ref a5, .ref a6])), (a1, .inl (G 0, 10, .inl f1)), (a2, .inl (G 0, 10, .inl f2)), (a3, .inl (G 0, 10, .inl f3)), (a4, .inl (G 0, 6, .inl f4)), (a5, .inl (G 0, 6, .inl f5)), (a6, .inl (G 0, 6, .inl f6))] → va_S A s.heap H locs → ∀ (ls : Array Slot), lv_has ls 9 [(6, .int (nI j35)), (5, .int (nI j18)), (4, .int y36), (2, .long y37), (0, .ref h0), (1, .int what)] → W p l e (headSpec (Cond.code yX10_swap cX10_swap 9 (some .long) :: GT) ({ frames := 5, cells := 0, slots := 0, locals := 121 } : Room)).room s m ([.ref h0, .int what] : List Value).toArray below meth c H locs 0 0 (MQ below (va_Ql (fun (r : Int64) (u : Nat × Nat × Nat × (Nat → Int32) × (Nat → Int32) × (Nat → Int32) × (Nat → Int32) × (Nat → Int32) × (Nat → Int32) × Int64 × (Nat → Int64) × (Nat → Int64)) => match u with | (u0, u1, u2, u3, u4, u5, u6, u7, u8, u9, v1, v2) => (r = if (0 ≤ what.toInt ∧ what.toInt ≤ 2) then swA what N (swJ (fun ib kb => odS (fun jb => hmO N B (va_cpy f1 z1 0 0 10) (va_cpy f2 z2 0 0 10) (xcg (va_cpy f3 z3 0 0 10) ib kb) (va_cpy f4 z4 0 0 6) (va_cpy f5 z5 0 0 6) (va_cpy f6 z6 0 0 6) (nI jb)) D (-4) N 0) N (odS (fun jb => hmO N B f1 f2 f3 f4 f5 f6 (nI jb)) D (-4) N 0, -4) N) else -1) ∧ u0 ≤ 10 ∧ u1 ≤ 6 ∧ (1 ≤ u2 ∧ u2 ≤ 9)) (fun (u : Nat × Nat × Nat × (Nat → Int32) × (Nat → Int32) × (Nat → Int32) × (Nat → Int32) × (Nat → Int32) × (Nat → Int32) × Int64 × (Nat → Int64) × (Nat → Int64)) (t : State) => match u with | (u0, u1, u2, u3, u4, u5, u6, u7, u8, u9, v1, v2) => va_P (dC, dI) vwCl [(h0, .inr (10, [.ref rd, .ref wy, .ref tr, .ref im, .ref kp, .ref od, .ref ch, .ref cr, .ref le, .ref mk, .ref tl, .ref sh, .int tf, .int rf])), (tr, .inr (9, [.int (nI u0), .int (nI u1), .int (nI u2), .ref tc1, .ref tc2, .ref tc3, .ref tc4, .ref tc5, .ref tc6])), (tc1, .inl (G 0, 10, .inl u3)), (tc2, .inl (G 0, 10, .inl u4)), (tc3, .inl (G 0, 10, .inl u5)), (tc4, .inl (G 0, 6, .inl u6)), (tc5, .inl (G 0, 6, .inl u7)), (tc6, .inl (G 0, 6, .inl u8)), (od, .inr (4, [.long u9, .ref sa, .ref aa])), (sa, .inl (G 1, 10, .inr (.inl v1))), (aa, .inl (G 1, 10, .inr (.inl v2))), (wy, .inr (9, [.int (nI N), .int (nI B), .int (nI D), .ref a1, .ref a2, .ref a3, .ref a4, .ref a5, .ref a6])), (a1, .inl (G 0, 10, .inl f1)), (a2, .inl (G 0, 10, .inl f2)), (a3, .inl (G 0, 10, .inl f3)), (a4, .inl (G 0, 6, .inl f4)), (a5, .inl (G 0, 6, .inl f5)), (a6, .inl (G 0, 6, .inl f6))] t.heap ∧ va_D A [(h0, .inr (10, [.ref rd, .ref wy, .ref tr, .ref im, .ref kp, .ref od, .ref ch, .ref cr, .ref le, .ref mk, .ref tl, .ref sh, .int tf, .int rf])), (tr, .inr (9, [.int (nI u0), .int (nI u1), .int (nI u2), .ref tc1, .ref tc2, .ref tc3, .ref tc4, .ref tc5, .ref tc6])), (tc1, .inl (G 0, 10, .inl u3)), (tc2, .inl (G 0, 10, .inl u4)), (tc3, .inl (G 0, 10, .inl u5)), (tc4, .inl (G 0, 6, .inl u6)), (tc5, .inl (G 0, 6, .inl u7)), (tc6, .inl (G 0, 6, .inl u8)), (od, .inr (4, [.long u9, .ref sa, .ref aa])), (sa, .inl (G 1, 10, .inr (.inl v1))), (aa, .inl (G 1, 10, .inr (.inl v2))), (wy, .inr (9, [.int (nI N), .int (nI B), .int (nI D), .ref a1, .ref a2, .ref a3, .ref a4, .ref a5, .ref a6])), (a1, .inl (G 0, 10, .inl f1)), (a2, .inl (G 0, 10, .inl f2)), (a3, .inl (G 0, 10, .inl f3)), (a4, .inl (G 0, 6, .inl f4)), (a5, .inl (G 0, 6, .inl f5)), (a6, .inl (G 0, 6, .inl f6))]) A) ([.ref h0, .int what] : List Value).toArray s 0 0 A) (F0 m 68 ls []) := by
            intro nf
            induction nf with
            | zero => intro j35 h1 h2; exact absurd h1 (by omega)
            | succ nf ih68_42 =>
              intro j35 hn43 hj44 hlo_j35 y36 y37 g38 y39 g40 g41 H locs hinv hP hD hS ls hl
              refine lv_iload hx hb dX10_swap_68 (lv_at hl 0 rfl) ?_
              refine lv_aload_n hx hb dX10_swap_70 rfl (lv_at hl 4 rfl) ?_
              refine va_get (D := (dC, dI)) (ci := 10) (v := .ref wy) (C := RX10) (T := TX10) (N := 14) hx hb hg inG10 hown hK.1 hP 0 rfl rfl 1 (Nat.le_of_ble_eq_true rfl) (hg _ wt_303) (fun _ h9 => h9) rfl dX10_swap_71 ?_
              refine va_getN (D := (dC, dI)) (ci := 9) (v := .int (nI N)) (C := RX9) (T := TX9) (N := 9) hx hb hg inG9 hown hK.1 hP 11 rfl rfl 0 (Nat.le_of_ble_eq_true rfl) (hK.nest wn_60) (fun _ h9 => h9) rfl dX10_swap_74 ?_
              refine lv_icmp_ge (tgt := 150) hx hb dX10_swap_77 rfl (fun c45 => ?_) (fun c45 => ?_)
              · skip
                have tn2366_ : nIT j35 := fun _ => nI_toInt (by first | omega | (have t := leI c45; omega))
                have n46 : N ≤ j35 := by have t := leI c45; rw [show (nI (j35)).toInt = ((j35 : Nat) : Int) from tn2366_ ()] at t; rw [show (nI (N)).toInt = ((N : Nat) : Int) from tn2358_ ()] at t; omega
                refine lv_iinc (v := nI (j18 + 1)) (lv' := [(5, .int (nI (j18 + 1))), (6, .int (nI j35)), (4, .int y36), (2, .long y37), (0, .ref h0), (1, .int what)]) hx hb dX10_swap_150 hl (k := 1) rfl (by rw [show Int32.ofInt 1 = nI 1 from by decide]; exact nI_add _ _) (by decide) rfl (fun ls hl => ?_)
                refine lv_goto (tgt := 50) hx hb dX10_swap_153 rfl ?_
                exact ih50_25 (j18 + 1) (by omega) (by omega) y36 y37 g38 y39 g40 g41 _ _ (by have e9 := hinv.2.1; rw [show j35 = N by omega] at e9; exact ⟨hinv.1, e9, hinv.2.2⟩) hP hD hS ls (lv_sub hl [0, 2, 3, 4, 5] rfl)
              · skip
                have tn2367_ : nIT j35 := fun _ => nI_toInt (by first | omega | (have t := nleI c45; omega))
                have n47 : j35 < N := by have t := nleI c45; rw [show (nI (j35)).toInt = ((j35 : Nat) : Int) from tn2367_ ()] at t; rw [show (nI (N)).toInt = ((N : Nat) : Int) from tn2358_ ()] at t; omega
                refine lv_aload_n hx hb dX10_swap_80 rfl (lv_at hl 4 rfl) ?_
                refine va_get (D := (dC, dI)) (ci := 10) (v := .ref tr) (C := RX10) (T := TX10) (N := 14) hx hb hg inG10 hown hK.1 hP 0 rfl rfl 2 (Nat.le_of_ble_eq_true rfl) (hg _ wt_304) (fun _ h9 => h9) rfl dX10_swap_81 ?_
                refine lv_iload hx hb dX10_swap_84 (lv_at hl 1 rfl) ?_
                refine lv_iload hx hb dX10_swap_86 (lv_at hl 0 rfl) ?_
                obtain ⟨hPc, hDc, hFc⟩ := va_sub3 (ws' := [(tr, .inr (9, [.int (nI N), .int (nI B), .int (nI D), .ref tc1, .ref tc2, .ref tc3, .ref tc4, .ref tc5, .ref tc6])), (tc3, .inl (G 0, 10, .inl g38))]) hP hD hS hA [1, 4] (by decide +kernel) rfl
                refine va_callv (va_runVN (As := [.int (nI j18), .int (nI j35)]) (rest := []) ⟨hx, hb, hml, hown, hg⟩ (c_X9_exchangeE l dC dI G _ tr tc1 tc2 tc3 tc4 tc5 tc6 N B D j18 j35 g38 hN_N hB_B hD_D (by first | omega | (have t_b4 := b4; have t_hj27 := hj27; have t_n34 := n34; have t_hj44 := hj44; have t_hlo_j35 := hlo_j35; have t_n47 := n47; have tnb_ := nib8 tn2361_ tn2362_ tn2363_ tn2358_ tn2359_ tn2360_ tn2365_ tn2367_; omega)) (by first | omega | (have t_b4 := b4; have t_hj27 := hj27; have t_n34 := n34; have t_hj44 := hj44; have t_hlo_j35 := hlo_j35; have t_n47 := n47; have tnb_ := nib8 tn2361_ tn2362_ tn2363_ tn2358_ tn2359_ tn2360_ tn2365_ tn2367_; omega))) (kwVN hg hK mfX9_exchange wn_715 ⟨Nat.le_of_ble_eq_true rfl, Nat.le_of_ble_eq_true rfl⟩) (preVW hK hPc hDc (ci := 9) (r := (RX9, TX9, 9)) rfl rfl) rfl rfl hl.1 rfl (lv_room (Nat.le_of_ble_eq_true rfl)) dX10_swap_88 ⟨Nat.le_of_ble_eq_true rfl, Nat.le_of_ble_eq_true rfl⟩) hS (fun q _ h => hFc q h) hFc (fun ur48 t H1 locs ht hvm w49 hB hz1 hk1 hS => ?_)
                obtain ⟨u50, rfl⟩ : ∃ z, z = ur48 := ⟨_, rfl⟩
                obtain ⟨hP1, hD1⟩ := hB
                rw [ht] at hP1
                obtain ⟨hP, hD⟩ := va_join (wr := [(h0, .inr (10, [.ref rd, .ref wy, .ref tr, .ref im, .ref kp, .ref od, .ref ch, .ref cr, .ref le, .ref mk, .ref tl, .ref sh, .int tf, .int rf])), (tc1, .inl (G 0, 10, .inl (va_cpy f1 z1 0 0 10))), (tc2, .inl (G 0, 10, .inl (va_cpy f2 z2 0 0 10))), (tc4, .inl (G 0, 6, .inl (va_cpy f4 z4 0 0 6))), (tc5, .inl (G 0, 6, .inl (va_cpy f5 z5 0 0 6))), (tc6, .inl (G 0, 6, .inl (va_cpy f6 z6 0 0 6))), (od, .inr (4, [.long y39, .ref sa, .ref aa])), (sa, .inl (G 1, 10, .inr (.inl g40))), (aa, .inl (G 1, 10, .inr (.inl g41))), (wy, .inr (9, [.int (nI N), .int (nI B), .int (nI D), .ref a1, .ref a2, .ref a3, .ref a4, .ref a5, .ref a6])), (a1, .inl (G 0, 10, .inl f1)), (a2, .inl (G 0, 10, .inl f2)), (a3, .inl (G 0, 10, .inl f3)), (a4, .inl (G 0, 6, .inl f4)), (a5, .inl (G 0, 6, .inl f5)), (a6, .inl (G 0, 6, .inl f6))]) (w1 := [(tr, .inr (9, [.int (nI N), .int (nI B), .int (nI D), .ref tc1, .ref tc2, .ref tc3, .ref tc4, .ref tc5, .ref tc6])), (tc3, .inl (G 0, 10, .inl u50))]) hP hD [1, 4] [0, 2, 3, 5, 6, 7, 8, 9, 10, 11, 12, 13, 14, 15, 16, 17] rfl rfl (by decide +kernel) (by decide +kernel) hk1 hFc hP1 hD1
                have w49 : u50 = xcg g38 j18 j35 := w49
                generalize H1 = H at hP hS ⊢
                obtain rfl : u50 = xcg g38 j18 j35 := w49
                refine lv_aload_n hx hb dX10_swap_91 rfl (lv_at hl 4 rfl) ?_
                refine va_get (D := (dC, dI)) (ci := 10) (v := .ref od) (C := RX10) (T := TX10) (N := 14) hx hb hg inG10 hown hK.1 hP 0 rfl rfl 5 (Nat.le_of_ble_eq_true rfl) (hg _ wt_307) (fun _ h9 => h9) rfl dX10_swap_92 ?_
                refine lv_aload_n hx hb dX10_swap_95 rfl (lv_at hl 4 rfl) ?_
                refine va_get (D := (dC, dI)) (ci := 10) (v := .ref tr) (C := RX10) (T := TX10) (N := 14) hx hb hg inG10 hown hK.1 hP 0 rfl rfl 2 (Nat.le_of_ble_eq_true rfl) (hg _ wt_304) (fun _ h9 => h9) rfl dX10_swap_96 ?_
                refine lv_aload_n hx hb dX10_swap_99 rfl (lv_at hl 4 rfl) ?_
                refine va_get (D := (dC, dI)) (ci := 10) (v := .ref tr) (C := RX10) (T := TX10) (N := 14) hx hb hg inG10 hown hK.1 hP 0 rfl rfl 2 (Nat.le_of_ble_eq_true rfl) (hg _ wt_304) (fun _ h9 => h9) rfl dX10_swap_100 ?_
                refine va_getN (D := (dC, dI)) (ci := 9) (v := .int (nI N)) (C := RX9) (T := TX9) (N := 9) hx hb hg inG9 hown hK.1 hP 16 rfl rfl 0 (Nat.le_of_ble_eq_true rfl) (hK.nest wn_60) (fun _ h9 => h9) rfl dX10_swap_103 ?_
                refine lv_bipush (v := (-4)) hx hb dX10_swap_106 rfl ?_
                obtain ⟨hPc, hDc, hFc⟩ := va_sub3 (ws' := [(od, .inr (4, [.long y39, .ref sa, .ref aa])), (sa, .inl (G 1, 10, .inr (.inl g40))), (aa, .inl (G 1, 10, .inr (.inl g41))), (tr, .inr (9, [.int (nI N), .int (nI B), .int (nI D), .ref tc1, .ref tc2, .ref tc3, .ref tc4, .ref tc5, .ref tc6])), (tc1, .inl (G 0, 10, .inl (va_cpy f1 z1 0 0 10))), (tc2, .inl (G 0, 10, .inl (va_cpy f2 z2 0 0 10))), (tc3, .inl (G 0, 10, .inl (xcg g38 j18 j35))), (tc4, .inl (G 0, 6, .inl (va_cpy f4 z4 0 0 6))), (tc5, .inl (G 0, 6, .inl (va_cpy f5 z5 0 0 6))), (tc6, .inl (G 0, 6, .inl (va_cpy f6 z6 0 0 6)))]) hP hD hS hA [6, 7, 8, 16, 1, 2, 17, 3, 4, 5] (by decide +kernel) rfl
                refine va_calll (va_runVN (As := [.ref tr, .int (nI N), .int (-4)]) (rest := []) ⟨hx, hb, hml, hown, hg⟩ (c_X4_wakingE l dC dI G _ od sa aa tr tc1 tc2 tc3 tc4 tc5 tc6 N B D N (-4) y39 (va_cpy f1 z1 0 0 10) (va_cpy f2 z2 0 0 10) (xcg g38 j18 j35) (va_cpy f4 z4 0 0 6) (va_cpy f5 z5 0 0 6) (va_cpy f6 z6 0 0 6) g40 g41 hN_N hB_B hD_D hN_N) (kwVN hg hK mfX4_waking wn_608 ⟨Nat.le_of_ble_eq_true rfl, Nat.le_of_ble_eq_true rfl⟩) (preVW hK hPc hDc (ci := 4) (r := (RX4, TX4, 3)) rfl rfl) rfl rfl hl.1 rfl (lv_room (Nat.le_of_ble_eq_true rfl)) dX10_swap_108 ⟨Nat.le_of_ble_eq_true rfl, Nat.le_of_ble_eq_true rfl⟩) hS (fun q _ h => hFc q h) hFc (fun r51 ur51 t H1 locs ht hvm w52 hB hz1 hk1 hS => ?_)
                obtain ⟨u53, u54, u55⟩ := ur51
                obtain ⟨hP1, hD1⟩ := hB
                rw [ht] at hP1
                obtain ⟨hP, hD⟩ := va_join (wr := [(h0, .inr (10, [.ref rd, .ref wy, .ref tr, .ref im, .ref kp, .ref od, .ref ch, .ref cr, .ref le, .ref mk, .ref tl, .ref sh, .int tf, .int rf])), (wy, .inr (9, [.int (nI N), .int (nI B), .int (nI D), .ref a1, .ref a2, .ref a3, .ref a4, .ref a5, .ref a6])), (a1, .inl (G 0, 10, .inl f1)), (a2, .inl (G 0, 10, .inl f2)), (a3, .inl (G 0, 10, .inl f3)), (a4, .inl (G 0, 6, .inl f4)), (a5, .inl (G 0, 6, .inl f5)), (a6, .inl (G 0, 6, .inl f6))]) (w1 := [(od, .inr (4, [.long u53, .ref sa, .ref aa])), (sa, .inl (G 1, 10, .inr (.inl u54))), (aa, .inl (G 1, 10, .inr (.inl u55))), (tr, .inr (9, [.int (nI N), .int (nI B), .int (nI D), .ref tc1, .ref tc2, .ref tc3, .ref tc4, .ref tc5, .ref tc6])), (tc1, .inl (G 0, 10, .inl (va_cpy f1 z1 0 0 10))), (tc2, .inl (G 0, 10, .inl (va_cpy f2 z2 0 0 10))), (tc3, .inl (G 0, 10, .inl (xcg g38 j18 j35))), (tc4, .inl (G 0, 6, .inl (va_cpy f4 z4 0 0 6))), (tc5, .inl (G 0, 6, .inl (va_cpy f5 z5 0 0 6))), (tc6, .inl (G 0, 6, .inl (va_cpy f6 z6 0 0 6)))]) hP hD [6, 7, 8, 16, 1, 2, 17, 3, 4, 5] [0, 9, 10, 11, 12, 13, 14, 15] rfl rfl (by decide +kernel) (by decide +kernel) hk1 hFc hP1 hD1
                generalize H1 = H at hP hS ⊢
                obtain ⟨w52, w52x⟩ := w52
                subst w52
                refine lv_lstore (lv' := [(7, .long (odS (fun jb => hmO N B (va_cpy f1 z1 0 0 10) (va_cpy f2 z2 0 0 10) (xcg g38 j18 j35) (va_cpy f4 z4 0 0 6) (va_cpy f5 z5 0 0 6) (va_cpy f6 z6 0 0 6) (nI jb)) D (-4) N 0)), (6, .int (nI j35)), (5, .int (nI j18)), (4, .int y36), (2, .long y37), (0, .ref h0), (1, .int what)]) hx hb dX10_swap_111 hl (by decide) rfl (fun ls hl => ?_)
                refine lv_aload_n hx hb dX10_swap_113 rfl (lv_at hl 5 rfl) ?_
                refine va_get (D := (dC, dI)) (ci := 10) (v := .ref tr) (C := RX10) (T := TX10) (N := 14) hx hb hg inG10 hown hK.1 hP 0 rfl rfl 2 (Nat.le_of_ble_eq_true rfl) (hg _ wt_304) (fun _ h9 => h9) rfl dX10_swap_114 ?_
                refine lv_iload hx hb dX10_swap_117 (lv_at hl 2 rfl) ?_
                refine lv_iload hx hb dX10_swap_119 (lv_at hl 1 rfl) ?_
                obtain ⟨hPc, hDc, hFc⟩ := va_sub3 (ws' := [(tr, .inr (9, [.int (nI N), .int (nI B), .int (nI D), .ref tc1, .ref tc2, .ref tc3, .ref tc4, .ref tc5, .ref tc6])), (tc3, .inl (G 0, 10, .inl (xcg g38 j18 j35)))]) hP hD hS hA [11, 14] (by decide +kernel) rfl
                refine va_callv (va_runVN (As := [.int (nI j18), .int (nI j35)]) (rest := []) ⟨hx, hb, hml, hown, hg⟩ (c_X9_exchangeE l dC dI G _ tr tc1 tc2 tc3 tc4 tc5 tc6 N B D j18 j35 (xcg g38 j18 j35) hN_N hB_B hD_D (by first | omega | (have t_b4 := b4; have t_hj27 := hj27; have t_n34 := n34; have t_hj44 := hj44; have t_hlo_j35 := hlo_j35; have t_n47 := n47; have tnb_ := nib8 tn2361_ tn2362_ tn2363_ tn2358_ tn2359_ tn2360_ tn2365_ tn2367_; omega)) (by first | omega | (have t_b4 := b4; have t_hj27 := hj27; have t_n34 := n34; have t_hj44 := hj44; have t_hlo_j35 := hlo_j35; have t_n47 := n47; have tnb_ := nib8 tn2361_ tn2362_ tn2363_ tn2358_ tn2359_ tn2360_ tn2365_ tn2367_; omega))) (kwVN hg hK mfX9_exchange wn_715 ⟨Nat.le_of_ble_eq_true rfl, Nat.le_of_ble_eq_true rfl⟩) (preVW hK hPc hDc (ci := 9) (r := (RX9, TX9, 9)) rfl rfl) rfl rfl hl.1 rfl (lv_room (Nat.le_of_ble_eq_true rfl)) dX10_swap_121 ⟨Nat.le_of_ble_eq_true rfl, Nat.le_of_ble_eq_true rfl⟩) hS (fun q _ h => hFc q h) hFc (fun ur56 t H1 locs ht hvm w57 hB hz1 hk1 hS => ?_)
                obtain ⟨u58, rfl⟩ : ∃ z, z = ur56 := ⟨_, rfl⟩
                obtain ⟨hP1, hD1⟩ := hB
                rw [ht] at hP1
                obtain ⟨hP, hD⟩ := va_join (wr := [(h0, .inr (10, [.ref rd, .ref wy, .ref tr, .ref im, .ref kp, .ref od, .ref ch, .ref cr, .ref le, .ref mk, .ref tl, .ref sh, .int tf, .int rf])), (wy, .inr (9, [.int (nI N), .int (nI B), .int (nI D), .ref a1, .ref a2, .ref a3, .ref a4, .ref a5, .ref a6])), (a1, .inl (G 0, 10, .inl f1)), (a2, .inl (G 0, 10, .inl f2)), (a3, .inl (G 0, 10, .inl f3)), (a4, .inl (G 0, 6, .inl f4)), (a5, .inl (G 0, 6, .inl f5)), (a6, .inl (G 0, 6, .inl f6)), (od, .inr (4, [.long u53, .ref sa, .ref aa])), (sa, .inl (G 1, 10, .inr (.inl u54))), (aa, .inl (G 1, 10, .inr (.inl u55))), (tc1, .inl (G 0, 10, .inl (va_cpy f1 z1 0 0 10))), (tc2, .inl (G 0, 10, .inl (va_cpy f2 z2 0 0 10))), (tc4, .inl (G 0, 6, .inl (va_cpy f4 z4 0 0 6))), (tc5, .inl (G 0, 6, .inl (va_cpy f5 z5 0 0 6))), (tc6, .inl (G 0, 6, .inl (va_cpy f6 z6 0 0 6)))]) (w1 := [(tr, .inr (9, [.int (nI N), .int (nI B), .int (nI D), .ref tc1, .ref tc2, .ref tc3, .ref tc4, .ref tc5, .ref tc6])), (tc3, .inl (G 0, 10, .inl u58))]) hP hD [11, 14] [0, 1, 2, 3, 4, 5, 6, 7, 8, 9, 10, 12, 13, 15, 16, 17] rfl rfl (by decide +kernel) (by decide +kernel) hk1 hFc hP1 hD1
                have w57 : u58 = xcg (xcg g38 j18 j35) j18 j35 := w57
                generalize H1 = H at hP hS ⊢
                obtain rfl : u58 = xcg (xcg g38 j18 j35) j18 j35 := w57
                refine lv_lload hx hb dX10_swap_124 (lv_at hl 0 rfl) ?_
                refine lv_lload_n hx hb dX10_swap_126 rfl (lv_at hl 4 rfl) ?_
                refine W.lcmp hx hb dX10_swap_127 ?_
                refine lv_if_ge (tgt := 144) hx hb dX10_swap_128 rfl (fun c59 => ?_) (fun c59 => ?_)
                · skip
                  refine lv_iinc (v := nI (j35 + 1)) (lv' := [(6, .int (nI (j35 + 1))), (7, .long (odS (fun jb => hmO N B (va_cpy f1 z1 0 0 10) (va_cpy f2 z2 0 0 10) (xcg g38 j18 j35) (va_cpy f4 z4 0 0 6) (va_cpy f5 z5 0 0 6) (va_cpy f6 z6 0 0 6) (nI jb)) D (-4) N 0)), (5, .int (nI j18)), (4, .int y36), (2, .long y37), (0, .ref h0), (1, .int what)]) hx hb dX10_swap_144 hl (k := 1) rfl (by rw [show Int32.ofInt 1 = nI 1 from by decide]; exact nI_add _ _) (by decide) rfl (fun ls hl => ?_)
                  refine lv_goto (tgt := 68) hx hb dX10_swap_147 rfl ?_
                  exact ih68_42 (j35 + 1) (by omega) (by omega) (by omega) y36 y37 (xcg (xcg g38 j18 j35) j18 j35) u53 u54 u55 _ _ (by have t_b4 := b4; have t_hj27 := hj27; have t_n34 := n34; have t_hj44 := hj44; have t_hlo_j35 := hlo_j35; have t_n47 := n47; have t_c59 := lcm_ge_t c59; have tnb_ := nib8 tn2361_ tn2362_ tn2363_ tn2358_ tn2359_ tn2360_ tn2365_ tn2367_; have lz0 : (0 : Int32).toInt = 0 := qI_0; have lz1 : (1 : Int32).toInt = 1 := qI_1; have lz2 : (2 : Int32).toInt = 2 := qI_2; have lz3 : (3 : Int32).toInt = 3 := qI_3; have lz5 : (5 : Int32).toInt = 5 := qI_5; have lz9 : (9 : Int32).toInt = 9 := qI_9; have e9 : odS (fun jb => hmO N B (va_cpy f1 z1 0 0 10) (va_cpy f2 z2 0 0 10) (xcg g38 j18 j35) (va_cpy f4 z4 0 0 6) (va_cpy f5 z5 0 0 6) (va_cpy f6 z6 0 0 6) (nI jb)) D (-4) N 0 = odS (fun jb => hmO N B (va_cpy f1 z1 0 0 10) (va_cpy f2 z2 0 0 10) (xcg (va_cpy f3 z3 0 0 10) j18 j35) (va_cpy f4 z4 0 0 6) (va_cpy f5 z5 0 0 6) (va_cpy f6 z6 0 0 6) (nI jb)) D (-4) N 0 := (by rw [hinv.1]); exact ⟨(by rw [xcg_xcg]; exact hinv.1), swK_ge (by omega) hinv.2.1 (by rw [← e9]; omega), w52x.1⟩) (hP.sub [0, 16, 11, 12, 17, 13, 14, 15, 8, 9, 10, 1, 2, 3, 4, 5, 6, 7] rfl) (hD.sub [0, 16, 11, 12, 17, 13, 14, 15, 8, 9, 10, 1, 2, 3, 4, 5, 6, 7] (by decide) rfl) hS ls (lv_sub hl [0, 2, 3, 4, 5, 6] rfl)
                · skip
                  refine lv_lload hx hb dX10_swap_131 (lv_at hl 0 rfl) ?_
                  refine lv_lstore_n (lv' := [(2, .long (odS (fun jb => hmO N B (va_cpy f1 z1 0 0 10) (va_cpy f2 z2 0 0 10) (xcg g38 j18 j35) (va_cpy f4 z4 0 0 6) (va_cpy f5 z5 0 0 6) (va_cpy f6 z6 0 0 6) (nI jb)) D (-4) N 0)), (7, .long (odS (fun jb => hmO N B (va_cpy f1 z1 0 0 10) (va_cpy f2 z2 0 0 10) (xcg g38 j18 j35) (va_cpy f4 z4 0 0 6) (va_cpy f5 z5 0 0 6) (va_cpy f6 z6 0 0 6) (nI jb)) D (-4) N 0)), (6, .int (nI j35)), (5, .int (nI j18)), (4, .int y36), (0, .ref h0), (1, .int what)]) hx hb dX10_swap_133 rfl hl (by decide) rfl (fun ls hl => ?_)
                  refine lv_bipush (v := 10) hx hb dX10_swap_134 rfl ?_
                  refine lv_iload hx hb dX10_swap_136 (lv_at hl 3 rfl) ?_
                  refine lv_imul hx hb dX10_swap_138 ?_
                  refine lv_cg (y := nI (10 * j18)) (by rw [show (10 : Int32) = nI 10 from rfl]; exact pk_mul _ _) ?_
                  refine lv_iload hx hb dX10_swap_139 (lv_at hl 2 rfl) ?_
                  refine lv_iadd hx hb dX10_swap_141 ?_
                  refine lv_cg (y := nI ((10 * j18) + j35)) (by exact nI_add _ _) ?_
                  refine lv_istore (lv' := [(4, .int (nI ((10 * j18) + j35))), (2, .long (odS (fun jb => hmO N B (va_cpy f1 z1 0 0 10) (va_cpy f2 z2 0 0 10) (xcg g38 j18 j35) (va_cpy f4 z4 0 0 6) (va_cpy f5 z5 0 0 6) (va_cpy f6 z6 0 0 6) (nI jb)) D (-4) N 0)), (7, .long (odS (fun jb => hmO N B (va_cpy f1 z1 0 0 10) (va_cpy f2 z2 0 0 10) (xcg g38 j18 j35) (va_cpy f4 z4 0 0 6) (va_cpy f5 z5 0 0 6) (va_cpy f6 z6 0 0 6) (nI jb)) D (-4) N 0)), (6, .int (nI j35)), (5, .int (nI j18)), (0, .ref h0), (1, .int what)]) hx hb dX10_swap_142 hl (by decide) rfl (fun ls hl => ?_)
                  refine lv_iinc (v := nI (j35 + 1)) (lv' := [(6, .int (nI (j35 + 1))), (4, .int (nI ((10 * j18) + j35))), (2, .long (odS (fun jb => hmO N B (va_cpy f1 z1 0 0 10) (va_cpy f2 z2 0 0 10) (xcg g38 j18 j35) (va_cpy f4 z4 0 0 6) (va_cpy f5 z5 0 0 6) (va_cpy f6 z6 0 0 6) (nI jb)) D (-4) N 0)), (7, .long (odS (fun jb => hmO N B (va_cpy f1 z1 0 0 10) (va_cpy f2 z2 0 0 10) (xcg g38 j18 j35) (va_cpy f4 z4 0 0 6) (va_cpy f5 z5 0 0 6) (va_cpy f6 z6 0 0 6) (nI jb)) D (-4) N 0)), (5, .int (nI j18)), (0, .ref h0), (1, .int what)]) hx hb dX10_swap_144 hl (k := 3) rfl (by rw [show Int32.ofInt 1 = nI 1 from by decide]; exact nI_add _ _) (by decide) rfl (fun ls hl => ?_)
                  refine lv_goto (tgt := 68) hx hb dX10_swap_147 rfl ?_
                  exact ih68_42 (j35 + 1) (by omega) (by omega) (by omega) (nI ((10 * j18) + j35)) (odS (fun jb => hmO N B (va_cpy f1 z1 0 0 10) (va_cpy f2 z2 0 0 10) (xcg g38 j18 j35) (va_cpy f4 z4 0 0 6) (va_cpy f5 z5 0 0 6) (va_cpy f6 z6 0 0 6) (nI jb)) D (-4) N 0) (xcg (xcg g38 j18 j35) j18 j35) u53 u54 u55 _ _ (by have t_b4 := b4; have t_hj27 := hj27; have t_n34 := n34; have t_hj44 := hj44; have t_hlo_j35 := hlo_j35; have t_n47 := n47; have t_c59 := lcm_ge_f c59; have tnb_ := nib8 tn2361_ tn2362_ tn2363_ tn2358_ tn2359_ tn2360_ tn2365_ tn2367_; have lz0 : (0 : Int32).toInt = 0 := qI_0; have lz1 : (1 : Int32).toInt = 1 := qI_1; have lz2 : (2 : Int32).toInt = 2 := qI_2; have lz3 : (3 : Int32).toInt = 3 := qI_3; have lz5 : (5 : Int32).toInt = 5 := qI_5; have lz9 : (9 : Int32).toInt = 9 := qI_9; have e9 : odS (fun jb => hmO N B (va_cpy f1 z1 0 0 10) (va_cpy f2 z2 0 0 10) (xcg g38 j18 j35) (va_cpy f4 z4 0 0 6) (va_cpy f5 z5 0 0 6) (va_cpy f6 z6 0 0 6) (nI jb)) D (-4) N 0 = odS (fun jb => hmO N B (va_cpy f1 z1 0 0 10) (va_cpy f2 z2 0 0 10) (xcg (va_cpy f3 z3 0 0 10) j18 j35) (va_cpy f4 z4 0 0 6) (va_cpy f5 z5 0 0 6) (va_cpy f6 z6 0 0 6) (nI jb)) D (-4) N 0 := (by rw [hinv.1]); refine ⟨(by rw [xcg_xcg]; exact hinv.1), ?_, w52x.1⟩; rw [e9]; exact swK_lt (by omega) hinv.2.1 (by rw [← e9]; omega)) (hP.sub [0, 16, 11, 12, 17, 13, 14, 15, 8, 9, 10, 1, 2, 3, 4, 5, 6, 7] rfl) (hD.sub [0, 16, 11, 12, 17, 13, 14, 15, 8, 9, 10, 1, 2, 3, 4, 5, 6, 7] (by decide) rfl) hS ls (lv_sub hl [0, 4, 1, 2, 5, 6] rfl)
          exact loop68_42 (N + 1) (j18 + 1) (by omega) (by omega) (by omega) y19 y20 g21 y22 g23 g24 _ _ ⟨hinv.1, (by rw [Nat.sub_self]; exact hinv.2.1), hinv.2.2⟩ hP hD hS ls (lv_sub hl [0, 1, 2, 3, 4, 5] rfl)
    exact loop50_25 (N + 1) 0 (by omega) (by omega) (-4) (odS (fun jb => hmO N B f1 f2 f3 f4 f5 f6 (nI jb)) D (-4) N 0) (va_cpy f3 z3 0 0 10) u15 u16 u17 _ _ ⟨rfl, rfl, w14x.1⟩ hP hD hS ls (lv_sub hl [0, 1, 2, 3, 4] rfl)
  · skip
    have b60 := if10_n c3
    refine lv_ldc2 (v := (-1)) hx hb hown (hg _ wt_607) dX10_swap_7 ?_
    have hpost : ((-1) : Int64) = if (0 ≤ what.toInt ∧ what.toInt ≤ 2) then swA what N (swJ (fun ib kb => odS (fun jb => hmO N B (va_cpy f1 z1 0 0 10) (va_cpy f2 z2 0 0 10) (xcg (va_cpy f3 z3 0 0 10) ib kb) (va_cpy f4 z4 0 0 6) (va_cpy f5 z5 0 0 6) (va_cpy f6 z6 0 0 6) (nI jb)) D (-4) N 0) N (odS (fun jb => hmO N B f1 f2 f3 f4 f5 f6 (nI jb)) D (-4) N 0, -4) N) else -1 := by
      have t_b60 := b60
      have t_n0 : (nI X).toInt = (X : Int) := tn2361_ ()
      have t_n1 : (nI Y).toInt = (Y : Int) := tn2362_ ()
      have t_n2 : (nI Z).toInt = (Z : Int) := tn2363_ ()
      have t_n3 : (nI N).toInt = (N : Int) := tn2358_ ()
      have t_n4 : (nI B).toInt = (B : Int) := tn2359_ ()
      have t_n5 : (nI D).toInt = (D : Int) := tn2360_ ()
      have lz0 : (0 : Int32).toInt = 0 := qI_0
      have lz1 : (1 : Int32).toInt = 1 := qI_1
      have lz2 : (2 : Int32).toInt = 2 := qI_2
      have lz3 : (3 : Int32).toInt = 3 := qI_3
      have lz5 : (5 : Int32).toInt = 5 := qI_5
      have lz9 : (9 : Int32).toInt = 9 := qI_9
      rw [if_neg (by omega)]
    obtain ⟨hP9, hD9⟩ := va_sub2 (ws' := [(h0, .inr (10, [.ref rd, .ref wy, .ref tr, .ref im, .ref kp, .ref od, .ref ch, .ref cr, .ref le, .ref mk, .ref tl, .ref sh, .int tf, .int rf])), (tr, .inr (9, [.int (nI X), .int (nI Y), .int (nI Z), .ref tc1, .ref tc2, .ref tc3, .ref tc4, .ref tc5, .ref tc6])), (tc1, .inl (G 0, 10, .inl z1)), (tc2, .inl (G 0, 10, .inl z2)), (tc3, .inl (G 0, 10, .inl z3)), (tc4, .inl (G 0, 6, .inl z4)), (tc5, .inl (G 0, 6, .inl z5)), (tc6, .inl (G 0, 6, .inl z6)), (od, .inr (4, [.long w0, .ref sa, .ref aa])), (sa, .inl (G 1, 10, .inr (.inl f))), (aa, .inl (G 1, 10, .inr (.inl g))), (wy, .inr (9, [.int (nI N), .int (nI B), .int (nI D), .ref a1, .ref a2, .ref a3, .ref a4, .ref a5, .ref a6])), (a1, .inl (G 0, 10, .inl f1)), (a2, .inl (G 0, 10, .inl f2)), (a3, .inl (G 0, 10, .inl f3)), (a4, .inl (G 0, 6, .inl f4)), (a5, .inl (G 0, 6, .inl f5)), (a6, .inl (G 0, 6, .inl f6))]) hP hD [0, 1, 2, 3, 4, 5, 6, 7, 8, 9, 10, 11, 12, 13, 14, 15, 16, 17] (by decide +kernel) rfl
    refine W.widen (k := 0) (n := 0) (Nat.le_of_ble_eq_true rfl) (Nat.le_of_ble_eq_true rfl) ?_
    exact W.lret (v := (-1)) hx hb hr (fun t ht hW => ⟨⟨(-1), (X, Y, Z, z1, z2, z3, z4, z5, z6, w0, f, g), rfl, ⟨hpost, (by have t_b60 := b60; have tnb_ := nib6 tn2361_ tn2362_ tn2363_ tn2358_ tn2359_ tn2360_; omega)⟩, ⟨by rw [ht]; exact hP9, hD9⟩⟩, hS.F ht⟩) hS.2.2 dX10_swap_10

set_option maxHeartbeats 1000000 in
set_option maxRecDepth 100000 in
theorem c_X11_swapE (l : Launch) (dC : Nat → ClassId) (dI : Nat → Nat → Nat) (G : Nat → ClassId) (sz : Nat) (h0 st N B rp tp T cu lt od th be ln S ma M ah bh ik la lg ce : Nat) (what vrs vrb vhs vca vxs vxb vfa vbr vba vsp vhe vtk vva vto : Int32) (fst : Nat → Int32) (fod : Nat → Int64) (fth : Nat → Int64) (hN : N ≤ 10) (hB : B ≤ 6) (hT : T ≤ 320) (hS0 : S ≤ 8) (hM : M ≤ 6) (hst : OKS fst) : Met l yX11_swap (Cond.code yX11_swap cX11_swap 7 (some .long) :: GT) ({ frames := 4, cells := 0, slots := 0, locals := 99 } : Room) (PcW [.ref h0, .int what] dC dI G [(h0, .inr (11, [.ref st, .int (nI N), .int (nI B), .ref rp, .int vrs, .int vrb, .int vhs, .int vca, .int vxs, .int vxb, .ref tp, .int (nI T), .int vfa, .int vbr, .int vba, .int vsp, .int vhe, .int vtk, .int vva, .ref cu, .ref lt, .ref od, .ref th, .ref be, .ref ln, .int (nI S), .ref ma, .int (nI M), .ref ah, .ref bh, .ref ik, .ref la, .ref lg, .ref ce, .int vto])), (st, .inl (G 0, 196, .inl fst)), (od, .inl (G 1, 10, .inr (.inl fod))), (th, .inl (G 1, 10, .inr (.inl fth)))] sz) (va_Ql (fun (r : Int64) (u : (Nat → Int32) × (Nat → Int64) × (Nat → Int64)) => match u with | (ost, ood, oth) => (r = if (0 ≤ what.toInt ∧ what.toInt ≤ 2) then swA what N (swJ (fun ib kb => odR (fun jb => rhO (xch fst ib kb) jb (qbF 0 jb)) (sdN (xch fst ib kb)) (-4) N 0) N (odR (fun jb => rhO fst jb (qbF 0 jb)) (sdN fst) (-4) N 0, -4) N) else -1) ∧ OKS ost ∧ ost = fst) (fun (u : (Nat → Int32) × (Nat → Int64) × (Nat → Int64)) (t : State) => match u with | (ost, ood, oth) => va_P (dC, dI) vwCl [(h0, .inr (11, [.ref st, .int (nI N), .int (nI B), .ref rp, .int vrs, .int vrb, .int vhs, .int vca, .int vxs, .int vxb, .ref tp, .int (nI T), .int vfa, .int vbr, .int vba, .int vsp, .int vhe, .int vtk, .int vva, .ref cu, .ref lt, .ref od, .ref th, .ref be, .ref ln, .int (nI S), .ref ma, .int (nI M), .ref ah, .ref bh, .ref ik, .ref la, .ref lg, .ref ce, .int vto])), (st, .inl (G 0, 196, .inl ost)), (od, .inl (G 1, 10, .inr (.inl ood))), (th, .inl (G 1, 10, .inr (.inl oth)))] t.heap ∧ va_D (va_A [(h0, .inr (11, [.ref st, .int (nI N), .int (nI B), .ref rp, .int vrs, .int vrb, .int vhs, .int vca, .int vxs, .int vxb, .ref tp, .int (nI T), .int vfa, .int vbr, .int vba, .int vsp, .int vhe, .int vtk, .int vva, .ref cu, .ref lt, .ref od, .ref th, .ref be, .ref ln, .int (nI S), .ref ma, .int (nI M), .ref ah, .ref bh, .ref ik, .ref la, .ref lg, .ref ce, .int vto])), (st, .inl (G 0, 196, .inl fst)), (od, .inl (G 1, 10, .inr (.inl fod))), (th, .inl (G 1, 10, .inr (.inl fth)))] sz) [(h0, .inr (11, [.ref st, .int (nI N), .int (nI B), .ref rp, .int vrs, .int vrb, .int vhs, .int vca, .int vxs, .int vxb, .ref tp, .int (nI T), .int vfa, .int vbr, .int vba, .int vsp, .int vhe, .int vtk, .int vva, .ref cu, .ref lt, .ref od, .ref th, .ref be, .ref ln, .int (nI S), .ref ma, .int (nI M), .ref ah, .ref bh, .ref ik, .ref la, .ref lg, .ref ce, .int vto])), (st, .inl (G 0, 196, .inl ost)), (od, .inl (G 1, 10, .inr (.inl ood))), (th, .inl (G 1, 10, .inr (.inl oth)))]) (va_A [(h0, .inr (11, [.ref st, .int (nI N), .int (nI B), .ref rp, .int vrs, .int vrb, .int vhs, .int vca, .int vxs, .int vxb, .ref tp, .int (nI T), .int vfa, .int vbr, .int vba, .int vsp, .int vhe, .int vtk, .int vva, .ref cu, .ref lt, .ref od, .ref th, .ref be, .ref ln, .int (nI S), .ref ma, .int (nI M), .ref ah, .ref bh, .ref ik, .ref la, .ref lg, .ref ce, .int vto])), (st, .inl (G 0, 196, .inl fst)), (od, .inl (G 1, 10, .inr (.inl fod))), (th, .inl (G 1, 10, .inr (.inl fth)))] sz)) 0 0 (va_A [(h0, .inr (11, [.ref st, .int (nI N), .int (nI B), .ref rp, .int vrs, .int vrb, .int vhs, .int vca, .int vxs, .int vxb, .ref tp, .int (nI T), .int vfa, .int vbr, .int vba, .int vsp, .int vhe, .int vtk, .int vva, .ref cu, .ref lt, .ref od, .ref th, .ref be, .ref ln, .int (nI S), .ref ma, .int (nI M), .ref ah, .ref bh, .ref ik, .ref la, .ref lg, .ref ce, .int vto])), (st, .inl (G 0, 196, .inl fst)), (od, .inl (G 1, 10, .inr (.inl fod))), (th, .inl (G 1, 10, .inr (.inl fth)))] sz) := by
  have hB_ := hB
  have hM_ := hM
  have hT_ := hT
  have tn2368_ : nIT N := fun _ => nI_toInt (by omega)
  have tn2369_ : nIT B := fun _ => nI_toInt (by omega)
  have tn2370_ : nIT T := fun _ => nI_toInt (by omega)
  have tn2371_ : nIT S := fun _ => nI_toInt (by omega)
  have tn2372_ : nIT M := fun _ => nI_toInt (by omega)
  refine Met.ofW (cc := cX11_swap) (maxL := 7) (ret := (some .long)) (by decide) rfl ?_
  intro p e s m args below meth c s₁ Bd hml hv
  obtain ⟨rfl, hsz, hP, hK, hD0⟩ := hv
  have hx := Bd.exec
  have hb := Bd.bytes
  have hr := Bd.returns
  have hg : ∀ w ∈ GT, w.before ([.ref h0, .int what] : List Value).toArray s = true := fun w h => atoms_spec (ws := Cond.code yX11_swap cX11_swap 7 (some .long) :: GT) Bd.pre w (List.mem_cons_of_mem _ h)
  have hown : s.vm.findClass RX11 = some m.cls := findClass_of_methodNamed Bd.named
  have hlocks := Bd.notSynchronized
  subst hsz
  have hD := hD0.self (sz := s.heap.size)
  generalize hAe : va_A [(h0, .inr (11, [.ref st, .int (nI N), .int (nI B), .ref rp, .int vrs, .int vrb, .int vhs, .int vca, .int vxs, .int vxb, .ref tp, .int (nI T), .int vfa, .int vbr, .int vba, .int vsp, .int vhe, .int vtk, .int vva, .ref cu, .ref lt, .ref od, .ref th, .ref be, .ref ln, .int (nI S), .ref ma, .int (nI M), .ref ah, .ref bh, .ref ik, .ref la, .ref lg, .ref ce, .int vto])), (st, .inl (G 0, 196, .inl fst)), (od, .inl (G 1, 10, .inr (.inl fod))), (th, .inl (G 1, 10, .inr (.inl fth)))] s.heap.size = A at hD ⊢
  have hA : ∀ q : Nat, s.heap.size ≤ q → A q := fun q h => by rw [← hAe]; exact Or.inr h
  have hS : va_S A s.heap s.heap [] := va_S.rf
  have hl := lv_entry ([.ref h0, .int what]) (n := 7) (Nat.le_of_ble_eq_true rfl)
  rw [lg_entry_eq]
  generalize (lg_sl ([.ref h0, .int what]) ++ List.replicate (7 - (lg_sl ([.ref h0, .int what])).length) Slot.unset).toArray = ls at hl ⊢
  have hl : lv_has ls 7 [(0, .ref h0), (1, .int what)] := hl
  refine lv_iload_n hx hb dX11_swap_0 rfl (lv_at hl 1 rfl) ?_
  refine lv_i2l (v := what.toInt64) hx hb dX11_swap_1 rfl ?_
  refine lv_lconst (v := 0) hx hb dX11_swap_2 (by decide) ?_
  refine lv_ldc2 (v := 2) hx hb hown (hg _ wt_1056) dX11_swap_3 ?_
  have hPc := hP.sub (ws' := []) [] rfl
  refine va_calli (va_runS (As := [.long what.toInt64, .long 0, .long 2]) (rest := []) ⟨hx, hb, hml, hown, hg⟩ (c_X11_in l dC dI G _ what.toInt64 0 2) (kwS hg mfX11_in wt_992 ⟨Nat.le_of_ble_eq_true rfl, Nat.le_of_ble_eq_true rfl⟩) (preSR hK hPc) rfl rfl hl.1 rfl (lv_room (Nat.le_of_ble_eq_true rfl)) dX11_swap_6 ⟨Nat.le_of_ble_eq_true rfl, Nat.le_of_ble_eq_true rfl⟩) hS (fun q h1 h2 => absurd h2 (Nat.not_le.mpr h1)) (fun q h => hA q (Nat.le_trans hS.1 h)) (fun r1 ur1 t H1 locs ht hvm w2 hB hz1 hk1 hS => ?_)
  have hP := keepR hP hk1
  obtain ⟨w2, w2x⟩ := w2
  try simp only [l_ii, show (0 : Int64).toInt = 0 from by decide, show (2 : Int64).toInt = 2 from by decide] at w2
  subst w2
  refine lv_if_ne (tgt := 16) hx hb dX11_swap_9 rfl (fun c3 => ?_) (fun c3 => ?_)
  · skip
    have b4 := if10_p c3
    refine lv_aload_n hx hb dX11_swap_16 rfl (lv_at hl 0 rfl) ?_
    refine lv_aload_n hx hb dX11_swap_17 rfl (lv_at hl 0 rfl) ?_
    refine va_get (D := (dC, dI)) (ci := 11) (v := .int (nI N)) (C := RX11) (T := TX11) (N := 35) hx hb hg inG11 hown hK.1 hP 0 rfl rfl 1 (Nat.le_of_ble_eq_true rfl) (hg _ wt_879) (fun _ h9 => h9) rfl dX11_swap_18 ?_
    refine lv_iconst (v := 0) hx hb dX11_swap_21 rfl ?_
    refine lv_bipush (v := (-4)) hx hb dX11_swap_22 rfl ?_
    obtain ⟨hPc, hDc, hFc⟩ := va_sub3 (ws' := [(h0, .inr (11, [.ref st, .int (nI N), .int (nI B), .ref rp, .int vrs, .int vrb, .int vhs, .int vca, .int vxs, .int vxb, .ref tp, .int (nI T), .int vfa, .int vbr, .int vba, .int vsp, .int vhe, .int vtk, .int vva, .ref cu, .ref lt, .ref od, .ref th, .ref be, .ref ln, .int (nI S), .ref ma, .int (nI M), .ref ah, .ref bh, .ref ik, .ref la, .ref lg, .ref ce, .int vto])), (st, .inl (G 0, 196, .inl fst)), (od, .inl (G 1, 10, .inr (.inl fod))), (th, .inl (G 1, 10, .inr (.inl fth)))]) hP hD hS hA [0, 1, 2, 3] (by decide +kernel) rfl
    refine va_callv (va_runV (As := [.int (nI N), .int 0, .int (-4)]) (rest := []) ⟨hx, hb, hml, hown, hg⟩ (c_X11_layOddsE l dC dI G _ h0 N st N B rp tp T cu lt od th be ln S ma M ah bh ik la lg ce 0 (-4) vrs vrb vhs vca vxs vxb vfa vbr vba vsp vhe vtk vva vto fst fod fth hN hB_ hT_ hS0 hM_ hst hN) (kwV hg mfX11_layOdds wt_1119 ⟨Nat.le_of_ble_eq_true rfl, Nat.le_of_ble_eq_true rfl⟩) (preVW hK hPc hDc (ci := 11) (r := (RX11, TX11, 35)) rfl rfl) rfl rfl hl.1 rfl (lv_room (Nat.le_of_ble_eq_true rfl)) dX11_swap_24 ⟨Nat.le_of_ble_eq_true rfl, Nat.le_of_ble_eq_true rfl⟩) hS (fun q _ h => hFc q h) hFc (fun ur5 t H1 locs ht hvm w6 hB hz1 hk1 hS => ?_)
    obtain ⟨u7, u8⟩ := ur5
    obtain ⟨hP1, hD1⟩ := hB
    rw [ht] at hP1
    obtain ⟨hP, hD⟩ := va_join (wr := []) (w1 := [(h0, .inr (11, [.ref st, .int (nI N), .int (nI B), .ref rp, .int vrs, .int vrb, .int vhs, .int vca, .int vxs, .int vxb, .ref tp, .int (nI T), .int vfa, .int vbr, .int vba, .int vsp, .int vhe, .int vtk, .int vva, .ref cu, .ref lt, .ref od, .ref th, .ref be, .ref ln, .int (nI S), .ref ma, .int (nI M), .ref ah, .ref bh, .ref ik, .ref la, .ref lg, .ref ce, .int vto])), (st, .inl (G 0, 196, .inl fst)), (od, .inl (G 1, 10, .inr (.inl u7))), (th, .inl (G 1, 10, .inr (.inl u8)))]) hP hD [0, 1, 2, 3] [] rfl rfl (by decide +kernel) (by decide +kernel) hk1 hFc hP1 hD1
    have w6 : ∀ q9 : Nat, q9 < 10 → u7 q9 = odR (fun jb => rhO fst jb (qbF (0 : Int32) jb)) (sdN fst) ((-4) : Int32) N q9 := w6
    generalize H1 = H at hP hS ⊢
    refine lv_aload_n hx hb dX11_swap_27 rfl (lv_at hl 0 rfl) ?_
    refine va_get (D := (dC, dI)) (ci := 11) (v := .ref od) (C := RX11) (T := TX11) (N := 35) hx hb hg inG11 hown hK.1 hP 0 rfl rfl 21 (Nat.le_of_ble_eq_true rfl) (hg _ wt_899) (fun _ h9 => h9) rfl dX11_swap_28 ?_
    refine lv_iconst (v := 0) hx hb dX11_swap_31 rfl ?_
    refine va_lald hx hb hK.1 hP 2 1 rfl rfl (vp_in_iff.mpr ⟨by decide, by decide⟩) dX11_swap_32 ?_
    refine lv_cgl (y := u7 0) (by rfl) ?_
    refine lv_lstore_n (lv' := [(2, .long (u7 0)), (0, .ref h0), (1, .int what)]) hx hb dX11_swap_33 rfl hl (by decide) rfl (fun ls hl => ?_)
    refine lv_bipush (v := (-4)) hx hb dX11_swap_34 rfl ?_
    refine lv_istore (lv' := [(4, .int (-4)), (2, .long (u7 0)), (0, .ref h0), (1, .int what)]) hx hb dX11_swap_36 hl (by decide) rfl (fun ls hl => ?_)
    refine lv_iconst (v := 0) hx hb dX11_swap_38 rfl ?_
    refine lv_istore (lv' := [(5, .int 0), (4, .int (-4)), (2, .long (u7 0)), (0, .ref h0), (1, .int what)]) hx hb dX11_swap_39 hl (by decide) rfl (fun ls hl => ?_)
    have loop41_15 : ∀ (nf j9 : Nat), N + 1 ≤ j9 + nf → j9 ≤ N → ∀ (y10 : Int32) (y11 : Int64) (g12 : Nat → Int32) (g13 : Nat → Int64) (g14 : Nat → Int64) (H : Heap) (locs : List Loc), ((OKS g12 ∧ g12 = fst) ∧ (y11, y10) = swJ (fun ib kb => odR (fun jb => rhO (xch fst ib kb) jb (qbF 0 jb)) (sdN (xch fst ib kb)) (-4) N 0) N (odR (fun jb => rhO fst jb (qbF 0 jb)) (sdN fst) (-4) N 0, -4) j9) → va_P (dC, dI) vwCl [(h0, .inr (11, [.ref st, .int (nI N), .int (nI B), .ref rp, .int vrs, .int vrb, .int vhs, .int vca, .int vxs, .int vxb, .ref tp, .int (nI T), .int vfa, .int vbr, .int vba, .int vsp, .int vhe, .int vtk, .int vva, .ref cu, .ref lt, .ref od, .ref th, .ref be, .ref ln, .int (nI S), .ref ma, .int (nI M), .ref ah, .ref bh, .ref ik, .ref la, .ref lg, .ref ce, .int vto])), (st, .inl (G 0, 196, .inl g12)), (od, .inl (G 1, 10, .inr (.inl g13))), (th, .inl (G 1, 10, .inr (.inl g14)))] H → va_D A [(h0, .inr (11, [.ref st, .int (nI N), .int (nI B), .ref rp, .int vrs, .int vrb, .int vhs, .int vca, .int vxs, .int vxb, .ref tp, .int (nI T), .int vfa, .int vbr, .int vba, .int vsp, .int vhe, .int vtk, .int vva, .ref cu, .ref lt, .ref od, .ref th, .ref be, .ref ln, .int (nI S), .ref ma, .int (nI M), .ref ah, .ref bh, .ref ik, .ref la, .ref lg, .ref ce, .int vto])), (st, .inl (G 0, 196, .inl g12)), (od, .inl (G 1, 10, .inr (.inl g13))), (th, .inl (G 1, 10, .inr (.inl g14)))] → va_S A s.heap H locs → ∀ (ls : Array Slot), lv_has ls 7 [(5, .int (nI j9)), (4, .int y10), (2, .long y11), (0, .ref h0), (1, .int what)] → W p l e (headSpec (Cond.code yX11_swap cX11_swap 7 (some .long) :: GT) ({ frames := 4, cells := 0, slots := 0, locals := 99 } : Room)).room s m ([.ref h0, .int what] : List Value).toArray below meth c H locs 0 0 (MQ below (va_Ql (fun (r : Int64) (u : (Nat → Int32) × (Nat → Int64) × (Nat → Int64)) => match u with | (ost, ood, oth) => (r = if (0 ≤ what.toInt ∧ what.toInt ≤ 2) then swA what N (swJ (fun ib kb => odR (fun jb => rhO (xch fst ib kb) jb (qbF 0 jb)) (sdN (xch fst ib kb)) (-4) N 0) N (odR (fun jb => rhO fst jb (qbF 0 jb)) (sdN fst) (-4) N 0, -4) N) else -1) ∧ OKS ost ∧ ost = fst) (fun (u : (Nat → Int32) × (Nat → Int64) × (Nat → Int64)) (t : State) => match u with | (ost, ood, oth) => va_P (dC, dI) vwCl [(h0, .inr (11, [.ref st, .int (nI N), .int (nI B), .ref rp, .int vrs, .int vrb, .int vhs, .int vca, .int vxs, .int vxb, .ref tp, .int (nI T), .int vfa, .int vbr, .int vba, .int vsp, .int vhe, .int vtk, .int vva, .ref cu, .ref lt, .ref od, .ref th, .ref be, .ref ln, .int (nI S), .ref ma, .int (nI M), .ref ah, .ref bh, .ref ik, .ref la, .ref lg, .ref ce, .int vto])), (st, .inl (G 0, 196, .inl ost)), (od, .inl (G 1, 10, .inr (.inl ood))), (th, .inl (G 1, 10, .inr (.inl oth)))] t.heap ∧ va_D A [(h0, .inr (11, [.ref st, .int (nI N), .int (nI B), .ref rp, .int vrs, .int vrb, .int vhs, .int vca, .int vxs, .int vxb, .ref tp, .int (nI T), .int vfa, .int vbr, .int vba, .int vsp, .int vhe, .int vtk, .int vva, .ref cu, .ref lt, .ref od, .ref th, .ref be, .ref ln, .int (nI S), .ref ma, .int (nI M), .ref ah, .ref bh, .ref ik, .ref la, .ref lg, .ref ce, .int vto])), (st, .inl (G 0, 196, .inl ost)), (od, .inl (G 1, 10, .inr (.inl ood))), (th, .inl (G 1, 10, .inr (.inl oth)))]) A) ([.ref h0, .int what] : List Value).toArray s 0 0 A) (F0 m 41 ls []) := by
      intro nf
      induction nf with
      | zero => intro j9 h1 h2; exact absurd h1 (by omega)
      | succ nf ih41_15 =>
        intro j9 hn16 hj17 y10 y11 g12 g13 g14 H locs hinv hP hD hS ls hl
        refine lv_iload hx hb dX11_swap_41 (lv_at hl 0 rfl) ?_
        refine lv_aload_n hx hb dX11_swap_43 rfl (lv_at hl 3 rfl) ?_
        refine va_get (D := (dC, dI)) (ci := 11) (v := .int (nI N)) (C := RX11) (T := TX11) (N := 35) hx hb hg inG11 hown hK.1 hP 0 rfl rfl 1 (Nat.le_of_ble_eq_true rfl) (hg _ wt_879) (fun _ h9 => h9) rfl dX11_swap_44 ?_
        refine lv_icmp_ge (tgt := 152) hx hb dX11_swap_47 rfl (fun c18 => ?_) (fun c18 => ?_)
        · skip
          have tn2373_ : nIT j9 := fun _ => nI_toInt (by first | omega | (have t := leI c18; omega))
          have n19 : N ≤ j9 := by have t := leI c18; rw [show (nI (j9)).toInt = ((j9 : Nat) : Int) from tn2373_ ()] at t; rw [show (nI (N)).toInt = ((N : Nat) : Int) from tn2368_ ()] at t; omega
          refine lv_iload hx hb dX11_swap_152 (lv_at hl 1 rfl) ?_
          refine lv_bipush (v := (-4)) hx hb dX11_swap_154 rfl ?_
          refine lv_icmp_eq (tgt := 164) hx hb dX11_swap_156 rfl (fun c20 => ?_) (fun c20 => ?_)
          · skip
            refine lv_iload hx hb dX11_swap_164 (lv_at hl 1 rfl) ?_
            refine lv_i2l (v := y10.toInt64) hx hb dX11_swap_166 rfl ?_
            refine lv_goto (tgt := 182) hx hb dX11_swap_167 rfl ?_
            have hpost : (y10.toInt64 : Int64) = if (0 ≤ what.toInt ∧ what.toInt ≤ 2) then swA what N (swJ (fun ib kb => odR (fun jb => rhO (xch fst ib kb) jb (qbF 0 jb)) (sdN (xch fst ib kb)) (-4) N 0) N (odR (fun jb => rhO fst jb (qbF 0 jb)) (sdN fst) (-4) N 0, -4) N) else -1 := by
              have e9 := hinv.2
              rw [show j9 = N by (have t_b4 := b4; have t_hj17 := hj17; have t_n19 := n19; have t_c20 := eqI c20; have : ((-4) : Int32).toInt = -4 := qI_m4; have tnb_ := nib6 tn2368_ tn2369_ tn2370_ tn2371_ tn2372_ tn2373_; have lz0 : (0 : Int32).toInt = 0 := qI_0; have lz1 : (1 : Int32).toInt = 1 := qI_1; have lz2 : (2 : Int32).toInt = 2 := qI_2; have lz3 : (3 : Int32).toInt = 3 := qI_3; have lz5 : (5 : Int32).toInt = 5 := qI_5; have lz9 : (9 : Int32).toInt = 9 := qI_9; omega)] at e9
              rw [if_pos (by (have t_b4 := b4; have t_hj17 := hj17; have t_n19 := n19; have t_c20 := eqI c20; have : ((-4) : Int32).toInt = -4 := qI_m4; have tnb_ := nib6 tn2368_ tn2369_ tn2370_ tn2371_ tn2372_ tn2373_; have lz0 : (0 : Int32).toInt = 0 := qI_0; have lz1 : (1 : Int32).toInt = 1 := qI_1; have lz2 : (2 : Int32).toInt = 2 := qI_2; have lz3 : (3 : Int32).toInt = 3 := qI_3; have lz5 : (5 : Int32).toInt = 5 := qI_5; have lz9 : (9 : Int32).toInt = 9 := qI_9; omega)), ← e9]
              unfold swA
              dsimp only
              first | (rw [if_pos (Or.inl (by first | with_reducible assumption | assumption))]; done) | (rw [if_pos (Or.inr (by first | with_reducible assumption | assumption))]; done) | (rw [if_neg (fun h9 => h9.elim (by first | with_reducible assumption | assumption) (by first | with_reducible assumption | assumption))]; first | done | (rw [rfl]; done))
            obtain ⟨hP9, hD9⟩ := va_sub2 (ws' := [(h0, .inr (11, [.ref st, .int (nI N), .int (nI B), .ref rp, .int vrs, .int vrb, .int vhs, .int vca, .int vxs, .int vxb, .ref tp, .int (nI T), .int vfa, .int vbr, .int vba, .int vsp, .int vhe, .int vtk, .int vva, .ref cu, .ref lt, .ref od, .ref th, .ref be, .ref ln, .int (nI S), .ref ma, .int (nI M), .ref ah, .ref bh, .ref ik, .ref la, .ref lg, .ref ce, .int vto])), (st, .inl (G 0, 196, .inl g12)), (od, .inl (G 1, 10, .inr (.inl g13))), (th, .inl (G 1, 10, .inr (.inl g14)))]) hP hD [0, 1, 2, 3] (by decide +kernel) rfl
            refine W.widen (k := 0) (n := 0) (Nat.le_of_ble_eq_true rfl) (Nat.le_of_ble_eq_true rfl) ?_
            exact W.lret (v := y10.toInt64) hx hb hr (fun t ht hW => ⟨⟨y10.toInt64, (g12, g13, g14), rfl, ⟨hpost, hinv.1⟩, ⟨by rw [ht]; exact hP9, hD9⟩⟩, hS.F ht⟩) hS.2.2 dX11_swap_182
          · skip
            refine lv_iload_n hx hb dX11_swap_159 rfl (lv_at hl 4 rfl) ?_
            refine lv_iconst (v := 2) hx hb dX11_swap_160 rfl ?_
            refine lv_icmp_ne (tgt := 170) hx hb dX11_swap_161 rfl (fun c21 => ?_) (fun c21 => ?_)
            · skip
              refine lv_lload_n hx hb dX11_swap_170 rfl (lv_at hl 2 rfl) ?_
              refine lv_aload_n hx hb dX11_swap_171 rfl (lv_at hl 3 rfl) ?_
              refine va_get (D := (dC, dI)) (ci := 11) (v := .int (nI N)) (C := RX11) (T := TX11) (N := 35) hx hb hg inG11 hown hK.1 hP 0 rfl rfl 1 (Nat.le_of_ble_eq_true rfl) (hg _ wt_879) (fun _ h9 => h9) rfl dX11_swap_172 ?_
              have hPc := hP.sub (ws' := []) [] rfl
              refine va_calll (va_runS (As := [.int (nI N)]) (rest := [.long y11]) ⟨hx, hb, hml, hown, hg⟩ (c_X11_power l dC dI G _ N hN) (kwS hg mfX11_power wt_1131 ⟨Nat.le_of_ble_eq_true rfl, Nat.le_of_ble_eq_true rfl⟩) (preSR hK hPc) rfl rfl hl.1 rfl (lv_room (Nat.le_of_ble_eq_true rfl)) dX11_swap_175 ⟨Nat.le_of_ble_eq_true rfl, Nat.le_of_ble_eq_true rfl⟩) hS (fun q h1 h2 => absurd h2 (Nat.not_le.mpr h1)) (fun q h => hA q (Nat.le_trans hS.1 h)) (fun r22 ur22 t H1 locs ht hvm w23 hB hz1 hk1 hS => ?_)
              have hP := keepR hP hk1
              obtain ⟨w23, w23x⟩ := w23
              subst w23
              refine lv_iload_n hx hb dX11_swap_178 rfl (lv_at hl 4 rfl) ?_
              have hPc := hP.sub (ws' := []) [] rfl
              refine va_calll (va_runS (As := [.long y11, .long (powF N), .int what]) (rest := []) ⟨hx, hb, hml, hown, hg⟩ (c_X11_lowestE l dC dI G _ what y11 (powF N) (powF_ne (by have t_b4 := b4; have t_hj17 := hj17; have t_n19 := n19; have t_c20 := neI c20; have t_c21 := neI c21; have tqz_ := qz10_; have tnb_ := nib6 tn2368_ tn2369_ tn2370_ tn2371_ tn2372_ tn2373_; omega))) (kwS hg mfX11_lowest wt_1134 ⟨Nat.le_of_ble_eq_true rfl, Nat.le_of_ble_eq_true rfl⟩) (preSR hK hPc) rfl rfl hl.1 rfl (lv_room (Nat.le_of_ble_eq_true rfl)) dX11_swap_179 ⟨Nat.le_of_ble_eq_true rfl, Nat.le_of_ble_eq_true rfl⟩) hS (fun q h1 h2 => absurd h2 (Nat.not_le.mpr h1)) (fun q h => hA q (Nat.le_trans hS.1 h)) (fun r24 ur24 t H1 locs ht hvm w25 hB hz1 hk1 hS => ?_)
              have hP := keepR hP hk1
              obtain ⟨w25, w25x⟩ := w25
              subst w25
              have hpost : (frF y11 (powF N) what : Int64) = if (0 ≤ what.toInt ∧ what.toInt ≤ 2) then swA what N (swJ (fun ib kb => odR (fun jb => rhO (xch fst ib kb) jb (qbF 0 jb)) (sdN (xch fst ib kb)) (-4) N 0) N (odR (fun jb => rhO fst jb (qbF 0 jb)) (sdN fst) (-4) N 0, -4) N) else -1 := by
                have e9 := hinv.2
                rw [show j9 = N by (have t_b4 := b4; have t_hj17 := hj17; have t_n19 := n19; have t_c20 := neI c20; have t_c21 := neI c21; have tqz_ := qz10_; have tnb_ := nib6 tn2368_ tn2369_ tn2370_ tn2371_ tn2372_ tn2373_; have lz0 : (0 : Int32).toInt = 0 := qI_0; have lz1 : (1 : Int32).toInt = 1 := qI_1; have lz2 : (2 : Int32).toInt = 2 := qI_2; have lz3 : (3 : Int32).toInt = 3 := qI_3; have lz5 : (5 : Int32).toInt = 5 := qI_5; have lz9 : (9 : Int32).toInt = 9 := qI_9; omega)] at e9
                rw [if_pos (by (have t_b4 := b4; have t_hj17 := hj17; have t_n19 := n19; have t_c20 := neI c20; have t_c21 := neI c21; have tqz_ := qz10_; have tnb_ := nib6 tn2368_ tn2369_ tn2370_ tn2371_ tn2372_ tn2373_; have lz0 : (0 : Int32).toInt = 0 := qI_0; have lz1 : (1 : Int32).toInt = 1 := qI_1; have lz2 : (2 : Int32).toInt = 2 := qI_2; have lz3 : (3 : Int32).toInt = 3 := qI_3; have lz5 : (5 : Int32).toInt = 5 := qI_5; have lz9 : (9 : Int32).toInt = 9 := qI_9; omega)), ← e9]
                unfold swA
                dsimp only
                first | (rw [if_pos (Or.inl (by first | with_reducible assumption | assumption))]; done) | (rw [if_pos (Or.inr (by first | with_reducible assumption | assumption))]; done) | (rw [if_neg (fun h9 => h9.elim (by first | with_reducible assumption | assumption) (by first | with_reducible assumption | assumption))]; first | done | (rw [rfl]; done))
              obtain ⟨hP9, hD9⟩ := va_sub2 (ws' := [(h0, .inr (11, [.ref st, .int (nI N), .int (nI B), .ref rp, .int vrs, .int vrb, .int vhs, .int vca, .int vxs, .int vxb, .ref tp, .int (nI T), .int vfa, .int vbr, .int vba, .int vsp, .int vhe, .int vtk, .int vva, .ref cu, .ref lt, .ref od, .ref th, .ref be, .ref ln, .int (nI S), .ref ma, .int (nI M), .ref ah, .ref bh, .ref ik, .ref la, .ref lg, .ref ce, .int vto])), (st, .inl (G 0, 196, .inl g12)), (od, .inl (G 1, 10, .inr (.inl g13))), (th, .inl (G 1, 10, .inr (.inl g14)))]) hP hD [0, 1, 2, 3] (by decide +kernel) rfl
              refine W.widen (k := 0) (n := 0) (Nat.le_of_ble_eq_true rfl) (Nat.le_of_ble_eq_true rfl) ?_
              exact W.lret (v := frF y11 (powF N) what) hx hb hr (fun t ht hW => ⟨⟨frF y11 (powF N) what, (g12, g13, g14), rfl, ⟨hpost, hinv.1⟩, ⟨by rw [ht]; exact hP9, hD9⟩⟩, hS.F ht⟩) hS.2.2 dX11_swap_182
            · skip
              refine lv_iload hx hb dX11_swap_164 (lv_at hl 1 rfl) ?_
              refine lv_i2l (v := y10.toInt64) hx hb dX11_swap_166 rfl ?_
              refine lv_goto (tgt := 182) hx hb dX11_swap_167 rfl ?_
              have hpost : (y10.toInt64 : Int64) = if (0 ≤ what.toInt ∧ what.toInt ≤ 2) then swA what N (swJ (fun ib kb => odR (fun jb => rhO (xch fst ib kb) jb (qbF 0 jb)) (sdN (xch fst ib kb)) (-4) N 0) N (odR (fun jb => rhO fst jb (qbF 0 jb)) (sdN fst) (-4) N 0, -4) N) else -1 := by
                have e9 := hinv.2
                rw [show j9 = N by (have t_b4 := b4; have t_hj17 := hj17; have t_n19 := n19; have t_c20 := neI c20; have t_c21 := eqI c21; have tqz_ := qz10_; have tnb_ := nib6 tn2368_ tn2369_ tn2370_ tn2371_ tn2372_ tn2373_; have lz0 : (0 : Int32).toInt = 0 := qI_0; have lz1 : (1 : Int32).toInt = 1 := qI_1; have lz2 : (2 : Int32).toInt = 2 := qI_2; have lz3 : (3 : Int32).toInt = 3 := qI_3; have lz5 : (5 : Int32).toInt = 5 := qI_5; have lz9 : (9 : Int32).toInt = 9 := qI_9; omega)] at e9
                rw [if_pos (by (have t_b4 := b4; have t_hj17 := hj17; have t_n19 := n19; have t_c20 := neI c20; have t_c21 := eqI c21; have tqz_ := qz10_; have tnb_ := nib6 tn2368_ tn2369_ tn2370_ tn2371_ tn2372_ tn2373_; have lz0 : (0 : Int32).toInt = 0 := qI_0; have lz1 : (1 : Int32).toInt = 1 := qI_1; have lz2 : (2 : Int32).toInt = 2 := qI_2; have lz3 : (3 : Int32).toInt = 3 := qI_3; have lz5 : (5 : Int32).toInt = 5 := qI_5; have lz9 : (9 : Int32).toInt = 9 := qI_9; omega)), ← e9]
                unfold swA
                dsimp only
                first | (rw [if_pos (Or.inl (by first | with_reducible assumption | assumption))]; done) | (rw [if_pos (Or.inr (by first | with_reducible assumption | assumption))]; done) | (rw [if_neg (fun h9 => h9.elim (by first | with_reducible assumption | assumption) (by first | with_reducible assumption | assumption))]; first | done | (rw [rfl]; done))
              obtain ⟨hP9, hD9⟩ := va_sub2 (ws' := [(h0, .inr (11, [.ref st, .int (nI N), .int (nI B), .ref rp, .int vrs, .int vrb, .int vhs, .int vca, .int vxs, .int vxb, .ref tp, .int (nI T), .int vfa, .int vbr, .int vba, .int vsp, .int vhe, .int vtk, .int vva, .ref cu, .ref lt, .ref od, .ref th, .ref be, .ref ln, .int (nI S), .ref ma, .int (nI M), .ref ah, .ref bh, .ref ik, .ref la, .ref lg, .ref ce, .int vto])), (st, .inl (G 0, 196, .inl g12)), (od, .inl (G 1, 10, .inr (.inl g13))), (th, .inl (G 1, 10, .inr (.inl g14)))]) hP hD [0, 1, 2, 3] (by decide +kernel) rfl
              refine W.widen (k := 0) (n := 0) (Nat.le_of_ble_eq_true rfl) (Nat.le_of_ble_eq_true rfl) ?_
              exact W.lret (v := y10.toInt64) hx hb hr (fun t ht hW => ⟨⟨y10.toInt64, (g12, g13, g14), rfl, ⟨hpost, hinv.1⟩, ⟨by rw [ht]; exact hP9, hD9⟩⟩, hS.F ht⟩) hS.2.2 dX11_swap_182
        · skip
          have tn2374_ : nIT j9 := fun _ => nI_toInt (by first | omega | (have t := nleI c18; omega))
          have n26 : j9 < N := by have t := nleI c18; rw [show (nI (j9)).toInt = ((j9 : Nat) : Int) from tn2374_ ()] at t; rw [show (nI (N)).toInt = ((N : Nat) : Int) from tn2368_ ()] at t; omega
          refine lv_iload hx hb dX11_swap_50 (lv_at hl 0 rfl) ?_
          refine lv_iconst (v := 1) hx hb dX11_swap_52 rfl ?_
          refine lv_iadd hx hb dX11_swap_53 ?_
          refine lv_cg (y := nI (j9 + 1)) (by rw [show (1 : Int32) = nI 1 from rfl]; exact nI_add _ _) ?_
          refine lv_istore (lv' := [(6, .int (nI (j9 + 1))), (5, .int (nI j9)), (4, .int y10), (2, .long y11), (0, .ref h0), (1, .int what)]) hx hb dX11_swap_54 hl (by decide) rfl (fun ls hl => ?_)
          have loop56_33 : ∀ (nf j27 : Nat), N + 1 ≤ j27 + nf → j27 ≤ N → (j9 + 1) ≤ j27 → ∀ (y28 : Int32) (y29 : Int64) (g30 : Nat → Int32) (g31 : Nat → Int64) (g32 : Nat → Int64) (H : Heap) (locs : List Loc), ((OKS g30 ∧ g30 = fst) ∧ (y29, y28) = swK (fun ib kb => odR (fun jb => rhO (xch fst ib kb) jb (qbF 0 jb)) (sdN (xch fst ib kb)) (-4) N 0) j9 (j27 - (j9 + 1)) (swJ (fun ib kb => odR (fun jb => rhO (xch fst ib kb) jb (qbF 0 jb)) (sdN (xch fst ib kb)) (-4) N 0) N (odR (fun jb => rhO fst jb (qbF 0 jb)) (sdN fst) (-4) N 0, -4) j9)) → va_P (dC, dI) vwCl [(h0, .inr (11, [.ref st, .int (nI N), .int (nI B), .ref rp, .int vrs, .int vrb, .int vhs, .int vca, .int vxs, .int vxb, .ref tp, .int (nI T), .int vfa, .int vbr, .int vba, .int vsp, .int vhe, .int vtk, .int vva, .ref cu, .ref lt, .ref od, .ref th, .ref be, .ref ln, .int (nI S), .ref ma, .int (nI M), .ref ah, .ref bh, .ref ik, .ref la, .ref lg, .ref ce, .int vto])), (st, .inl (G 0, 196, .inl g30)), (od, .inl (G 1, 10, .inr (.inl g31))), (th, .inl (G 1, 10, .inr (.inl g32)))] H → va_D A [(h0, .inr (11, [.ref st, .int (nI N), .int (nI B), .ref rp, .int vrs, .int vrb, .int vhs, .int vca, .int vxs, .int vxb, .ref tp, .int (nI T), .int vfa, .int vbr, .int vba, .int vsp, .int vhe, .int vtk, .int vva, .ref cu, .ref lt, .ref od, .ref th, .ref be, .ref ln, .int (nI S), .ref ma, .int (nI M), .ref ah, .ref bh, .ref ik, .ref la, .ref lg, .ref ce, .int vto])), (st, .inl (G 0, 196, .inl g30)), (od, .inl (G 1, 10, .inr (.inl g31))), (th, .inl (G 1, 10, .inr (.inl g32)))] → va_S A s.heap H locs → ∀ (ls : Array Slot), lv_has ls 7 [(6, .int (nI j27)), (5, .int (nI j9)), (4, .int y28), (2, .long y29), (0, .ref h0), (1, .int what)] → W p l e (headSpec (Cond.code yX11_swap cX11_swap 7 (some .long) :: GT) ({ frames := 4, cells := 0, slots := 0, locals := 99 } : Room)).room s m ([.ref h0, .int what] : List Value).toArray below meth c H locs 0 0 (MQ below (va_Ql (fun (r : Int64) (u : (Nat → Int32) × (Nat → Int64) × (Nat → Int64)) => match u with | (ost, ood, oth) => (r = if (0 ≤ what.toInt ∧ what.toInt ≤ 2) then swA what N (swJ (fun ib kb => odR (fun jb => rhO (xch fst ib kb) jb (qbF 0 jb)) (sdN (xch fst ib kb)) (-4) N 0) N (odR (fun jb => rhO fst jb (qbF 0 jb)) (sdN fst) (-4) N 0, -4) N) else -1) ∧ OKS ost ∧ ost = fst) (fun (u : (Nat → Int32) × (Nat → Int64) × (Nat → Int64)) (t : State) => match u with | (ost, ood, oth) => va_P (dC, dI) vwCl [(h0, .inr (11, [.ref st, .int (nI N), .int (nI B), .ref rp, .int vrs, .int vrb, .int vhs, .int vca, .int vxs, .int vxb, .ref tp, .int (nI T), .int vfa, .int vbr, .int vba, .int vsp, .int vhe, .int vtk, .int vva, .ref cu, .ref lt, .ref od, .ref th, .ref be, .ref ln, .int (nI S), .ref ma, .int (nI M), .ref ah, .ref bh, .ref ik, .ref la, .ref lg, .ref ce, .int vto])), (st, .inl (G 0, 196, .inl ost)), (od, .inl (G 1, 10, .inr (.inl ood))), (th, .inl (G 1, 10, .inr (.inl oth)))] t.heap ∧ va_D A [(h0, .inr (11, [.ref st, .int (nI N), .int (nI B), .ref rp, .int vrs, .int vrb, .int vhs, .int vca, .int vxs, .int vxb, .ref tp, .int (nI T), .int vfa, .int vbr, .int vba, .int vsp, .int vhe, .int vtk, .int vva, .ref cu, .ref lt, .ref od, .ref th, .ref be, .ref ln, .int (nI S), .ref ma, .int (nI M), .ref ah, .ref bh, .ref ik, .ref la, .ref lg, .ref ce, .int vto])), (st, .inl (G 0, 196, .inl ost)), (od, .inl (G 1, 10, .inr (.inl ood))), (th, .inl (G 1, 10, .inr (.inl oth)))]) A) ([.ref h0, .int what] : List Value).toArray s 0 0 A) (F0 m 56 ls []) := by
            intro nf
            induction nf with
            | zero => intro j27 h1 h2; exact absurd h1 (by omega)
            | succ nf ih56_33 =>
              intro j27 hn34 hj35 hlo_j27 y28 y29 g30 g31 g32 H locs hinv hP hD hS ls hl
              refine lv_iload hx hb dX11_swap_56 (lv_at hl 0 rfl) ?_
              refine lv_aload_n hx hb dX11_swap_58 rfl (lv_at hl 4 rfl) ?_
              refine va_get (D := (dC, dI)) (ci := 11) (v := .int (nI N)) (C := RX11) (T := TX11) (N := 35) hx hb hg inG11 hown hK.1 hP 0 rfl rfl 1 (Nat.le_of_ble_eq_true rfl) (hg _ wt_879) (fun _ h9 => h9) rfl dX11_swap_59 ?_
              refine lv_icmp_ge (tgt := 146) hx hb dX11_swap_62 rfl (fun c36 => ?_) (fun c36 => ?_)
              · skip
                have tn2375_ : nIT j27 := fun _ => nI_toInt (by first | omega | (have t := leI c36; omega))
                have n37 : N ≤ j27 := by have t := leI c36; rw [show (nI (j27)).toInt = ((j27 : Nat) : Int) from tn2375_ ()] at t; rw [show (nI (N)).toInt = ((N : Nat) : Int) from tn2368_ ()] at t; omega
                refine lv_iinc (v := nI (j9 + 1)) (lv' := [(5, .int (nI (j9 + 1))), (6, .int (nI j27)), (4, .int y28), (2, .long y29), (0, .ref h0), (1, .int what)]) hx hb dX11_swap_146 hl (k := 1) rfl (by rw [show Int32.ofInt 1 = nI 1 from by decide]; exact nI_add _ _) (by decide) rfl (fun ls hl => ?_)
                refine lv_goto (tgt := 41) hx hb dX11_swap_149 rfl ?_
                exact ih41_15 (j9 + 1) (by omega) (by omega) y28 y29 g30 g31 g32 _ _ (by have e9 := hinv.2; rw [show j27 = N by omega] at e9; exact ⟨hinv.1, e9⟩) hP hD hS ls (lv_sub hl [0, 2, 3, 4, 5] rfl)
              · skip
                have tn2376_ : nIT j27 := fun _ => nI_toInt (by first | omega | (have t := nleI c36; omega))
                have n38 : j27 < N := by have t := nleI c36; rw [show (nI (j27)).toInt = ((j27 : Nat) : Int) from tn2376_ ()] at t; rw [show (nI (N)).toInt = ((N : Nat) : Int) from tn2368_ ()] at t; omega
                refine lv_aload_n hx hb dX11_swap_65 rfl (lv_at hl 4 rfl) ?_
                refine lv_iload hx hb dX11_swap_66 (lv_at hl 1 rfl) ?_
                refine lv_iload hx hb dX11_swap_68 (lv_at hl 0 rfl) ?_
                obtain ⟨hPc, hDc, hFc⟩ := va_sub3 (ws' := [(h0, .inr (11, [.ref st, .int (nI N), .int (nI B), .ref rp, .int vrs, .int vrb, .int vhs, .int vca, .int vxs, .int vxb, .ref tp, .int (nI T), .int vfa, .int vbr, .int vba, .int vsp, .int vhe, .int vtk, .int vva, .ref cu, .ref lt, .ref od, .ref th, .ref be, .ref ln, .int (nI S), .ref ma, .int (nI M), .ref ah, .ref bh, .ref ik, .ref la, .ref lg, .ref ce, .int vto])), (st, .inl (G 0, 196, .inl g30))]) hP hD hS hA [0, 1] (by decide +kernel) rfl
                refine va_callv (va_runV (As := [.int (nI j9), .int (nI j27)]) (rest := []) ⟨hx, hb, hml, hown, hg⟩ (c_X11_changesO l dC dI G _ h0 j9 j27 st N B rp tp T cu lt od th be ln S ma M ah bh ik la lg ce vrs vrb vhs vca vxs vxb vfa vbr vba vsp vhe vtk vva vto g30 hN hB_ hT_ hS0 hM_ hinv.1.1 (by first | omega | (have t_b4 := b4; have t_hj17 := hj17; have t_n26 := n26; have t_hj35 := hj35; have t_hlo_j27 := hlo_j27; have t_n38 := n38; have tnb_ := nib7 tn2368_ tn2369_ tn2370_ tn2371_ tn2372_ tn2374_ tn2376_; omega)) (by first | omega | (have t_b4 := b4; have t_hj17 := hj17; have t_n26 := n26; have t_hj35 := hj35; have t_hlo_j27 := hlo_j27; have t_n38 := n38; have tnb_ := nib7 tn2368_ tn2369_ tn2370_ tn2371_ tn2372_ tn2374_ tn2376_; omega))) (kwV hg mfX11_changes wt_1187 ⟨Nat.le_of_ble_eq_true rfl, Nat.le_of_ble_eq_true rfl⟩) (preVW hK hPc hDc (ci := 11) (r := (RX11, TX11, 35)) rfl rfl) rfl rfl hl.1 rfl (lv_room (Nat.le_of_ble_eq_true rfl)) dX11_swap_70 ⟨Nat.le_of_ble_eq_true rfl, Nat.le_of_ble_eq_true rfl⟩) hS (fun q _ h => hFc q h) hFc (fun ur39 t H1 locs ht hvm w40 hB hz1 hk1 hS => ?_)
                obtain ⟨u41, rfl⟩ : ∃ z, z = ur39 := ⟨_, rfl⟩
                obtain ⟨hP1, hD1⟩ := hB
                rw [ht] at hP1
                obtain ⟨hP, hD⟩ := va_join (wr := [(od, .inl (G 1, 10, .inr (.inl g31))), (th, .inl (G 1, 10, .inr (.inl g32)))]) (w1 := [(h0, .inr (11, [.ref st, .int (nI N), .int (nI B), .ref rp, .int vrs, .int vrb, .int vhs, .int vca, .int vxs, .int vxb, .ref tp, .int (nI T), .int vfa, .int vbr, .int vba, .int vsp, .int vhe, .int vtk, .int vva, .ref cu, .ref lt, .ref od, .ref th, .ref be, .ref ln, .int (nI S), .ref ma, .int (nI M), .ref ah, .ref bh, .ref ik, .ref la, .ref lg, .ref ce, .int vto])), (st, .inl (G 0, 196, .inl u41))]) hP hD [0, 1] [2, 3] rfl rfl (by decide +kernel) (by decide +kernel) hk1 hFc hP1 hD1
                have w40 : OKS u41 ∧ u41 = xch g30 j9 j27 := w40
                generalize H1 = H at hP hS ⊢
                have okw40 := w40.1
                have eqw40 : u41 = xch g30 j9 j27 := w40.2
                clear w40
                subst eqw40
                refine lv_aload_n hx hb dX11_swap_73 rfl (lv_at hl 4 rfl) ?_
                refine lv_aload_n hx hb dX11_swap_74 rfl (lv_at hl 4 rfl) ?_
                refine va_get (D := (dC, dI)) (ci := 11) (v := .int (nI N)) (C := RX11) (T := TX11) (N := 35) hx hb hg inG11 hown hK.1 hP 2 rfl rfl 1 (Nat.le_of_ble_eq_true rfl) (hg _ wt_879) (fun _ h9 => h9) rfl dX11_swap_75 ?_
                refine lv_iconst (v := 0) hx hb dX11_swap_78 rfl ?_
                refine lv_bipush (v := (-4)) hx hb dX11_swap_79 rfl ?_
                obtain ⟨hPc, hDc, hFc⟩ := va_sub3 (ws' := [(h0, .inr (11, [.ref st, .int (nI N), .int (nI B), .ref rp, .int vrs, .int vrb, .int vhs, .int vca, .int vxs, .int vxb, .ref tp, .int (nI T), .int vfa, .int vbr, .int vba, .int vsp, .int vhe, .int vtk, .int vva, .ref cu, .ref lt, .ref od, .ref th, .ref be, .ref ln, .int (nI S), .ref ma, .int (nI M), .ref ah, .ref bh, .ref ik, .ref la, .ref lg, .ref ce, .int vto])), (st, .inl (G 0, 196, .inl (xch g30 j9 j27))), (od, .inl (G 1, 10, .inr (.inl g31))), (th, .inl (G 1, 10, .inr (.inl g32)))]) hP hD hS hA [2, 3, 0, 1] (by decide +kernel) rfl
                refine va_callv (va_runV (As := [.int (nI N), .int 0, .int (-4)]) (rest := []) ⟨hx, hb, hml, hown, hg⟩ (c_X11_layOddsE l dC dI G _ h0 N st N B rp tp T cu lt od th be ln S ma M ah bh ik la lg ce 0 (-4) vrs vrb vhs vca vxs vxb vfa vbr vba vsp vhe vtk vva vto (xch g30 j9 j27) g31 g32 hN hB_ hT_ hS0 hM_ okw40 hN) (kwV hg mfX11_layOdds wt_1119 ⟨Nat.le_of_ble_eq_true rfl, Nat.le_of_ble_eq_true rfl⟩) (preVW hK hPc hDc (ci := 11) (r := (RX11, TX11, 35)) rfl rfl) rfl rfl hl.1 rfl (lv_room (Nat.le_of_ble_eq_true rfl)) dX11_swap_81 ⟨Nat.le_of_ble_eq_true rfl, Nat.le_of_ble_eq_true rfl⟩) hS (fun q _ h => hFc q h) hFc (fun ur42 t H1 locs ht hvm w43 hB hz1 hk1 hS => ?_)
                obtain ⟨u44, u45⟩ := ur42
                obtain ⟨hP1, hD1⟩ := hB
                rw [ht] at hP1
                obtain ⟨hP, hD⟩ := va_join (wr := []) (w1 := [(h0, .inr (11, [.ref st, .int (nI N), .int (nI B), .ref rp, .int vrs, .int vrb, .int vhs, .int vca, .int vxs, .int vxb, .ref tp, .int (nI T), .int vfa, .int vbr, .int vba, .int vsp, .int vhe, .int vtk, .int vva, .ref cu, .ref lt, .ref od, .ref th, .ref be, .ref ln, .int (nI S), .ref ma, .int (nI M), .ref ah, .ref bh, .ref ik, .ref la, .ref lg, .ref ce, .int vto])), (st, .inl (G 0, 196, .inl (xch g30 j9 j27))), (od, .inl (G 1, 10, .inr (.inl u44))), (th, .inl (G 1, 10, .inr (.inl u45)))]) hP hD [2, 3, 0, 1] [] rfl rfl (by decide +kernel) (by decide +kernel) hk1 hFc hP1 hD1
                have w43 : ∀ q9 : Nat, q9 < 10 → u44 q9 = odR (fun jb => rhO (xch g30 j9 j27) jb (qbF (0 : Int32) jb)) (sdN (xch g30 j9 j27)) ((-4) : Int32) N q9 := w43
                generalize H1 = H at hP hS ⊢
                refine lv_aload_n hx hb dX11_swap_84 rfl (lv_at hl 4 rfl) ?_
                refine lv_iload hx hb dX11_swap_85 (lv_at hl 1 rfl) ?_
                refine lv_iload hx hb dX11_swap_87 (lv_at hl 0 rfl) ?_
                obtain ⟨hPc, hDc, hFc⟩ := va_sub3 (ws' := [(h0, .inr (11, [.ref st, .int (nI N), .int (nI B), .ref rp, .int vrs, .int vrb, .int vhs, .int vca, .int vxs, .int vxb, .ref tp, .int (nI T), .int vfa, .int vbr, .int vba, .int vsp, .int vhe, .int vtk, .int vva, .ref cu, .ref lt, .ref od, .ref th, .ref be, .ref ln, .int (nI S), .ref ma, .int (nI M), .ref ah, .ref bh, .ref ik, .ref la, .ref lg, .ref ce, .int vto])), (st, .inl (G 0, 196, .inl (xch g30 j9 j27)))]) hP hD hS hA [0, 1] (by decide +kernel) rfl
                refine va_callv (va_runV (As := [.int (nI j9), .int (nI j27)]) (rest := []) ⟨hx, hb, hml, hown, hg⟩ (c_X11_changesO l dC dI G _ h0 j9 j27 st N B rp tp T cu lt od th be ln S ma M ah bh ik la lg ce vrs vrb vhs vca vxs vxb vfa vbr vba vsp vhe vtk vva vto (xch g30 j9 j27) hN hB_ hT_ hS0 hM_ okw40 (by first | omega | (have t_b4 := b4; have t_hj17 := hj17; have t_n26 := n26; have t_hj35 := hj35; have t_hlo_j27 := hlo_j27; have t_n38 := n38; have tnb_ := nib7 tn2368_ tn2369_ tn2370_ tn2371_ tn2372_ tn2374_ tn2376_; omega)) (by first | omega | (have t_b4 := b4; have t_hj17 := hj17; have t_n26 := n26; have t_hj35 := hj35; have t_hlo_j27 := hlo_j27; have t_n38 := n38; have tnb_ := nib7 tn2368_ tn2369_ tn2370_ tn2371_ tn2372_ tn2374_ tn2376_; omega))) (kwV hg mfX11_changes wt_1187 ⟨Nat.le_of_ble_eq_true rfl, Nat.le_of_ble_eq_true rfl⟩) (preVW hK hPc hDc (ci := 11) (r := (RX11, TX11, 35)) rfl rfl) rfl rfl hl.1 rfl (lv_room (Nat.le_of_ble_eq_true rfl)) dX11_swap_89 ⟨Nat.le_of_ble_eq_true rfl, Nat.le_of_ble_eq_true rfl⟩) hS (fun q _ h => hFc q h) hFc (fun ur46 t H1 locs ht hvm w47 hB hz1 hk1 hS => ?_)
                obtain ⟨u48, rfl⟩ : ∃ z, z = ur46 := ⟨_, rfl⟩
                obtain ⟨hP1, hD1⟩ := hB
                rw [ht] at hP1
                obtain ⟨hP, hD⟩ := va_join (wr := [(od, .inl (G 1, 10, .inr (.inl u44))), (th, .inl (G 1, 10, .inr (.inl u45)))]) (w1 := [(h0, .inr (11, [.ref st, .int (nI N), .int (nI B), .ref rp, .int vrs, .int vrb, .int vhs, .int vca, .int vxs, .int vxb, .ref tp, .int (nI T), .int vfa, .int vbr, .int vba, .int vsp, .int vhe, .int vtk, .int vva, .ref cu, .ref lt, .ref od, .ref th, .ref be, .ref ln, .int (nI S), .ref ma, .int (nI M), .ref ah, .ref bh, .ref ik, .ref la, .ref lg, .ref ce, .int vto])), (st, .inl (G 0, 196, .inl u48))]) hP hD [0, 1] [2, 3] rfl rfl (by decide +kernel) (by decide +kernel) hk1 hFc hP1 hD1
                have w47 : OKS u48 ∧ u48 = xch (xch g30 j9 j27) j9 j27 := w47
                generalize H1 = H at hP hS ⊢
                have okw47 := w47.1
                have eqw47 : u48 = xch (xch g30 j9 j27) j9 j27 := w47.2
                clear w47
                subst eqw47
                refine lv_aload_n hx hb dX11_swap_92 rfl (lv_at hl 4 rfl) ?_
                refine va_get (D := (dC, dI)) (ci := 11) (v := .ref od) (C := RX11) (T := TX11) (N := 35) hx hb hg inG11 hown hK.1 hP 2 rfl rfl 21 (Nat.le_of_ble_eq_true rfl) (hg _ wt_899) (fun _ h9 => h9) rfl dX11_swap_93 ?_
                refine lv_iconst (v := 0) hx hb dX11_swap_96 rfl ?_
                refine va_lald hx hb hK.1 hP 0 1 rfl rfl (vp_in_iff.mpr ⟨by decide, by decide⟩) dX11_swap_97 ?_
                refine lv_cgl (y := u44 0) (by rfl) ?_
                refine lv_lload_n hx hb dX11_swap_98 rfl (lv_at hl 3 rfl) ?_
                refine W.lcmp hx hb dX11_swap_99 ?_
                refine lv_if_ge (tgt := 114) hx hb dX11_swap_100 rfl (fun c49 => ?_) (fun c49 => ?_)
                · skip
                  refine lv_iload hx hb dX11_swap_114 (lv_at hl 2 rfl) ?_
                  refine lv_istore (lv' := [(4, .int y28), (6, .int (nI j27)), (5, .int (nI j9)), (2, .long y29), (0, .ref h0), (1, .int what)]) hx hb dX11_swap_116 hl (by decide) rfl (fun ls hl => ?_)
                  refine lv_aload_n hx hb dX11_swap_118 rfl (lv_at hl 4 rfl) ?_
                  refine va_get (D := (dC, dI)) (ci := 11) (v := .ref od) (C := RX11) (T := TX11) (N := 35) hx hb hg inG11 hown hK.1 hP 2 rfl rfl 21 (Nat.le_of_ble_eq_true rfl) (hg _ wt_899) (fun _ h9 => h9) rfl dX11_swap_119 ?_
                  refine lv_iconst (v := 0) hx hb dX11_swap_122 rfl ?_
                  refine va_lald hx hb hK.1 hP 0 1 rfl rfl (vp_in_iff.mpr ⟨by decide, by decide⟩) dX11_swap_123 ?_
                  refine lv_cgl (y := u44 0) (by rfl) ?_
                  refine lv_lload_n hx hb dX11_swap_124 rfl (lv_at hl 3 rfl) ?_
                  refine W.lcmp hx hb dX11_swap_125 ?_
                  refine lv_if_ge (tgt := 138) hx hb dX11_swap_126 rfl (fun c50 => ?_) (fun c50 => ?_)
                  · skip
                    refine lv_lload_n hx hb dX11_swap_138 rfl (lv_at hl 3 rfl) ?_
                    refine lv_lstore_n (lv' := [(2, .long y29), (4, .int y28), (6, .int (nI j27)), (5, .int (nI j9)), (0, .ref h0), (1, .int what)]) hx hb dX11_swap_139 rfl hl (by decide) rfl (fun ls hl => ?_)
                    refine lv_iinc (v := nI (j27 + 1)) (lv' := [(6, .int (nI (j27 + 1))), (2, .long y29), (4, .int y28), (5, .int (nI j9)), (0, .ref h0), (1, .int what)]) hx hb dX11_swap_140 hl (k := 2) rfl (by rw [show Int32.ofInt 1 = nI 1 from by decide]; exact nI_add _ _) (by decide) rfl (fun ls hl => ?_)
                    refine lv_goto (tgt := 56) hx hb dX11_swap_143 rfl ?_
                    exact ih56_33 (j27 + 1) (by omega) (by omega) (by omega) y28 y29 (xch (xch g30 j9 j27) j9 j27) u44 u45 _ _ (by have t_b4 := b4; have t_hj17 := hj17; have t_n26 := n26; have t_hj35 := hj35; have t_hlo_j27 := hlo_j27; have t_n38 := n38; have t_c49 := lcm_ge_t c49; have t_c50 := lcm_ge_t c50; have tnb_ := nib7 tn2368_ tn2369_ tn2370_ tn2371_ tn2372_ tn2374_ tn2376_; have lz0 : (0 : Int32).toInt = 0 := qI_0; have lz1 : (1 : Int32).toInt = 1 := qI_1; have lz2 : (2 : Int32).toInt = 2 := qI_2; have lz3 : (3 : Int32).toInt = 3 := qI_3; have lz5 : (5 : Int32).toInt = 5 := qI_5; have lz9 : (9 : Int32).toInt = 9 := qI_9; have e9 : u44 0 = odR (fun jb => rhO (xch fst j9 j27) jb (qbF 0 jb)) (sdN (xch fst j9 j27)) (-4) N 0 := (by have e8 := w43 0 (by decide); rw [hinv.1.2] at e8; exact e8); exact ⟨⟨(by rw [xch_xch]; exact hinv.1.1), (by rw [xch_xch]; exact hinv.1.2)⟩, swK_ge (by omega) hinv.2 (by rw [← e9]; omega)⟩) (hP.sub [2, 3, 0, 1] rfl) (hD.sub [2, 3, 0, 1] (by decide) rfl) hS ls (lv_sub hl [0, 3, 2, 1, 4, 5] rfl)
                  · skip
                    have t_b4 := b4
                    have t_hj17 := hj17
                    have t_n26 := n26
                    have t_hj35 := hj35
                    have t_hlo_j27 := hlo_j27
                    have t_n38 := n38
                    have t_c49 := lcm_ge_t c49
                    have t_c50 := lcm_ge_f c50
                    have t_n0 : (nI N).toInt = (N : Int) := tn2368_ ()
                    have t_n1 : (nI B).toInt = (B : Int) := tn2369_ ()
                    have t_n2 : (nI T).toInt = (T : Int) := tn2370_ ()
                    have t_n3 : (nI S).toInt = (S : Int) := tn2371_ ()
                    have t_n4 : (nI M).toInt = (M : Int) := tn2372_ ()
                    have t_n5 : (nI j9).toInt = (j9 : Int) := tn2374_ ()
                    have t_n6 : (nI j27).toInt = (j27 : Int) := tn2376_ ()
                    exfalso; omega
                · skip
                  refine lv_bipush (v := 10) hx hb dX11_swap_103 rfl ?_
                  refine lv_iload hx hb dX11_swap_105 (lv_at hl 1 rfl) ?_
                  refine lv_imul hx hb dX11_swap_107 ?_
                  refine lv_cg (y := nI (10 * j9)) (by rw [show (10 : Int32) = nI 10 from rfl]; exact pk_mul _ _) ?_
                  refine lv_iload hx hb dX11_swap_108 (lv_at hl 0 rfl) ?_
                  refine lv_iadd hx hb dX11_swap_110 ?_
                  refine lv_cg (y := nI ((10 * j9) + j27)) (by exact nI_add _ _) ?_
                  refine lv_goto (tgt := 116) hx hb dX11_swap_111 rfl ?_
                  refine lv_istore (lv' := [(4, .int (nI ((10 * j9) + j27))), (6, .int (nI j27)), (5, .int (nI j9)), (2, .long y29), (0, .ref h0), (1, .int what)]) hx hb dX11_swap_116 hl (by decide) rfl (fun ls hl => ?_)
                  refine lv_aload_n hx hb dX11_swap_118 rfl (lv_at hl 4 rfl) ?_
                  refine va_get (D := (dC, dI)) (ci := 11) (v := .ref od) (C := RX11) (T := TX11) (N := 35) hx hb hg inG11 hown hK.1 hP 2 rfl rfl 21 (Nat.le_of_ble_eq_true rfl) (hg _ wt_899) (fun _ h9 => h9) rfl dX11_swap_119 ?_
                  refine lv_iconst (v := 0) hx hb dX11_swap_122 rfl ?_
                  refine va_lald hx hb hK.1 hP 0 1 rfl rfl (vp_in_iff.mpr ⟨by decide, by decide⟩) dX11_swap_123 ?_
                  refine lv_cgl (y := u44 0) (by rfl) ?_
                  refine lv_lload_n hx hb dX11_swap_124 rfl (lv_at hl 3 rfl) ?_
                  refine W.lcmp hx hb dX11_swap_125 ?_
                  refine lv_if_ge (tgt := 138) hx hb dX11_swap_126 rfl (fun c51 => ?_) (fun c51 => ?_)
                  · skip
                    have t_b4 := b4
                    have t_hj17 := hj17
                    have t_n26 := n26
                    have t_hj35 := hj35
                    have t_hlo_j27 := hlo_j27
                    have t_n38 := n38
                    have t_c49 := lcm_ge_f c49
                    have t_c51 := lcm_ge_t c51
                    have t_n0 : (nI N).toInt = (N : Int) := tn2368_ ()
                    have t_n1 : (nI B).toInt = (B : Int) := tn2369_ ()
                    have t_n2 : (nI T).toInt = (T : Int) := tn2370_ ()
                    have t_n3 : (nI S).toInt = (S : Int) := tn2371_ ()
                    have t_n4 : (nI M).toInt = (M : Int) := tn2372_ ()
                    have t_n5 : (nI j9).toInt = (j9 : Int) := tn2374_ ()
                    have t_n6 : (nI j27).toInt = (j27 : Int) := tn2376_ ()
                    exfalso; omega
                  · skip
                    refine lv_aload_n hx hb dX11_swap_129 rfl (lv_at hl 4 rfl) ?_
                    refine va_get (D := (dC, dI)) (ci := 11) (v := .ref od) (C := RX11) (T := TX11) (N := 35) hx hb hg inG11 hown hK.1 hP 2 rfl rfl 21 (Nat.le_of_ble_eq_true rfl) (hg _ wt_899) (fun _ h9 => h9) rfl dX11_swap_130 ?_
                    refine lv_iconst (v := 0) hx hb dX11_swap_133 rfl ?_
                    refine va_lald hx hb hK.1 hP 0 1 rfl rfl (vp_in_iff.mpr ⟨by decide, by decide⟩) dX11_swap_134 ?_
                    refine lv_cgl (y := u44 0) (by rfl) ?_
                    refine lv_goto (tgt := 139) hx hb dX11_swap_135 rfl ?_
                    refine lv_lstore_n (lv' := [(2, .long (u44 0)), (4, .int (nI ((10 * j9) + j27))), (6, .int (nI j27)), (5, .int (nI j9)), (0, .ref h0), (1, .int what)]) hx hb dX11_swap_139 rfl hl (by decide) rfl (fun ls hl => ?_)
                    refine lv_iinc (v := nI (j27 + 1)) (lv' := [(6, .int (nI (j27 + 1))), (2, .long (u44 0)), (4, .int (nI ((10 * j9) + j27))), (5, .int (nI j9)), (0, .ref h0), (1, .int what)]) hx hb dX11_swap_140 hl (k := 2) rfl (by rw [show Int32.ofInt 1 = nI 1 from by decide]; exact nI_add _ _) (by decide) rfl (fun ls hl => ?_)
                    refine lv_goto (tgt := 56) hx hb dX11_swap_143 rfl ?_
                    exact ih56_33 (j27 + 1) (by omega) (by omega) (by omega) (nI ((10 * j9) + j27)) (u44 0) (xch (xch g30 j9 j27) j9 j27) u44 u45 _ _ (by have t_b4 := b4; have t_hj17 := hj17; have t_n26 := n26; have t_hj35 := hj35; have t_hlo_j27 := hlo_j27; have t_n38 := n38; have t_c49 := lcm_ge_f c49; have t_c51 := lcm_ge_f c51; have tnb_ := nib7 tn2368_ tn2369_ tn2370_ tn2371_ tn2372_ tn2374_ tn2376_; have lz0 : (0 : Int32).toInt = 0 := qI_0; have lz1 : (1 : Int32).toInt = 1 := qI_1; have lz2 : (2 : Int32).toInt = 2 := qI_2; have lz3 : (3 : Int32).toInt = 3 := qI_3; have lz5 : (5 : Int32).toInt = 5 := qI_5; have lz9 : (9 : Int32).toInt = 9 := qI_9; have e9 : u44 0 = odR (fun jb => rhO (xch fst j9 j27) jb (qbF 0 jb)) (sdN (xch fst j9 j27)) (-4) N 0 := (by have e8 := w43 0 (by decide); rw [hinv.1.2] at e8; exact e8); refine ⟨⟨(by rw [xch_xch]; exact hinv.1.1), (by rw [xch_xch]; exact hinv.1.2)⟩, ?_⟩; rw [e9]; exact swK_lt (by omega) hinv.2 (by rw [← e9]; omega)) (hP.sub [2, 3, 0, 1] rfl) (hD.sub [2, 3, 0, 1] (by decide) rfl) hS ls (lv_sub hl [0, 3, 2, 1, 4, 5] rfl)
          exact loop56_33 (N + 1) (j9 + 1) (by omega) (by omega) (by omega) y10 y11 g12 g13 g14 _ _ ⟨hinv.1, (by rw [Nat.sub_self]; exact hinv.2)⟩ hP hD hS ls (lv_sub hl [0, 1, 2, 3, 4, 5] rfl)
    exact loop41_15 (N + 1) 0 (by omega) (by omega) (-4) (u7 0) fst u7 u8 _ _ ⟨⟨hst, rfl⟩, (by rw [show u7 0 = odR (fun jb => rhO fst jb (qbF 0 jb)) (sdN fst) (-4) N 0 from w6 0 (by decide)]; rfl)⟩ hP hD hS ls (lv_sub hl [0, 1, 2, 3, 4] rfl)
  · skip
    have b52 := if10_n c3
    refine lv_ldc2 (v := (-1)) hx hb hown (hg _ wt_1118) dX11_swap_12 ?_
    have hpost : ((-1) : Int64) = if (0 ≤ what.toInt ∧ what.toInt ≤ 2) then swA what N (swJ (fun ib kb => odR (fun jb => rhO (xch fst ib kb) jb (qbF 0 jb)) (sdN (xch fst ib kb)) (-4) N 0) N (odR (fun jb => rhO fst jb (qbF 0 jb)) (sdN fst) (-4) N 0, -4) N) else -1 := by
      have t_b52 := b52
      have t_n0 : (nI N).toInt = (N : Int) := tn2368_ ()
      have t_n1 : (nI B).toInt = (B : Int) := tn2369_ ()
      have t_n2 : (nI T).toInt = (T : Int) := tn2370_ ()
      have t_n3 : (nI S).toInt = (S : Int) := tn2371_ ()
      have t_n4 : (nI M).toInt = (M : Int) := tn2372_ ()
      have lz0 : (0 : Int32).toInt = 0 := qI_0
      have lz1 : (1 : Int32).toInt = 1 := qI_1
      have lz2 : (2 : Int32).toInt = 2 := qI_2
      have lz3 : (3 : Int32).toInt = 3 := qI_3
      have lz5 : (5 : Int32).toInt = 5 := qI_5
      have lz9 : (9 : Int32).toInt = 9 := qI_9
      rw [if_neg (by omega)]
    obtain ⟨hP9, hD9⟩ := va_sub2 (ws' := [(h0, .inr (11, [.ref st, .int (nI N), .int (nI B), .ref rp, .int vrs, .int vrb, .int vhs, .int vca, .int vxs, .int vxb, .ref tp, .int (nI T), .int vfa, .int vbr, .int vba, .int vsp, .int vhe, .int vtk, .int vva, .ref cu, .ref lt, .ref od, .ref th, .ref be, .ref ln, .int (nI S), .ref ma, .int (nI M), .ref ah, .ref bh, .ref ik, .ref la, .ref lg, .ref ce, .int vto])), (st, .inl (G 0, 196, .inl fst)), (od, .inl (G 1, 10, .inr (.inl fod))), (th, .inl (G 1, 10, .inr (.inl fth)))]) hP hD [0, 1, 2, 3] (by decide +kernel) rfl
    refine W.widen (k := 0) (n := 0) (Nat.le_of_ble_eq_true rfl) (Nat.le_of_ble_eq_true rfl) ?_
    exact W.lret (v := (-1)) hx hb hr (fun t ht hW => ⟨⟨(-1), (fst, fod, fth), rfl, ⟨hpost, ⟨hst, rfl⟩⟩, ⟨by rw [ht]; exact hP9, hD9⟩⟩, hS.F ht⟩) hS.2.2 dX11_swap_15

def nzS (x : Int32) (f : Nat → Int32) : Nat → Int32 := fun q => if ((x >>> (nI q &&& 31)) &&& 1) = 1 then 0 else f q
def quT (v : Nat → Int64) (bc : Nat → Int32) (m : Int32) (s : Nat) (p : Int64 × Nat) : Int64 × Nat := if (bc s).toInt ≤ m.toInt ∧ ((v s).toInt < p.1.toInt ∨ ((v s).toInt = p.1.toInt ∧ (bc s).toInt < (bc p.2).toInt)) then (v s, s) else p
def quF (v : Nat → Int64) (bc : Nat → Int32) (m : Int32) (x0 : Int64) : Nat → Int64 × Nat
  | 0 => (x0, 0)
  | n + 1 => quT v bc m (n + 1) (quF v bc m x0 n)
theorem qu_y {v : Nat → Int64} {bc : Nat → Int32} {m : Int32} {x0 x : Int64} {j k : Nat} (hj : 1 ≤ j) (h : (x, k) = quF v bc m x0 (j - 1)) (c1 : (bc j).toInt ≤ m.toInt) (c2 : (v j).toInt < x.toInt ∨ ((v j).toInt = x.toInt ∧ (bc j).toInt < (bc k).toInt)) : (v j, j) = quF v bc m x0 (j + 1 - 1) := by
  obtain ⟨n, rfl⟩ : ∃ n : Nat, j = n + 1 := ⟨j - 1, by omega⟩
  have h : (x, k) = quF v bc m x0 n := h
  show _ = quT v bc m (n + 1) (quF v bc m x0 n)
  rw [← h]
  unfold quT
  rw [if_pos ⟨c1, c2⟩]
theorem qu_n {v : Nat → Int64} {bc : Nat → Int32} {m : Int32} {x0 x : Int64} {j k : Nat} (hj : 1 ≤ j) (h : (x, k) = quF v bc m x0 (j - 1)) (c : ¬ ((bc j).toInt ≤ m.toInt ∧ ((v j).toInt < x.toInt ∨ ((v j).toInt = x.toInt ∧ (bc j).toInt < (bc k).toInt)))) : (x, k) = quF v bc m x0 (j + 1 - 1) := by
  obtain ⟨n, rfl⟩ : ∃ n : Nat, j = n + 1 := ⟨j - 1, by omega⟩
  have h : (x, k) = quF v bc m x0 n := h
  show _ = quT v bc m (n + 1) (quF v bc m x0 n)
  rw [← h]
  unfold quT
  rw [if_neg c]
def quI (v : Nat → Int64) (bc : Nat → Int32) (m : Int32) (j : Nat) (x : Int64) (k : Nat) : Prop := (j = 0 ∧ x = 4000000000000000000 ∧ k = 0) ∨ (1 ≤ j ∧ (x, k) = quF v bc m (v 0) (j - 1))
theorem quF_w {v : Nat → Int64} {bc : Nat → Int32} {m : Int32} {x0 : Int64} : ∀ n : Nat, (quF v bc m x0 n).2 ≤ n := by
  intro n
  induction n with
  | zero => exact Nat.le_refl 0
  | succ n ih =>
    show (quT v bc m (n + 1) (quF v bc m x0 n)).2 ≤ n + 1
    unfold quT
    split
    · exact Nat.le_refl _
    · omega
theorem quI.y {v : Nat → Int64} {bc : Nat → Int32} {m : Int32} {x : Int64} {j k : Nat} (h : quI v bc m j x k) (c1 : (bc j).toInt ≤ m.toInt) (c2 : (v j).toInt < x.toInt ∨ ((v j).toInt = x.toInt ∧ (bc j).toInt < (bc k).toInt)) : quI v bc m (j + 1) (v j) j := by
  rcases h with ⟨a, b, d⟩ | ⟨a, b⟩
  · subst a; exact Or.inr ⟨by omega, rfl⟩
  · exact Or.inr ⟨by omega, qu_y a b c1 c2⟩
theorem quI.n {v : Nat → Int64} {bc : Nat → Int32} {m : Int32} {x : Int64} {j k : Nat} (h : quI v bc m j x k) (hf : (v j).toInt < 4000000000000000000) (h0 : (bc 0).toInt ≤ m.toInt) (c : ¬ ((bc j).toInt ≤ m.toInt ∧ ((v j).toInt < x.toInt ∨ ((v j).toInt = x.toInt ∧ (bc j).toInt < (bc k).toInt)))) : quI v bc m (j + 1) x k := by
  rcases h with ⟨a, b, d⟩ | ⟨a, b⟩
  · have z : (4000000000000000000 : Int64).toInt = 4000000000000000000 := by decide
    subst a
    rw [b, z] at c
    exact absurd ⟨h0, Or.inl hf⟩ c
  · exact Or.inr ⟨by omega, qu_n a b c⟩
theorem quW {v : Nat → Int64} {bc : Nat → Int32} {m : Int32} {x0 x : Int64} {j k : Nat} (h : (x, k) = quF v bc m x0 (j - 1)) : k ≤ j := by
  have t := quF_w (v := v) (bc := bc) (m := m) (x0 := x0) (j - 1)
  rw [← h] at t
  have t : k ≤ j - 1 := t
  omega
theorem quI.w {v : Nat → Int64} {bc : Nat → Int32} {m : Int32} {x : Int64} {j k : Nat} (h : quI v bc m j x k) : k ≤ j := by
  rcases h with ⟨_, _, d⟩ | ⟨_, b⟩
  · omega
  · exact quW b

-- ways that lead into a depth
def inT (f r : Bool) (d : Nat) (x : Int32) (g : Nat → Int32) : Nat → Int32 := if f = true then (if r = true then upd (upd g (d - 1) (g (d - 1) + x)) (min 9 (d + 1)) (upd g (d - 1) (g (d - 1) + x) (min 9 (d + 1)) + x) else upd g (d - 1) (g (d - 1) + x)) else (if r = true then upd g (min 9 (d + 1)) (g (min 9 (d + 1)) + x) else g)
def inR (f r : Bool) (a : Nat → Int32) : Nat → Nat → Int32
  | 0 => fun q => if q = 0 then a 0 else 0
  | d + 1 => inT f r (d + 1) (a (d + 1)) (inR f r a d)
theorem up_cg {g g' : Nat → Int32} {k : Nat} {x : Int32} (hk : k < 10) (e : ∀ q : Nat, q < 10 → g q = g' q) : ∀ q : Nat, q < 10 → upd g k (g k + x) q = upd g' k (g' k + x) q := by
  intro q hq
  show (if q = k then g k + x else g q) = (if q = k then g' k + x else g' q)
  rw [e k hk, e q hq]
theorem inT_cg {f r : Bool} {d : Nat} {x : Int32} {g g' : Nat → Int32} (hd : d ≤ 9) (e : ∀ q : Nat, q < 10 → g q = g' q) : ∀ q : Nat, q < 10 → inT f r d x g q = inT f r d x g' q := by
  intro q hq
  unfold inT
  cases f with
  | true =>
    cases r with
    | true => exact up_cg (by omega) (up_cg (by omega) e) q hq
    | false => exact up_cg (by omega) e q hq
  | false =>
    cases r with
    | true => exact up_cg (by omega) e q hq
    | false => exact e q hq
theorem in_step {f r : Bool} {g a : Nat → Int32} {j : Nat} {g' : Nat → Int32} (hj : 1 ≤ j) (h1 : j < 10) (hg : ∀ q : Nat, q < 10 → g q = inR f r a (j - 1) q) (e : g' = inT f r j (a j) g) : ∀ q : Nat, q < 10 → g' q = inR f r a (j + 1 - 1) q := by
  intro q hq
  obtain ⟨d, rfl⟩ : ∃ d : Nat, j = d + 1 := ⟨j - 1, by omega⟩
  rw [e]
  exact inT_cg (by omega) hg q hq
theorem in_zero {f r : Bool} {g a : Nat → Int32} (hz : ∀ q : Nat, q < 10 → g q = 0) : ∀ q : Nat, q < 10 → upd g 0 (a 0) q = inR f r a (1 - 1) q := by
  intro q hq
  show (if q = 0 then a 0 else g q) = (if q = 0 then a 0 else 0)
  rw [hz q hq]
def inS (H : Nat → Int32) (AL : Nat → Nat → Bool) (D : Nat) : Nat → Nat → Int32
  | 0 => fun q => if q = D then 1 else 0
  | i + 1 => fun q => if AL i q = true then inR (decide (0 < (H i).toInt)) (decide ((H i).toInt < 20)) (inS H AL D i) 9 q else 0
-- ways that lead on
def onT (f r : Bool) (P : Nat → Int32) : Nat → Int32 := fun q => if q = 0 then P 0 else (if f = true then P (q - 1) else 0) + (if r = true then P (min 9 (q + 1)) else 0)
def onD (AL : Nat → Bool) (P : Nat → Int32) : Nat → Int32 := fun q => if AL q = true then P q else 0
/-- the row of what leads on from stretch N - n -/
def onS (H : Nat → Int32) (AL : Nat → Nat → Bool) (N : Nat) : Nat → Nat → Int32
  | 0 => fun _ => 1
  | n + 1 => onT (decide (0 < (H (N - (n + 1))).toInt)) (decide ((H (N - (n + 1))).toInt < 20)) (onD (AL (N - (n + 1))) (onS H AL N n))
theorem onT_cg {f r : Bool} {P P' : Nat → Int32} (e : ∀ q : Nat, q < 10 → P q = P' q) : ∀ q : Nat, q < 10 → onT f r P q = onT f r P' q := by
  intro q hq
  unfold onT
  rw [e 0 (by decide), e (q - 1) (by omega), e (min 9 (q + 1)) (by omega)]
theorem onD_cg {AL AL' : Nat → Bool} {P P' : Nat → Int32} (ea : ∀ q : Nat, q < 10 → AL q = AL' q) (e : ∀ q : Nat, q < 10 → P q = P' q) : ∀ q : Nat, q < 10 → onD AL P q = onD AL' P' q := by
  intro q hq
  unfold onD
  rw [ea q hq, e q hq]
theorem vu_y {α : Type} {F : Nat → α} {k : Nat} {v : α} : va_up F k v k = v := if_pos rfl
theorem vu_n {α : Type} {F : Nat → α} {k m : Nat} {v : α} (h : ¬ m = k) : va_up F k v m = F m := if_neg h
def DUm (AL : Nat → Bool) (k j : Nat) (G F : Nat → Nat → Int32) : Prop := (∀ q : Nat, q < j → G k q = onD AL (F k) q) ∧ (∀ q : Nat, j ≤ q → G k q = F k q) ∧ (∀ m : Nat, ¬ m = k → G m = F m)
theorem DUm.z {AL : Nat → Bool} {k : Nat} {F : Nat → Nat → Int32} : DUm AL k 0 F F := ⟨fun q h => absurd h (Nat.not_lt_zero q), fun _ _ => rfl, fun _ _ => rfl⟩
def LI0 (i j : Nat) (G F : Nat → Nat → Int32) : Prop := (∀ q : Nat, q < j → G (i + 1) q = 0) ∧ (∀ m : Nat, ¬ m = i + 1 → G m = F m)
theorem LI0.z {i : Nat} {F : Nat → Nat → Int32} : LI0 i 0 F F := ⟨fun q h => absurd h (Nat.not_lt_zero q), fun _ _ => rfl⟩
theorem LI0.s {i j : Nat} {G F : Nat → Nat → Int32} (h : LI0 i j G F) : LI0 i (j + 1) (va_up G (i + 1) (upd (G (i + 1)) j 0)) F := by
  refine ⟨fun q hq => ?_, fun m hm => by rw [vu_n hm]; exact h.2 m hm⟩
  rw [vu_y]
  show (if q = j then 0 else G (i + 1) q) = 0
  by_cases c : q = j
  · rw [if_pos c]
  · rw [if_neg c]; exact h.1 q (by omega)
def LI1 (f r : Bool) (i j : Nat) (G F : Nat → Nat → Int32) : Prop := (∀ q : Nat, q < 10 → G (i + 1) q = inR f r (F i) (j - 1) q) ∧ (∀ m : Nat, ¬ m = i + 1 → G m = F m)
theorem LI1.z {f r : Bool} {i : Nat} {G F : Nat → Nat → Int32} (h : LI0 i 10 G F) : LI1 f r i 1 (va_up G (i + 1) (upd (G (i + 1)) 0 (G i 0))) F := by
  refine ⟨fun q hq => ?_, fun m hm => by rw [vu_n hm]; exact h.2 m hm⟩
  rw [vu_y, h.2 i (by omega)]
  exact in_zero h.1 q hq
theorem LI1.s {f r : Bool} {i j : Nat} {G G' F : Nat → Nat → Int32} (h : LI1 f r i j G F) (hj : 1 ≤ j) (h1 : j < 10) (e1 : G' (i + 1) = inT f r j (G i j) (G (i + 1))) (e2 : ∀ m : Nat, ¬ m = i + 1 → G' m = G m) : LI1 f r i (j + 1) G' F := by
  refine ⟨?_, fun m hm => (e2 m hm).trans (h.2 m hm)⟩
  rw [h.2 i (by omega)] at e1
  exact in_step hj h1 h.1 e1
def LO (f r : Bool) (i j : Nat) (G E : Nat → Nat → Int32) : Prop := (∀ q : Nat, q < j → G i q = onT f r (E (i + 1)) q) ∧ (∀ m : Nat, ¬ m = i → G m = E m)
theorem LO.z {f r : Bool} {i : Nat} {E : Nat → Nat → Int32} : LO f r i 1 (va_up E i (upd (E i) 0 (E (i + 1) 0))) E := by
  refine ⟨fun q hq => ?_, fun m hm => by rw [vu_n hm]⟩
  rw [vu_y, show q = 0 by omega]
  rfl
theorem LO.s {f r : Bool} {i j : Nat} {G E : Nat → Nat → Int32} {x : Int32} (h : LO f r i j G E) (hx : x = onT f r (G (i + 1)) j) : LO f r i (j + 1) (va_up G i (upd (G i) j x)) E := by
  refine ⟨fun q hq => ?_, fun m hm => by rw [vu_n hm]; exact h.2 m hm⟩
  rw [vu_y]
  show (if q = j then x else G i q) = _
  by_cases c : q = j
  · rw [if_pos c, hx, c, h.2 (i + 1) (by omega)]
  · rw [if_neg c]; exact h.1 q (by omega)

def fl10 (i : Nat) (g : Nat → Int32) : Nat → Int32 := fun q => g (10 * i + 10 + q)
def rpF (AL : Nat → Bool) (f r : Bool) (a : Nat → Int32) : Nat → Nat → Int32
  | 0 => fun _ => 0
  | d + 1 => onD AL (inR f r a d)
def AHO (H : Nat → Int32) (AL : Nat → Nat → Bool) (D i : Nat) (g : Nat → Int32) : Prop := (∀ m : Nat, m ≤ i → ∀ q : Nat, q < 10 → g (10 * m + q) = inS H AL D m q) ∧ (∀ k : Nat, 10 * i + 10 ≤ k → k < 110 → g k = 0)
def AHI (H : Nat → Int32) (AL : Nat → Nat → Bool) (D i d : Nat) (g : Nat → Int32) : Prop := (∀ m : Nat, m ≤ i → ∀ q : Nat, q < 10 → g (10 * m + q) = inS H AL D m q) ∧ (∀ q : Nat, q < 10 → fl10 i g q = rpF (AL i) (decide (0 < (H i).toInt)) (decide ((H i).toInt < 20)) (inS H AL D i) d q) ∧ (∀ k : Nat, 10 * i + 20 ≤ k → k < 110 → g k = 0)
theorem AHI.z {H : Nat → Int32} {AL : Nat → Nat → Bool} {D i : Nat} {g : Nat → Int32} (hi : i < 10) (h : AHO H AL D i g) : AHI H AL D i 0 g := ⟨h.1, fun q hq => h.2 _ (by omega) (by omega), fun k h1 h2 => h.2 k (by omega) h2⟩
theorem AHI.o {H : Nat → Int32} {AL : Nat → Nat → Bool} {D i : Nat} {g : Nat → Int32} (h : AHI H AL D i 10 g) : AHO H AL D (i + 1) g := by
  refine ⟨fun m hm q hq => ?_, fun k h1 h2 => h.2.2 k (by omega) h2⟩
  by_cases c : m = i + 1
  · rw [c, show 10 * (i + 1) + q = 10 * i + 10 + q by omega]
    exact h.2.1 q hq
  · exact h.1 m (by omega) q hq
theorem AHI.s {H : Nat → Int32} {AL : Nat → Nat → Bool} {D i d : Nat} {g g' : Nat → Int32} (h : AHI H AL D i d g) (hi : i < 10) (e1 : ∀ k : Nat, ¬ (10 * i + 10 ≤ k ∧ k < 10 * i + 20) → g' k = g k) (e2 : ∀ q : Nat, q < 10 → fl10 i g' q = rpF (AL i) (decide (0 < (H i).toInt)) (decide ((H i).toInt < 20)) (inS H AL D i) (d + 1) q) : AHI H AL D i (d + 1) g' :=
  ⟨fun m hm q hq => (e1 _ (by omega)).trans (h.1 m hm q hq), e2, fun k h1 h2 => (e1 k (by omega)).trans (h.2.2 k h1 h2)⟩
-- what leads on
def BHO (H : Nat → Int32) (AL : Nat → Nat → Bool) (N j : Nat) (g : Nat → Int32) : Prop := ∀ m : Nat, j ≤ m → m ≤ N → ∀ q : Nat, q < 10 → g (10 * m + q) = onS H AL N (N - m) q
def BHI (H : Nat → Int32) (AL : Nat → Nat → Bool) (N i d : Nat) (g : Nat → Int32) : Prop := BHO H AL N (i + 1) g ∧ (∀ q : Nat, q < d → g (10 * i + q) = onS H AL N (N - i) q)
theorem BHI.s {H : Nat → Int32} {AL : Nat → Nat → Bool} {N i d : Nat} {g : Nat → Int32} {x : Int32} (h : BHI H AL N i d g) (hi : i + 1 ≤ N) (hd : d < 10) (hx : x = onT (decide (0 < (H i).toInt)) (decide ((H i).toInt < 20)) (onD (AL i) (fl10 i g)) d) : BHI H AL N i (d + 1) (upd g (10 * i + d) x) := by
  refine ⟨fun m h1 h2 q hq => (if_neg (by omega)).trans (h.1 m h1 h2 q hq), fun q hq => ?_⟩
  show (if 10 * i + q = 10 * i + d then x else g (10 * i + q)) = _
  by_cases c : q = d
  · rw [if_pos (by omega), hx, c, show N - i = (N - (i + 1)) + 1 by omega]
    show _ = onT (decide (0 < (H (N - (N - (i + 1) + 1))).toInt)) (decide ((H (N - (N - (i + 1) + 1))).toInt < 20)) (onD (AL (N - (N - (i + 1) + 1))) (onS H AL N (N - (i + 1)))) d
    rw [show N - (N - (i + 1) + 1) = i by omega]
    refine onT_cg (onD_cg (fun _ _ => rfl) (fun q hq => ?_)) d hd
    show g (10 * i + 10 + q) = _
    rw [show 10 * i + 10 + q = 10 * (i + 1) + q by omega]
    exact h.1 (i + 1) (Nat.le_refl _) hi q hq
  · rw [if_neg (by omega)]; exact h.2 q (by omega)
theorem BHI.o {H : Nat → Int32} {AL : Nat → Nat → Bool} {N i : Nat} {g : Nat → Int32} (h : BHI H AL N i 10 g) : BHO H AL N i g := by
  intro m h1 h2 q hq
  by_cases c : m = i
  · rw [c]; exact h.2 q hq
  · exact h.1 m (by omega) h2 q hq
theorem AHO.z {H : Nat → Int32} {AL : Nat → Nat → Bool} {D : Nat} {g : Nat → Int32} (hD : D ≤ 9) (h : ∀ q : Nat, q < 110 → g q = if q = D then 1 else 0) : AHO H AL D 0 g := by
  refine ⟨fun m hm q hq => ?_, fun k h1 h2 => ?_⟩
  · rw [show m = 0 by omega, show 10 * 0 + q = q by omega, h q (by omega)]
    rfl
  · rw [h k h2, if_neg (by omega)]
theorem BHO.z {H : Nat → Int32} {AL : Nat → Nat → Bool} {N : Nat} {g : Nat → Int32} (hN : N ≤ 10) (h : ∀ q : Nat, q < 110 → g q = if q / 10 = N then 1 else 0) : BHO H AL N N g := by
  intro m h1 h2 q hq
  rw [show m = N by omega, h _ (by omega), if_pos (by omega), Nat.sub_self]
  rfl
