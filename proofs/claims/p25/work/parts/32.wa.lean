set_option maxHeartbeats 4000000 in
set_option maxRecDepth 100000 in
theorem c_X6_takePairsE (l : Launch) (dC : Nat → ClassId) (dI : Nat → Nat → Nat) (G : Nat → ClassId) (sz : Nat) (h0 la si ce fi se k nn : Nat) (x8 x9 lane x1 : Int32) (fl fz f1 f2 : Nat → Int32) (rc : Nat → Nat) (F : Nat → Nat → Int32) (hk : k < 4) (hnn : nn ≤ 20) (hz : ∀ q : Nat, q < 4 → 0 ≤ (fz q).toInt ∧ (fz q).toInt ≤ 40) (hlne : ¬ lane = -1) : Met l yX6_takePairs (Cond.code yX6_takePairs cX6_takePairs 8 none :: GT) ({ frames := 1, cells := 0, slots := 0, locals := 23 } : Room) (PcW [.ref h0, .int (nI k), .int lane, .int x1, .int (nI nn)] dC dI G (([(h0, .inr (6, [.ref la, .ref si, .ref ce, .int x8, .int x9, .ref fi, .ref se])), (la, .inl (G 0, 4, .inl fl)), (si, .inl (G 0, 4, .inl fz)), (ce, .inl (G 4, 4, .inr (.inr (.inr (.inr (fun ir => if ir < 4 then some (rc ir) else none)))))), (fi, .inl (G 0, 20, .inl f1)), (se, .inl (G 0, 20, .inl f2))] : va_W) ++ ((((List.range 4).map (fun iq => (rc iq, .inl (G 0, 40, .inl (F iq))))) : va_W) ++ [])) sz) (va_Qv (fun (u : Int32 × Nat × (Nat → Int32) × (Nat → Int32)) => match u with | (u0, u1, u2, u3) => u1 = tpK (fl k) lane (fz k).toInt x1.toInt nn ∧ (∀ q9 : Nat, q9 < u1 → u2 q9 = F k (x1.toInt + 2 * (q9 : Int) + 0).toNat) ∧ (∀ q9 : Nat, q9 < u1 → u3 q9 = F k (x1.toInt + 2 * (q9 : Int) + 1).toNat) ∧ u1 ≤ 20) (fun (u : Int32 × Nat × (Nat → Int32) × (Nat → Int32)) (t : State) => match u with | (u0, u1, u2, u3) => va_P (dC, dI) vwCl (([(h0, .inr (6, [.ref la, .ref si, .ref ce, .int u0, .int (nI u1), .ref fi, .ref se])), (la, .inl (G 0, 4, .inl fl)), (si, .inl (G 0, 4, .inl fz)), (ce, .inl (G 4, 4, .inr (.inr (.inr (.inr (fun ir => if ir < 4 then some (rc ir) else none)))))), (fi, .inl (G 0, 20, .inl u2)), (se, .inl (G 0, 20, .inl u3))] : va_W) ++ ((((List.range 4).map (fun iq => (rc iq, .inl (G 0, 40, .inl (F iq))))) : va_W) ++ [])) t.heap ∧ va_D (va_A (([(h0, .inr (6, [.ref la, .ref si, .ref ce, .int x8, .int x9, .ref fi, .ref se])), (la, .inl (G 0, 4, .inl fl)), (si, .inl (G 0, 4, .inl fz)), (ce, .inl (G 4, 4, .inr (.inr (.inr (.inr (fun ir => if ir < 4 then some (rc ir) else none)))))), (fi, .inl (G 0, 20, .inl f1)), (se, .inl (G 0, 20, .inl f2))] : va_W) ++ ((((List.range 4).map (fun iq => (rc iq, .inl (G 0, 40, .inl (F iq))))) : va_W) ++ [])) sz) (([(h0, .inr (6, [.ref la, .ref si, .ref ce, .int u0, .int (nI u1), .ref fi, .ref se])), (la, .inl (G 0, 4, .inl fl)), (si, .inl (G 0, 4, .inl fz)), (ce, .inl (G 4, 4, .inr (.inr (.inr (.inr (fun ir => if ir < 4 then some (rc ir) else none)))))), (fi, .inl (G 0, 20, .inl u2)), (se, .inl (G 0, 20, .inl u3))] : va_W) ++ ((((List.range 4).map (fun iq => (rc iq, .inl (G 0, 40, .inl (F iq))))) : va_W) ++ []))) (va_A (([(h0, .inr (6, [.ref la, .ref si, .ref ce, .int x8, .int x9, .ref fi, .ref se])), (la, .inl (G 0, 4, .inl fl)), (si, .inl (G 0, 4, .inl fz)), (ce, .inl (G 4, 4, .inr (.inr (.inr (.inr (fun ir => if ir < 4 then some (rc ir) else none)))))), (fi, .inl (G 0, 20, .inl f1)), (se, .inl (G 0, 20, .inl f2))] : va_W) ++ ((((List.range 4).map (fun iq => (rc iq, .inl (G 0, 40, .inl (F iq))))) : va_W) ++ [])) sz)) 0 0 (va_A (([(h0, .inr (6, [.ref la, .ref si, .ref ce, .int x8, .int x9, .ref fi, .ref se])), (la, .inl (G 0, 4, .inl fl)), (si, .inl (G 0, 4, .inl fz)), (ce, .inl (G 4, 4, .inr (.inr (.inr (.inr (fun ir => if ir < 4 then some (rc ir) else none)))))), (fi, .inl (G 0, 20, .inl f1)), (se, .inl (G 0, 20, .inl f2))] : va_W) ++ ((((List.range 4).map (fun iq => (rc iq, .inl (G 0, 40, .inl (F iq))))) : va_W) ++ [])) sz) := by
  refine Met.ofW (cc := cX6_takePairs) (maxL := 8) (ret := none) (by decide) rfl ?_
  intro p e s m args below meth c s₁ Bd hml hv
  obtain ⟨rfl, hsz, hP, hK, hD0⟩ := hv
  have hx := Bd.exec
  have hb := Bd.bytes
  have hr := Bd.returns
  have hg : ∀ w ∈ GT, w.before ([.ref h0, .int (nI k), .int lane, .int x1, .int (nI nn)] : List Value).toArray s = true := fun w h => atoms_spec (ws := Cond.code yX6_takePairs cX6_takePairs 8 none :: GT) Bd.pre w (List.mem_cons_of_mem _ h)
  have hown : s.vm.findClass RX6 = some m.cls := findClass_of_methodNamed Bd.named
  have hlocks := Bd.notSynchronized
  subst hsz
  have hD := hD0.self (sz := s.heap.size)
  generalize hAe : va_A (([(h0, .inr (6, [.ref la, .ref si, .ref ce, .int x8, .int x9, .ref fi, .ref se])), (la, .inl (G 0, 4, .inl fl)), (si, .inl (G 0, 4, .inl fz)), (ce, .inl (G 4, 4, .inr (.inr (.inr (.inr (fun ir => if ir < 4 then some (rc ir) else none)))))), (fi, .inl (G 0, 20, .inl f1)), (se, .inl (G 0, 20, .inl f2))] : va_W) ++ ((((List.range 4).map (fun iq => (rc iq, .inl (G 0, 40, .inl (F iq))))) : va_W) ++ [])) s.heap.size = A at hD ⊢
  have hA : ∀ q : Nat, s.heap.size ≤ q → A q := fun q h => by rw [← hAe]; exact Or.inr h
  have hS : va_S A s.heap s.heap [] := va_S.rf
  have hl := lv_entry ([.ref h0, .int (nI k), .int lane, .int x1, .int (nI nn)]) (n := 8) (Nat.le_of_ble_eq_true rfl)
  rw [lg_entry_eq]
  generalize (lg_sl ([.ref h0, .int (nI k), .int lane, .int x1, .int (nI nn)]) ++ List.replicate (8 - (lg_sl ([.ref h0, .int (nI k), .int lane, .int x1, .int (nI nn)])).length) Slot.unset).toArray = ls at hl ⊢
  have hl : lv_has ls 8 [(0, .ref h0), (1, .int (nI k)), (2, .int lane), (3, .int x1), (4, .int (nI nn))] := hl
  have hzk := hz k hk
  refine lv_aload_n hx hb dX6_takePairs_0 rfl (lv_at hl 0 rfl) ?_
  refine lv_iconst (v := 0) hx hb dX6_takePairs_1 rfl ?_
  refine va_put (D := (dC, dI)) (ci := 6) (v := .int 0) (ty := .int) (C := RX6) (T := TX6) (N := 7) hx hb hg inG6 tyX6 tyX6_ok nmX6 hown hK.1 hP hD hS 0 rfl rfl 4 (Nat.le_of_ble_eq_true rfl) (hg _ wt_281) (fun _ h9 => h9) rfl (by decide +kernel) rfl rfl (Nat.le_of_ble_eq_true rfl) dX6_takePairs_2 (fun H locs hP hD hS => ?_)
  obtain ⟨hP, hD⟩ := va_rls (ws' := (([(h0, .inr (6, [.ref la, .ref si, .ref ce, .int x8, .int 0, .ref fi, .ref se])), (la, .inl (G 0, 4, .inl fl)), (si, .inl (G 0, 4, .inl fz)), (ce, .inl (G 4, 4, .inr (.inr (.inr (.inr (fun ir => if ir < 4 then some (rc ir) else none)))))), (fi, .inl (G 0, 20, .inl f1)), (se, .inl (G 0, 20, .inl f2))] : va_W) ++ ((((List.range 4).map (fun iq => (rc iq, .inl (G 0, 40, .inl (F iq))))) : va_W) ++ []))) hP hD rfl
  refine lv_aload_n hx hb dX6_takePairs_5 rfl (lv_at hl 0 rfl) ?_
  refine lv_aload_n hx hb dX6_takePairs_6 rfl (lv_at hl 0 rfl) ?_
  refine va_get (D := (dC, dI)) (ci := 6) (v := .ref la) (C := RX6) (T := TX6) (N := 7) hx hb hg inG6 hown hK.1 hP 0 rfl rfl 0 (Nat.le_of_ble_eq_true rfl) (hg _ wt_276) (fun _ h9 => h9) rfl dX6_takePairs_7 ?_
  refine lv_iload_n hx hb dX6_takePairs_10 rfl (lv_at hl 1 rfl) ?_
  have tn2071_ : nIT k := fun _ => nI_toInt (by omega)
  have tn2072_ : nIT nn := fun _ => nI_toInt (by omega)
  refine va_iald hx hb hK.1 hP 1 0 rfl rfl (vp_in_nI (by first | omega | (have tnb_ := nib2 tn2071_ tn2072_; omega)) (by decide)) dX6_takePairs_11 ?_
  refine lv_cg (y := fl k) (by rw [nI_clamp (by omega)]) ?_
  refine lv_iconst (v := (-1)) hx hb dX6_takePairs_12 rfl ?_
  refine lv_icmp_eq (tgt := 26) hx hb dX6_takePairs_13 rfl (fun c1 => ?_) (fun c1 => ?_)
  · skip
    refine lv_iconst (v := 0) hx hb dX6_takePairs_26 rfl ?_
    refine lv_goto (tgt := 31) hx hb dX6_takePairs_27 rfl ?_
    refine va_put (D := (dC, dI)) (ci := 6) (v := .int 0) (ty := .int) (C := RX6) (T := TX6) (N := 7) hx hb hg inG6 tyX6 tyX6_ok nmX6 hown hK.1 hP hD hS 0 rfl rfl 3 (Nat.le_of_ble_eq_true rfl) (hg _ wt_279) (fun _ h9 => h9) rfl (by decide +kernel) rfl rfl (Nat.le_of_ble_eq_true rfl) dX6_takePairs_31 (fun H locs hP hD hS => ?_)
    obtain ⟨hP, hD⟩ := va_rls (ws' := (([(h0, .inr (6, [.ref la, .ref si, .ref ce, .int 0, .int 0, .ref fi, .ref se])), (la, .inl (G 0, 4, .inl fl)), (si, .inl (G 0, 4, .inl fz)), (ce, .inl (G 4, 4, .inr (.inr (.inr (.inr (fun ir => if ir < 4 then some (rc ir) else none)))))), (fi, .inl (G 0, 20, .inl f1)), (se, .inl (G 0, 20, .inl f2))] : va_W) ++ ((((List.range 4).map (fun iq => (rc iq, .inl (G 0, 40, .inl (F iq))))) : va_W) ++ []))) hP hD rfl
    refine lv_iconst (v := 0) hx hb dX6_takePairs_34 rfl ?_
    refine lv_istore (lv' := [(5, .int 0), (0, .ref h0), (1, .int (nI k)), (2, .int lane), (3, .int x1), (4, .int (nI nn))]) hx hb dX6_takePairs_35 hl (by decide) rfl (fun ls hl => ?_)
    have loop37_8 : ∀ (nf j2 : Nat), 20 + 1 ≤ j2 + nf → j2 ≤ 20 → ∀ (y3 : Int32) (k5 : Nat) (g6 : Nat → Int32) (g7 : Nat → Int32) (H : Heap) (locs : List Loc), ((∀ q9 : Nat, q9 < k5 → g6 q9 = F k (x1.toInt + 2 * (q9 : Int) + 0).toNat) ∧ (∀ q9 : Nat, q9 < k5 → g7 q9 = F k (x1.toInt + 2 * (q9 : Int) + 1).toNat) ∧ ((y3 = 0 ∧ k5 = j2 ∧ (fl k = -1 → j2 = 0) ∧ (¬ fl k = -1 → fl k = lane) ∧ tpM (fz k).toInt x1.toInt (nn - j2) j2 = tpM (fz k).toInt x1.toInt nn 0) ∨ (¬ y3 = 0 ∧ k5 = tpK (fl k) lane (fz k).toInt x1.toInt nn)) ∧ k5 ≤ j2 ∧ j2 ≤ nn) → va_P (dC, dI) vwCl (([(h0, .inr (6, [.ref la, .ref si, .ref ce, .int y3, .int (nI k5), .ref fi, .ref se])), (la, .inl (G 0, 4, .inl fl)), (si, .inl (G 0, 4, .inl fz)), (ce, .inl (G 4, 4, .inr (.inr (.inr (.inr (fun ir => if ir < 4 then some (rc ir) else none)))))), (fi, .inl (G 0, 20, .inl g6)), (se, .inl (G 0, 20, .inl g7))] : va_W) ++ ((((List.range 4).map (fun iq => (rc iq, .inl (G 0, 40, .inl (F iq))))) : va_W) ++ [])) H → va_D A (([(h0, .inr (6, [.ref la, .ref si, .ref ce, .int y3, .int (nI k5), .ref fi, .ref se])), (la, .inl (G 0, 4, .inl fl)), (si, .inl (G 0, 4, .inl fz)), (ce, .inl (G 4, 4, .inr (.inr (.inr (.inr (fun ir => if ir < 4 then some (rc ir) else none)))))), (fi, .inl (G 0, 20, .inl g6)), (se, .inl (G 0, 20, .inl g7))] : va_W) ++ ((((List.range 4).map (fun iq => (rc iq, .inl (G 0, 40, .inl (F iq))))) : va_W) ++ [])) → va_S A s.heap H locs → ∀ (ls : Array Slot), lv_has ls 8 [(5, .int (nI j2)), (0, .ref h0), (1, .int (nI k)), (2, .int lane), (3, .int x1), (4, .int (nI nn))] → W p l e (headSpec (Cond.code yX6_takePairs cX6_takePairs 8 none :: GT) ({ frames := 1, cells := 0, slots := 0, locals := 23 } : Room)).room s m ([.ref h0, .int (nI k), .int lane, .int x1, .int (nI nn)] : List Value).toArray below meth c H locs 0 0 (MQ below (va_Qv (fun (u : Int32 × Nat × (Nat → Int32) × (Nat → Int32)) => match u with | (u0, u1, u2, u3) => u1 = tpK (fl k) lane (fz k).toInt x1.toInt nn ∧ (∀ q9 : Nat, q9 < u1 → u2 q9 = F k (x1.toInt + 2 * (q9 : Int) + 0).toNat) ∧ (∀ q9 : Nat, q9 < u1 → u3 q9 = F k (x1.toInt + 2 * (q9 : Int) + 1).toNat) ∧ u1 ≤ 20) (fun (u : Int32 × Nat × (Nat → Int32) × (Nat → Int32)) (t : State) => match u with | (u0, u1, u2, u3) => va_P (dC, dI) vwCl (([(h0, .inr (6, [.ref la, .ref si, .ref ce, .int u0, .int (nI u1), .ref fi, .ref se])), (la, .inl (G 0, 4, .inl fl)), (si, .inl (G 0, 4, .inl fz)), (ce, .inl (G 4, 4, .inr (.inr (.inr (.inr (fun ir => if ir < 4 then some (rc ir) else none)))))), (fi, .inl (G 0, 20, .inl u2)), (se, .inl (G 0, 20, .inl u3))] : va_W) ++ ((((List.range 4).map (fun iq => (rc iq, .inl (G 0, 40, .inl (F iq))))) : va_W) ++ [])) t.heap ∧ va_D A (([(h0, .inr (6, [.ref la, .ref si, .ref ce, .int u0, .int (nI u1), .ref fi, .ref se])), (la, .inl (G 0, 4, .inl fl)), (si, .inl (G 0, 4, .inl fz)), (ce, .inl (G 4, 4, .inr (.inr (.inr (.inr (fun ir => if ir < 4 then some (rc ir) else none)))))), (fi, .inl (G 0, 20, .inl u2)), (se, .inl (G 0, 20, .inl u3))] : va_W) ++ ((((List.range 4).map (fun iq => (rc iq, .inl (G 0, 40, .inl (F iq))))) : va_W) ++ []))) A) ([.ref h0, .int (nI k), .int lane, .int x1, .int (nI nn)] : List Value).toArray s 0 0 A) (F0 m 37 ls []) := by
      intro nf
      induction nf with
      | zero => intro j2 h1 h2; exact absurd h1 (by omega)
      | succ nf ih37_8 =>
        intro j2 hn9 hj10 y3 k5 g6 g7 H locs hinv hP hD hS ls hl
        refine lv_iload hx hb dX6_takePairs_37 (lv_at hl 0 rfl) ?_
        refine lv_iload hx hb dX6_takePairs_39 (lv_at hl 5 rfl) ?_
        refine lv_icmp_ge (tgt := 160) hx hb dX6_takePairs_41 rfl (fun c11 => ?_) (fun c11 => ?_)
        · skip
          have tn2073_ : nIT j2 := fun _ => nI_toInt (by first | omega | (have t := leI c11; omega))
          have n12 : nn ≤ j2 := by have t := leI c11; rw [show (nI (j2)).toInt = ((j2 : Nat) : Int) from tn2073_ ()] at t; rw [show (nI (nn)).toInt = ((nn : Nat) : Int) from tn2072_ ()] at t; omega
          obtain ⟨hP9, hD9⟩ := va_sub2 (ws' := (([(h0, .inr (6, [.ref la, .ref si, .ref ce, .int y3, .int (nI k5), .ref fi, .ref se])), (la, .inl (G 0, 4, .inl fl)), (si, .inl (G 0, 4, .inl fz)), (ce, .inl (G 4, 4, .inr (.inr (.inr (.inr (fun ir => if ir < 4 then some (rc ir) else none)))))), (fi, .inl (G 0, 20, .inl g6)), (se, .inl (G 0, 20, .inl g7))] : va_W) ++ ((((List.range 4).map (fun iq => (rc iq, .inl (G 0, 40, .inl (F iq))))) : va_W) ++ []))) hP hD [0, 1, 2, 3, 4, 5, 6, 7, 8, 9] (by decide +kernel) rfl
          refine W.widen (k := 0) (n := 0) (Nat.le_of_ble_eq_true rfl) (Nat.le_of_ble_eq_true rfl) ?_
          have tn2074_ : nIT k5 := fun _ => nI_toInt (by first | omega | (have t_c1 := eqI c1; have t_hj10 := hj10; have t_hinv := hinv.2.2.2; have t_n12 := n12; have : ((-1) : Int32).toInt = -1 := qI_m1; omega))
          exact W.vret hx hb hr (fun t ht hW => ⟨⟨(y3, k5, g6, g7), rfl, (by have t_c1 := eqI c1; have t_hj10 := hj10; have t_hinv := hinv.2.2.2; have t_n12 := n12; have : ((-1) : Int32).toInt = -1 := qI_m1; have tnb_ := nib4 tn2071_ tn2072_ tn2073_ tn2074_; have tqz_ := qz41_; have hk : _ = tpK (fl k) lane (fz k).toInt x1.toInt nn := (by rcases hinv.2.2.1 with g9 | g9; (exact tp_end g9.2.1 g9.2.2.1 g9.2.2.2.1 g9.2.2.2.2 hlne (by first | omega | (exfalso; exact absurd g9.1 (by first | with_reducible assumption | assumption)))); exact g9.2); exact ⟨hk, hinv.1, hinv.2.1, by omega⟩), ⟨by rw [ht]; exact hP9, hD9⟩⟩, hS.F ht⟩) hS.2.2 dX6_takePairs_160
        · skip
          have tn2075_ : nIT j2 := fun _ => nI_toInt (by first | omega | (have t := nleI c11; omega))
          have n13 : j2 < nn := by have t := nleI c11; rw [show (nI (j2)).toInt = ((j2 : Nat) : Int) from tn2075_ ()] at t; rw [show (nI (nn)).toInt = ((nn : Nat) : Int) from tn2072_ ()] at t; omega
          refine lv_iload hx hb dX6_takePairs_44 (lv_at hl 0 rfl) ?_
          refine lv_bipush (v := 20) hx hb dX6_takePairs_46 rfl ?_
          refine lv_icmp_ge (tgt := 160) hx hb dX6_takePairs_48 rfl (fun c14 => ?_) (fun c14 => ?_)
          · skip
            have t_c1 := eqI c1
            have t_hj10 := hj10
            have t_hinv := hinv.2.2.2
            have t_n13 := n13
            have t_c14 := leI c14
            have : ((-1) : Int32).toInt = -1 := qI_m1
            have : (20 : Int32).toInt = 20 := qI_20
            have t_n0 : (nI k).toInt = (k : Int) := tn2071_ ()
            have t_n1 : (nI nn).toInt = (nn : Int) := tn2072_ ()
            have t_n2 : (nI j2).toInt = (j2 : Int) := tn2075_ ()
            have tn2076_ : nIT k5 := fun _ => nI_toInt (by omega)
            have t_n3 : (nI k5).toInt = (k5 : Int) := tn2076_ ()
            exfalso; omega
          · skip
            have n15 : j2 < 20 := by have t := nleI c14; rw [show (nI (j2)).toInt = ((j2 : Nat) : Int) from tn2075_ ()] at t; have : (20 : Int32).toInt = 20 := qI_20; omega
            refine lv_aload_n hx hb dX6_takePairs_51 rfl (lv_at hl 1 rfl) ?_
            refine va_get (D := (dC, dI)) (ci := 6) (v := .int y3) (C := RX6) (T := TX6) (N := 7) hx hb hg inG6 hown hK.1 hP 0 rfl rfl 3 (Nat.le_of_ble_eq_true rfl) (hg _ wt_279) (fun _ h9 => h9) rfl dX6_takePairs_52 ?_
            refine lv_if_ne (tgt := 160) hx hb dX6_takePairs_55 rfl (fun c16 => ?_) (fun c16 => ?_)
            · skip
              obtain ⟨hP9, hD9⟩ := va_sub2 (ws' := (([(h0, .inr (6, [.ref la, .ref si, .ref ce, .int y3, .int (nI k5), .ref fi, .ref se])), (la, .inl (G 0, 4, .inl fl)), (si, .inl (G 0, 4, .inl fz)), (ce, .inl (G 4, 4, .inr (.inr (.inr (.inr (fun ir => if ir < 4 then some (rc ir) else none)))))), (fi, .inl (G 0, 20, .inl g6)), (se, .inl (G 0, 20, .inl g7))] : va_W) ++ ((((List.range 4).map (fun iq => (rc iq, .inl (G 0, 40, .inl (F iq))))) : va_W) ++ []))) hP hD [0, 1, 2, 3, 4, 5, 6, 7, 8, 9] (by decide +kernel) rfl
              refine W.widen (k := 0) (n := 0) (Nat.le_of_ble_eq_true rfl) (Nat.le_of_ble_eq_true rfl) ?_
              have tn2077_ : nIT k5 := fun _ => nI_toInt (by first | omega | (have t_c1 := eqI c1; have t_hj10 := hj10; have t_hinv := hinv.2.2.2; have t_n13 := n13; have t_n15 := n15; have t_c16 := neI c16; have tqz_ := qz0_; omega))
              exact W.vret hx hb hr (fun t ht hW => ⟨⟨(y3, k5, g6, g7), rfl, (by have t_c1 := eqI c1; have t_hj10 := hj10; have t_hinv := hinv.2.2.2; have t_n13 := n13; have t_n15 := n15; have t_c16 := neI c16; have tqz_ := qz0_; have tnb_ := nib4 tn2071_ tn2072_ tn2075_ tn2077_; have tqz_ := qz41_; have hk : _ = tpK (fl k) lane (fz k).toInt x1.toInt nn := (by rcases hinv.2.2.1 with g9 | g9; (exact tp_end g9.2.1 g9.2.2.1 g9.2.2.2.1 g9.2.2.2.2 hlne (by first | omega | (exfalso; exact absurd g9.1 (by first | with_reducible assumption | assumption)))); exact g9.2); exact ⟨hk, hinv.1, hinv.2.1, by omega⟩), ⟨by rw [ht]; exact hP9, hD9⟩⟩, hS.F ht⟩) hS.2.2 dX6_takePairs_160
            · skip
              refine lv_iload_n hx hb dX6_takePairs_58 rfl (lv_at hl 4 rfl) ?_
              refine lv_i2l (v := x1.toInt64) hx hb dX6_takePairs_59 rfl ?_
              refine lv_ldc2 (v := 2) hx hb hown (hg _ wt_855) dX6_takePairs_60 ?_
              refine lv_iload hx hb dX6_takePairs_63 (lv_at hl 0 rfl) ?_
              refine lv_i2l (v := (nI j2).toInt64) hx hb dX6_takePairs_65 rfl ?_
              refine lv_lmul hx hb dX6_takePairs_66 ?_
              refine lv_ladd hx hb dX6_takePairs_67 ?_
              refine lv_topl (fun v17 ev17 => ?_)
              refine lv_lstore (lv' := [(6, .long v17), (5, .int (nI j2)), (0, .ref h0), (1, .int (nI k)), (2, .int lane), (3, .int x1), (4, .int (nI nn))]) hx hb dX6_takePairs_68 hl (by decide) rfl (fun ls hl => ?_)
              refine lv_aload_n hx hb dX6_takePairs_70 rfl (lv_at hl 2 rfl) ?_
              refine lv_aload_n hx hb dX6_takePairs_71 rfl (lv_at hl 2 rfl) ?_
              refine lv_iload_n hx hb dX6_takePairs_72 rfl (lv_at hl 3 rfl) ?_
              refine lv_lload hx hb dX6_takePairs_73 (lv_at hl 0 rfl) ?_
              have hPc := hP.sub (ws' := [(h0, .inr (6, [.ref la, .ref si, .ref ce, .int y3, .int (nI k5), .ref fi, .ref se])), (la, .inl (G 0, 4, .inl fl)), (si, .inl (G 0, 4, .inl fz))]) [0, 1, 2] rfl
              have tn2078_ : nIT k5 := fun _ => nI_toInt (by first | omega | (have t_c1 := eqI c1; have t_hj10 := hj10; have t_hinv := hinv.2.2.2; have t_n13 := n13; have t_n15 := n15; have t_c16 := eqI c16; have tqz_ := qz0_; omega))
              refine va_calli (va_runV (As := [.int (nI k), .long v17]) (rest := [.ref h0]) ⟨hx, hb, hml, hown, hg⟩ (c_X6_faultAt l dC dI G _ h0 la si ce fi se k y3 (nI k5) v17 fl fz hk) (kwV hg mfX6_faultAt wt_846 ⟨Nat.le_of_ble_eq_true rfl, Nat.le_of_ble_eq_true rfl⟩) (preVR hK hPc (ci := 6) (r := (RX6, TX6, 7)) rfl rfl) rfl rfl hl.1 rfl (lv_room (Nat.le_of_ble_eq_true rfl)) dX6_takePairs_75 ⟨Nat.le_of_ble_eq_true rfl, Nat.le_of_ble_eq_true rfl⟩) hS (fun q h1 h2 => absurd h2 (Nat.not_le.mpr h1)) (fun q h => hA q (Nat.le_trans hS.1 h)) (fun r18 ur18 t H1 locs ht hvm w19 hB hz1 hk1 hS => ?_)
              have hP := keepR hP hk1
              obtain ⟨w19, w19x⟩ := w19
              refine va_put (D := (dC, dI)) (ci := 6) (v := .int r18) (ty := .int) (C := RX6) (T := TX6) (N := 7) hx hb hg inG6 tyX6 tyX6_ok nmX6 hown hK.1 hP hD hS 0 rfl rfl 3 (Nat.le_of_ble_eq_true rfl) (hg _ wt_279) (fun _ h9 => h9) rfl (by decide +kernel) rfl rfl (Nat.le_of_ble_eq_true rfl) dX6_takePairs_78 (fun H locs hP hD hS => ?_)
              obtain ⟨hP, hD⟩ := va_rls (ws' := (([(h0, .inr (6, [.ref la, .ref si, .ref ce, .int r18, .int (nI k5), .ref fi, .ref se])), (la, .inl (G 0, 4, .inl fl)), (si, .inl (G 0, 4, .inl fz)), (ce, .inl (G 4, 4, .inr (.inr (.inr (.inr (fun ir => if ir < 4 then some (rc ir) else none)))))), (fi, .inl (G 0, 20, .inl g6)), (se, .inl (G 0, 20, .inl g7))] : va_W) ++ ((((List.range 4).map (fun iq => (rc iq, .inl (G 0, 40, .inl (F iq))))) : va_W) ++ []))) hP hD rfl
              refine lv_aload_n hx hb dX6_takePairs_81 rfl (lv_at hl 2 rfl) ?_
              refine va_get (D := (dC, dI)) (ci := 6) (v := .int r18) (C := RX6) (T := TX6) (N := 7) hx hb hg inG6 hown hK.1 hP 0 rfl rfl 3 (Nat.le_of_ble_eq_true rfl) (hg _ wt_279) (fun _ h9 => h9) rfl dX6_takePairs_82 ?_
              refine lv_if_ne (tgt := 101) hx hb dX6_takePairs_85 rfl (fun c20 => ?_) (fun c20 => ?_)
              · skip
                refine lv_aload_n hx hb dX6_takePairs_101 rfl (lv_at hl 2 rfl) ?_
                refine va_get (D := (dC, dI)) (ci := 6) (v := .int r18) (C := RX6) (T := TX6) (N := 7) hx hb hg inG6 hown hK.1 hP 0 rfl rfl 3 (Nat.le_of_ble_eq_true rfl) (hg _ wt_279) (fun _ h9 => h9) rfl dX6_takePairs_102 ?_
                refine lv_if_ne (tgt := 154) hx hb dX6_takePairs_105 rfl (fun c21 => ?_) (fun c21 => ?_)
                · skip
                  refine lv_iinc (v := nI (j2 + 1)) (lv' := [(5, .int (nI (j2 + 1))), (6, .long v17), (0, .ref h0), (1, .int (nI k)), (2, .int lane), (3, .int x1), (4, .int (nI nn))]) hx hb dX6_takePairs_154 hl (k := 1) rfl (by rw [show Int32.ofInt 1 = nI 1 from by decide]; exact nI_add _ _) (by decide) rfl (fun ls hl => ?_)
                  refine lv_goto (tgt := 37) hx hb dX6_takePairs_157 rfl ?_
                  exact ih37_8 (j2 + 1) (by omega) (by omega) r18 k5 g6 g7 _ _ ⟨hinv.1, hinv.2.1, Or.inr ⟨by assumption, (by have ea : v17.toInt = x1.toInt + 2 * (j2 : Int) := (by rw [ev17]; exact at64 x1 (by (have t_c1 := eqI c1; have t_hj10 := hj10; have t_hinv := hinv.2.2.2; have t_n13 := n13; have t_n15 := n15; have t_c16 := eqI c16; have t_c20 := neI c20; have t_c21 := neI c21; have tqz_ := qz0_; have tnb_ := nib4 tn2071_ tn2072_ tn2075_ tn2078_; have tqz_ := qz41_; omega))); have eb : (v17 + 1).toInt = v17.toInt + 1 := l1_e (by have := x1.toInt_lt; have := x1.le_toInt; (have t_c1 := eqI c1; have t_hj10 := hj10; have t_hinv := hinv.2.2.2; have t_n13 := n13; have t_n15 := n15; have t_c16 := eqI c16; have t_c20 := neI c20; have t_c21 := neI c21; have tqz_ := qz0_; have tnb_ := nib4 tn2071_ tn2072_ tn2075_ tn2078_; have tqz_ := qz41_; omega)) (by have := x1.toInt_lt; have := x1.le_toInt; (have t_c1 := eqI c1; have t_hj10 := hj10; have t_hinv := hinv.2.2.2; have t_n13 := n13; have t_n15 := n15; have t_c16 := eqI c16; have t_c20 := neI c20; have t_c21 := neI c21; have tqz_ := qz0_; have tnb_ := nib4 tn2071_ tn2072_ tn2075_ tn2078_; have tqz_ := qz41_; omega)); have g9 := (hinv.2.2.1.resolve_right (fun h9 => h9.1 (by first | with_reducible assumption | assumption))); exact tp_stop g9.2.1 g9.2.2.1 g9.2.2.2.1 g9.2.2.2.2 hlne (fa1 w19 (by first | with_reducible assumption | assumption) (by (have t_c1 := eqI c1; have t_hj10 := hj10; have t_hinv := hinv.2.2.2; have t_n13 := n13; have t_n15 := n15; have t_c16 := eqI c16; have t_c20 := neI c20; have t_c21 := neI c21; have tqz_ := qz0_; have tnb_ := nib4 tn2071_ tn2072_ tn2075_ tn2078_; have tqz_ := qz41_; omega))))⟩, (by have t_c1 := eqI c1; have t_hj10 := hj10; have t_hinv := hinv.2.2.2; have t_n13 := n13; have t_n15 := n15; have t_c16 := eqI c16; have t_c20 := neI c20; have t_c21 := neI c21; have tqz_ := qz0_; have tnb_ := nib4 tn2071_ tn2072_ tn2075_ tn2078_; have tqz_ := qz41_; omega), (by have t_c1 := eqI c1; have t_hj10 := hj10; have t_hinv := hinv.2.2.2; have t_n13 := n13; have t_n15 := n15; have t_c16 := eqI c16; have t_c20 := neI c20; have t_c21 := neI c21; have tqz_ := qz0_; have tnb_ := nib4 tn2071_ tn2072_ tn2075_ tn2078_; have tqz_ := qz41_; omega)⟩ hP hD hS ls (lv_sub hl [0, 2, 3, 4, 5, 6] rfl)
                · skip
                  have t_c1 := eqI c1
                  have t_hj10 := hj10
                  have t_hinv := hinv.2.2.2
                  have t_n13 := n13
                  have t_n15 := n15
                  have t_c16 := eqI c16
                  have t_c20 := neI c20
                  have t_c21 := eqI c21
                  have : ((-1) : Int32).toInt = -1 := qI_m1
                  have : (0 : Int32).toInt = 0 := qI_0
                  have t_n0 : (nI k).toInt = (k : Int) := tn2071_ ()
                  have t_n1 : (nI nn).toInt = (nn : Int) := tn2072_ ()
                  have t_n2 : (nI j2).toInt = (j2 : Int) := tn2075_ ()
                  have t_n3 : (nI k5).toInt = (k5 : Int) := tn2078_ ()
                  exfalso; omega
              · skip
                have b22 := fz0 w19 c20
                refine lv_aload_n hx hb dX6_takePairs_88 rfl (lv_at hl 2 rfl) ?_
                refine lv_aload_n hx hb dX6_takePairs_89 rfl (lv_at hl 2 rfl) ?_
                refine lv_iload_n hx hb dX6_takePairs_90 rfl (lv_at hl 3 rfl) ?_
                refine lv_lload hx hb dX6_takePairs_91 (lv_at hl 0 rfl) ?_
                refine lv_lconst (v := 1) hx hb dX6_takePairs_93 (by decide) ?_
                refine lv_ladd hx hb dX6_takePairs_94 ?_
                have hPc := hP.sub (ws' := [(h0, .inr (6, [.ref la, .ref si, .ref ce, .int r18, .int (nI k5), .ref fi, .ref se])), (la, .inl (G 0, 4, .inl fl)), (si, .inl (G 0, 4, .inl fz))]) [0, 1, 2] rfl
                refine va_calli (va_runV (As := [.int (nI k), .long (v17 + 1)]) (rest := [.ref h0]) ⟨hx, hb, hml, hown, hg⟩ (c_X6_faultAt l dC dI G _ h0 la si ce fi se k r18 (nI k5) (v17 + 1) fl fz hk) (kwV hg mfX6_faultAt wt_846 ⟨Nat.le_of_ble_eq_true rfl, Nat.le_of_ble_eq_true rfl⟩) (preVR hK hPc (ci := 6) (r := (RX6, TX6, 7)) rfl rfl) rfl rfl hl.1 rfl (lv_room (Nat.le_of_ble_eq_true rfl)) dX6_takePairs_95 ⟨Nat.le_of_ble_eq_true rfl, Nat.le_of_ble_eq_true rfl⟩) hS (fun q h1 h2 => absurd h2 (Nat.not_le.mpr h1)) (fun q h => hA q (Nat.le_trans hS.1 h)) (fun r23 ur23 t H1 locs ht hvm w24 hB hz1 hk1 hS => ?_)
                have hP := keepR hP hk1
                obtain ⟨w24, w24x⟩ := w24
                refine va_put (D := (dC, dI)) (ci := 6) (v := .int r23) (ty := .int) (C := RX6) (T := TX6) (N := 7) hx hb hg inG6 tyX6 tyX6_ok nmX6 hown hK.1 hP hD hS 0 rfl rfl 3 (Nat.le_of_ble_eq_true rfl) (hg _ wt_279) (fun _ h9 => h9) rfl (by decide +kernel) rfl rfl (Nat.le_of_ble_eq_true rfl) dX6_takePairs_98 (fun H locs hP hD hS => ?_)
                obtain ⟨hP, hD⟩ := va_rls (ws' := (([(h0, .inr (6, [.ref la, .ref si, .ref ce, .int r23, .int (nI k5), .ref fi, .ref se])), (la, .inl (G 0, 4, .inl fl)), (si, .inl (G 0, 4, .inl fz)), (ce, .inl (G 4, 4, .inr (.inr (.inr (.inr (fun ir => if ir < 4 then some (rc ir) else none)))))), (fi, .inl (G 0, 20, .inl g6)), (se, .inl (G 0, 20, .inl g7))] : va_W) ++ ((((List.range 4).map (fun iq => (rc iq, .inl (G 0, 40, .inl (F iq))))) : va_W) ++ []))) hP hD rfl
                refine lv_aload_n hx hb dX6_takePairs_101 rfl (lv_at hl 2 rfl) ?_
                refine va_get (D := (dC, dI)) (ci := 6) (v := .int r23) (C := RX6) (T := TX6) (N := 7) hx hb hg inG6 hown hK.1 hP 0 rfl rfl 3 (Nat.le_of_ble_eq_true rfl) (hg _ wt_279) (fun _ h9 => h9) rfl dX6_takePairs_102 ?_
                refine lv_if_ne (tgt := 154) hx hb dX6_takePairs_105 rfl (fun c25 => ?_) (fun c25 => ?_)
                · skip
                  refine lv_iinc (v := nI (j2 + 1)) (lv' := [(5, .int (nI (j2 + 1))), (6, .long v17), (0, .ref h0), (1, .int (nI k)), (2, .int lane), (3, .int x1), (4, .int (nI nn))]) hx hb dX6_takePairs_154 hl (k := 1) rfl (by rw [show Int32.ofInt 1 = nI 1 from by decide]; exact nI_add _ _) (by decide) rfl (fun ls hl => ?_)
                  refine lv_goto (tgt := 37) hx hb dX6_takePairs_157 rfl ?_
                  exact ih37_8 (j2 + 1) (by omega) (by omega) r23 k5 g6 g7 _ _ ⟨hinv.1, hinv.2.1, Or.inr ⟨by assumption, (by have ea : v17.toInt = x1.toInt + 2 * (j2 : Int) := (by rw [ev17]; exact at64 x1 (by (have t_c1 := eqI c1; have t_hj10 := hj10; have t_hinv := hinv.2.2.2; have t_n13 := n13; have t_n15 := n15; have t_c16 := eqI c16; have t_b22 := b22; have t_c25 := neI c25; have tqz_ := qz0_; have tnb_ := nib4 tn2071_ tn2072_ tn2075_ tn2078_; have tqz_ := qz41_; omega))); have eb : (v17 + 1).toInt = v17.toInt + 1 := l1_e (by have := x1.toInt_lt; have := x1.le_toInt; (have t_c1 := eqI c1; have t_hj10 := hj10; have t_hinv := hinv.2.2.2; have t_n13 := n13; have t_n15 := n15; have t_c16 := eqI c16; have t_b22 := b22; have t_c25 := neI c25; have tqz_ := qz0_; have tnb_ := nib4 tn2071_ tn2072_ tn2075_ tn2078_; have tqz_ := qz41_; omega)) (by have := x1.toInt_lt; have := x1.le_toInt; (have t_c1 := eqI c1; have t_hj10 := hj10; have t_hinv := hinv.2.2.2; have t_n13 := n13; have t_n15 := n15; have t_c16 := eqI c16; have t_b22 := b22; have t_c25 := neI c25; have tqz_ := qz0_; have tnb_ := nib4 tn2071_ tn2072_ tn2075_ tn2078_; have tqz_ := qz41_; omega)); have g9 := (hinv.2.2.1.resolve_right (fun h9 => h9.1 (by first | with_reducible assumption | assumption))); exact tp_stop g9.2.1 g9.2.2.1 g9.2.2.2.1 g9.2.2.2.2 hlne (fa1 w24 (by first | with_reducible assumption | assumption) (by (have t_c1 := eqI c1; have t_hj10 := hj10; have t_hinv := hinv.2.2.2; have t_n13 := n13; have t_n15 := n15; have t_c16 := eqI c16; have t_b22 := b22; have t_c25 := neI c25; have tqz_ := qz0_; have tnb_ := nib4 tn2071_ tn2072_ tn2075_ tn2078_; have tqz_ := qz41_; omega))))⟩, (by have t_c1 := eqI c1; have t_hj10 := hj10; have t_hinv := hinv.2.2.2; have t_n13 := n13; have t_n15 := n15; have t_c16 := eqI c16; have t_b22 := b22; have t_c25 := neI c25; have tqz_ := qz0_; have tnb_ := nib4 tn2071_ tn2072_ tn2075_ tn2078_; have tqz_ := qz41_; omega), (by have t_c1 := eqI c1; have t_hj10 := hj10; have t_hinv := hinv.2.2.2; have t_n13 := n13; have t_n15 := n15; have t_c16 := eqI c16; have t_b22 := b22; have t_c25 := neI c25; have tqz_ := qz0_; have tnb_ := nib4 tn2071_ tn2072_ tn2075_ tn2078_; have tqz_ := qz41_; omega)⟩ hP hD hS ls (lv_sub hl [0, 2, 3, 4, 5, 6] rfl)
                · skip
                  have b26 := fz0 w24 c25
                  refine lv_aload_n hx hb dX6_takePairs_108 rfl (lv_at hl 2 rfl) ?_
                  refine va_get (D := (dC, dI)) (ci := 6) (v := .ref fi) (C := RX6) (T := TX6) (N := 7) hx hb hg inG6 hown hK.1 hP 0 rfl rfl 5 (Nat.le_of_ble_eq_true rfl) (hg _ wt_283) (fun _ h9 => h9) rfl dX6_takePairs_109 ?_
                  refine lv_iload hx hb dX6_takePairs_112 (lv_at hl 1 rfl) ?_
                  refine lv_aload_n hx hb dX6_takePairs_114 rfl (lv_at hl 2 rfl) ?_
                  refine va_get (D := (dC, dI)) (ci := 6) (v := .ref ce) (C := RX6) (T := TX6) (N := 7) hx hb hg inG6 hown hK.1 hP 0 rfl rfl 2 (Nat.le_of_ble_eq_true rfl) (hg _ wt_278) (fun _ h9 => h9) rfl dX6_takePairs_115 ?_
                  refine lv_iload_n hx hb dX6_takePairs_118 rfl (lv_at hl 3 rfl) ?_
                  refine va_aldA hx hb hK.1 hP 3 4 rfl rfl (vp_in_nI (by first | omega | (have t_c1 := eqI c1; have t_hj10 := hj10; have t_hinv := hinv.2.2.2; have t_n13 := n13; have t_n15 := n15; have t_c16 := eqI c16; have t_b22 := b22; have t_b26 := b26; have tqz_ := qz0_; have tnb_ := nib4 tn2071_ tn2072_ tn2075_ tn2078_; omega)) (by decide)) dX6_takePairs_119 ?_
                  refine lv_cgv (y := .ref (rc k)) (rowref (by first | omega | (have t_c1 := eqI c1; have t_hj10 := hj10; have t_hinv := hinv.2.2.2; have t_n13 := n13; have t_n15 := n15; have t_c16 := eqI c16; have t_b22 := b22; have t_b26 := b26; have tqz_ := qz0_; have tnb_ := nib4 tn2071_ tn2072_ tn2075_ tn2078_; omega)) (by decide)) ?_
                  refine lv_lload hx hb dX6_takePairs_120 (lv_at hl 0 rfl) ?_
                  refine lv_l2i (v := _) hx hb dX6_takePairs_122 rfl ?_
                  refine lv_topi (fun v27 ev27 => ?_)
                  have hz28 := l2i_in (x := v17) (by have t_c1 := eqI c1; have t_hj10 := hj10; have t_hinv := hinv.2.2.2; have t_n13 := n13; have t_n15 := n15; have t_c16 := eqI c16; have t_b22 := b22; have t_b26 := b26; have tqz_ := qz0_; have tnb_ := nib4 tn2071_ tn2072_ tn2075_ tn2078_; omega) (by have t_c1 := eqI c1; have t_hj10 := hj10; have t_hinv := hinv.2.2.2; have t_n13 := n13; have t_n15 := n15; have t_c16 := eqI c16; have t_b22 := b22; have t_b26 := b26; have tqz_ := qz0_; have tnb_ := nib4 tn2071_ tn2072_ tn2075_ tn2078_; omega)
                  rw [← ev27] at hz28
                  refine va_iald hx hb hK.1 (blk_P (j := k) hP (by first | omega | (have t_c1 := eqI c1; have t_hj10 := hj10; have t_hinv := hinv.2.2.2; have t_n13 := n13; have t_n15 := n15; have t_c16 := eqI c16; have t_b22 := b22; have t_b26 := b26; have t_hz28 := hz28; have tqz_ := qz0_; have tnb_ := nib4 tn2071_ tn2072_ tn2075_ tn2078_; omega))) 0 0 rfl rfl (vp_in_iff.mpr (by have t_c1 := eqI c1; have t_hj10 := hj10; have t_hinv := hinv.2.2.2; have t_n13 := n13; have t_n15 := n15; have t_c16 := eqI c16; have t_b22 := b22; have t_b26 := b26; have t_hz28 := hz28; have tqz_ := qz0_; have tnb_ := nib4 tn2071_ tn2072_ tn2075_ tn2078_; constructor <;> omega)) dX6_takePairs_123 ?_
                  refine va_iast hx hb hK.1 hP hD hS 4 0 rfl rfl (vp_in_nI (by first | omega | (have t_c1 := eqI c1; have t_hj10 := hj10; have t_hinv := hinv.2.2.2; have t_n13 := n13; have t_n15 := n15; have t_c16 := eqI c16; have t_b22 := b22; have t_b26 := b26; have t_hz28 := hz28; have tqz_ := qz0_; have tnb_ := nib4 tn2071_ tn2072_ tn2075_ tn2078_; omega)) (by decide)) dX6_takePairs_124 (fun H locs hP hD hS => ?_)
                  rw [nI_clamp (by omega)] at hP hD
                  obtain ⟨hP, hD⟩ := va_rls (ws' := (([(h0, .inr (6, [.ref la, .ref si, .ref ce, .int r23, .int (nI k5), .ref fi, .ref se])), (la, .inl (G 0, 4, .inl fl)), (si, .inl (G 0, 4, .inl fz)), (ce, .inl (G 4, 4, .inr (.inr (.inr (.inr (fun ir => if ir < 4 then some (rc ir) else none)))))), (fi, .inl (G 0, 20, .inl (upd g6 j2 (F k v27.toNatClampNeg)))), (se, .inl (G 0, 20, .inl g7))] : va_W) ++ ((((List.range 4).map (fun iq => (rc iq, .inl (G 0, 40, .inl (F iq))))) : va_W) ++ []))) hP hD rfl
                  refine lv_aload_n hx hb dX6_takePairs_125 rfl (lv_at hl 2 rfl) ?_
                  refine va_get (D := (dC, dI)) (ci := 6) (v := .ref se) (C := RX6) (T := TX6) (N := 7) hx hb hg inG6 hown hK.1 hP 0 rfl rfl 6 (Nat.le_of_ble_eq_true rfl) (hg _ wt_285) (fun _ h9 => h9) rfl dX6_takePairs_126 ?_
                  refine lv_iload hx hb dX6_takePairs_129 (lv_at hl 1 rfl) ?_
                  refine lv_aload_n hx hb dX6_takePairs_131 rfl (lv_at hl 2 rfl) ?_
                  refine va_get (D := (dC, dI)) (ci := 6) (v := .ref ce) (C := RX6) (T := TX6) (N := 7) hx hb hg inG6 hown hK.1 hP 0 rfl rfl 2 (Nat.le_of_ble_eq_true rfl) (hg _ wt_278) (fun _ h9 => h9) rfl dX6_takePairs_132 ?_
                  refine lv_iload_n hx hb dX6_takePairs_135 rfl (lv_at hl 3 rfl) ?_
                  refine va_aldA hx hb hK.1 hP 3 4 rfl rfl (vp_in_nI (by first | omega | (have t_c1 := eqI c1; have t_hj10 := hj10; have t_hinv := hinv.2.2.2; have t_n13 := n13; have t_n15 := n15; have t_c16 := eqI c16; have t_b22 := b22; have t_b26 := b26; have t_hz28 := hz28; have tqz_ := qz0_; have tnb_ := nib4 tn2071_ tn2072_ tn2075_ tn2078_; omega)) (by decide)) dX6_takePairs_136 ?_
                  refine lv_cgv (y := .ref (rc k)) (rowref (by first | omega | (have t_c1 := eqI c1; have t_hj10 := hj10; have t_hinv := hinv.2.2.2; have t_n13 := n13; have t_n15 := n15; have t_c16 := eqI c16; have t_b22 := b22; have t_b26 := b26; have t_hz28 := hz28; have tqz_ := qz0_; have tnb_ := nib4 tn2071_ tn2072_ tn2075_ tn2078_; omega)) (by decide)) ?_
                  refine lv_lload hx hb dX6_takePairs_137 (lv_at hl 0 rfl) ?_
                  refine lv_l2i (v := _) hx hb dX6_takePairs_139 rfl ?_
                  refine lv_topi (fun v29 ev29 => ?_)
                  have hz30 := l2i_in (x := v17) (by have t_c1 := eqI c1; have t_hj10 := hj10; have t_hinv := hinv.2.2.2; have t_n13 := n13; have t_n15 := n15; have t_c16 := eqI c16; have t_b22 := b22; have t_b26 := b26; have t_hz28 := hz28; have tqz_ := qz0_; have tnb_ := nib4 tn2071_ tn2072_ tn2075_ tn2078_; omega) (by have t_c1 := eqI c1; have t_hj10 := hj10; have t_hinv := hinv.2.2.2; have t_n13 := n13; have t_n15 := n15; have t_c16 := eqI c16; have t_b22 := b22; have t_b26 := b26; have t_hz28 := hz28; have tqz_ := qz0_; have tnb_ := nib4 tn2071_ tn2072_ tn2075_ tn2078_; omega)
                  rw [← ev29] at hz30
                  refine lv_iconst (v := 1) hx hb dX6_takePairs_140 rfl ?_
                  refine lv_iadd hx hb dX6_takePairs_141 ?_
                  have hi31 : (v29 + 1).toInt = v29.toInt + 1 := i1_in (by have t_c1 := eqI c1; have t_hj10 := hj10; have t_hinv := hinv.2.2.2; have t_n13 := n13; have t_n15 := n15; have t_c16 := eqI c16; have t_b22 := b22; have t_b26 := b26; have t_hz28 := hz28; have t_hz30 := hz30; have tqz_ := qz0_; have tnb_ := nib4 tn2071_ tn2072_ tn2075_ tn2078_; omega) (by have t_c1 := eqI c1; have t_hj10 := hj10; have t_hinv := hinv.2.2.2; have t_n13 := n13; have t_n15 := n15; have t_c16 := eqI c16; have t_b22 := b22; have t_b26 := b26; have t_hz28 := hz28; have t_hz30 := hz30; have tqz_ := qz0_; have tnb_ := nib4 tn2071_ tn2072_ tn2075_ tn2078_; omega)
                  have hl32 := l1_in (x := v17) (by have t_c1 := eqI c1; have t_hj10 := hj10; have t_hinv := hinv.2.2.2; have t_n13 := n13; have t_n15 := n15; have t_c16 := eqI c16; have t_b22 := b22; have t_b26 := b26; have t_hz28 := hz28; have t_hz30 := hz30; have tqz_ := qz0_; have tnb_ := nib4 tn2071_ tn2072_ tn2075_ tn2078_; omega) (by have t_c1 := eqI c1; have t_hj10 := hj10; have t_hinv := hinv.2.2.2; have t_n13 := n13; have t_n15 := n15; have t_c16 := eqI c16; have t_b22 := b22; have t_b26 := b26; have t_hz28 := hz28; have t_hz30 := hz30; have tqz_ := qz0_; have tnb_ := nib4 tn2071_ tn2072_ tn2075_ tn2078_; omega) (show (v17 + 1).toInt < (fz k).toInt by have t_c1 := eqI c1; have t_hj10 := hj10; have t_hinv := hinv.2.2.2; have t_n13 := n13; have t_n15 := n15; have t_c16 := eqI c16; have t_b22 := b22; have t_b26 := b26; have t_hz28 := hz28; have t_hz30 := hz30; have tqz_ := qz0_; have tnb_ := nib4 tn2071_ tn2072_ tn2075_ tn2078_; omega)
                  refine va_iald hx hb hK.1 (blk_P (j := k) hP (by first | omega | (have t_c1 := eqI c1; have t_hj10 := hj10; have t_hinv := hinv.2.2.2; have t_n13 := n13; have t_n15 := n15; have t_c16 := eqI c16; have t_b22 := b22; have t_b26 := b26; have t_hz28 := hz28; have t_hz30 := hz30; have t_hi31 := hi31; have t_hl32 := hl32; have tqz_ := qz0_; have tnb_ := nib4 tn2071_ tn2072_ tn2075_ tn2078_; omega))) 0 0 rfl rfl (vp_in_iff.mpr (by have t_c1 := eqI c1; have t_hj10 := hj10; have t_hinv := hinv.2.2.2; have t_n13 := n13; have t_n15 := n15; have t_c16 := eqI c16; have t_b22 := b22; have t_b26 := b26; have t_hz28 := hz28; have t_hz30 := hz30; have t_hi31 := hi31; have t_hl32 := hl32; have tqz_ := qz0_; have tnb_ := nib4 tn2071_ tn2072_ tn2075_ tn2078_; constructor <;> omega)) dX6_takePairs_142 ?_
                  refine va_iast hx hb hK.1 hP hD hS 5 0 rfl rfl (vp_in_nI (by first | omega | (have t_c1 := eqI c1; have t_hj10 := hj10; have t_hinv := hinv.2.2.2; have t_n13 := n13; have t_n15 := n15; have t_c16 := eqI c16; have t_b22 := b22; have t_b26 := b26; have t_hz28 := hz28; have t_hz30 := hz30; have t_hi31 := hi31; have t_hl32 := hl32; have tqz_ := qz0_; have tnb_ := nib4 tn2071_ tn2072_ tn2075_ tn2078_; omega)) (by decide)) dX6_takePairs_143 (fun H locs hP hD hS => ?_)
                  rw [nI_clamp (by omega)] at hP hD
                  obtain ⟨hP, hD⟩ := va_rls (ws' := (([(h0, .inr (6, [.ref la, .ref si, .ref ce, .int r23, .int (nI k5), .ref fi, .ref se])), (la, .inl (G 0, 4, .inl fl)), (si, .inl (G 0, 4, .inl fz)), (ce, .inl (G 4, 4, .inr (.inr (.inr (.inr (fun ir => if ir < 4 then some (rc ir) else none)))))), (fi, .inl (G 0, 20, .inl (upd g6 j2 (F k v27.toNatClampNeg)))), (se, .inl (G 0, 20, .inl (upd g7 j2 (F k (v29 + 1).toNatClampNeg))))] : va_W) ++ ((((List.range 4).map (fun iq => (rc iq, .inl (G 0, 40, .inl (F iq))))) : va_W) ++ []))) hP hD rfl
                  refine lv_aload_n hx hb dX6_takePairs_144 rfl (lv_at hl 2 rfl) ?_
                  refine lv_dup hx hb dX6_takePairs_145 rfl ?_
                  refine va_get (D := (dC, dI)) (ci := 6) (v := .int (nI k5)) (C := RX6) (T := TX6) (N := 7) hx hb hg inG6 hown hK.1 hP 0 rfl rfl 4 (Nat.le_of_ble_eq_true rfl) (hg _ wt_281) (fun _ h9 => h9) rfl dX6_takePairs_146 ?_
                  refine lv_iconst (v := 1) hx hb dX6_takePairs_149 rfl ?_
                  refine lv_iadd hx hb dX6_takePairs_150 ?_
                  refine lv_cg (y := nI (k5 + 1)) (by rw [show (1 : Int32) = nI 1 from rfl]; exact nI_add _ _) ?_
                  refine va_put (D := (dC, dI)) (ci := 6) (v := .int (nI (k5 + 1))) (ty := .int) (C := RX6) (T := TX6) (N := 7) hx hb hg inG6 tyX6 tyX6_ok nmX6 hown hK.1 hP hD hS 0 rfl rfl 4 (Nat.le_of_ble_eq_true rfl) (hg _ wt_281) (fun _ h9 => h9) rfl (by decide +kernel) rfl rfl (Nat.le_of_ble_eq_true rfl) dX6_takePairs_151 (fun H locs hP hD hS => ?_)
                  obtain ⟨hP, hD⟩ := va_rls (ws' := (([(h0, .inr (6, [.ref la, .ref si, .ref ce, .int r23, .int (nI (k5 + 1)), .ref fi, .ref se])), (la, .inl (G 0, 4, .inl fl)), (si, .inl (G 0, 4, .inl fz)), (ce, .inl (G 4, 4, .inr (.inr (.inr (.inr (fun ir => if ir < 4 then some (rc ir) else none)))))), (fi, .inl (G 0, 20, .inl (upd g6 j2 (F k v27.toNatClampNeg)))), (se, .inl (G 0, 20, .inl (upd g7 j2 (F k (v29 + 1).toNatClampNeg))))] : va_W) ++ ((((List.range 4).map (fun iq => (rc iq, .inl (G 0, 40, .inl (F iq))))) : va_W) ++ []))) hP hD rfl
                  refine lv_iinc (v := nI (j2 + 1)) (lv' := [(5, .int (nI (j2 + 1))), (6, .long v17), (0, .ref h0), (1, .int (nI k)), (2, .int lane), (3, .int x1), (4, .int (nI nn))]) hx hb dX6_takePairs_154 hl (k := 1) rfl (by rw [show Int32.ofInt 1 = nI 1 from by decide]; exact nI_add _ _) (by decide) rfl (fun ls hl => ?_)
                  refine lv_goto (tgt := 37) hx hb dX6_takePairs_157 rfl ?_
                  exact ih37_8 (j2 + 1) (by omega) (by omega) r23 (k5 + 1) (upd g6 j2 (F k v27.toNatClampNeg)) (upd g7 j2 (F k (v29 + 1).toNatClampNeg)) _ _ (by have ea : v17.toInt = x1.toInt + 2 * (j2 : Int) := (by rw [ev17]; exact at64 x1 (by (have t_c1 := eqI c1; have t_hj10 := hj10; have t_hinv := hinv.2.2.2; have t_n13 := n13; have t_n15 := n15; have t_c16 := eqI c16; have t_b22 := b22; have t_b26 := b26; have t_hz28 := hz28; have t_hz30 := hz30; have t_hi31 := hi31; have t_hl32 := hl32; have tqz_ := qz0_; have tnb_ := nib4 tn2071_ tn2072_ tn2075_ tn2078_; have tqz_ := qz41_; omega))); have eb : (v17 + 1).toInt = v17.toInt + 1 := l1_e (by have := x1.toInt_lt; have := x1.le_toInt; (have t_c1 := eqI c1; have t_hj10 := hj10; have t_hinv := hinv.2.2.2; have t_n13 := n13; have t_n15 := n15; have t_c16 := eqI c16; have t_b22 := b22; have t_b26 := b26; have t_hz28 := hz28; have t_hz30 := hz30; have t_hi31 := hi31; have t_hl32 := hl32; have tqz_ := qz0_; have tnb_ := nib4 tn2071_ tn2072_ tn2075_ tn2078_; have tqz_ := qz41_; omega)) (by have := x1.toInt_lt; have := x1.le_toInt; (have t_c1 := eqI c1; have t_hj10 := hj10; have t_hinv := hinv.2.2.2; have t_n13 := n13; have t_n15 := n15; have t_c16 := eqI c16; have t_b22 := b22; have t_b26 := b26; have t_hz28 := hz28; have t_hz30 := hz30; have t_hi31 := hi31; have t_hl32 := hl32; have tqz_ := qz0_; have tnb_ := nib4 tn2071_ tn2072_ tn2075_ tn2078_; have tqz_ := qz41_; omega)); have g9 := (hinv.2.2.1.resolve_right (fun h9 => h9.1 (by first | with_reducible assumption | assumption))); have g8 := g9.2.1; refine ⟨?_, ?_, Or.inl ⟨by assumption, by (have t_c1 := eqI c1; have t_hj10 := hj10; have t_hinv := hinv.2.2.2; have t_n13 := n13; have t_n15 := n15; have t_c16 := eqI c16; have t_b22 := b22; have t_b26 := b26; have t_hz28 := hz28; have t_hz30 := hz30; have t_hi31 := hi31; have t_hl32 := hl32; have tqz_ := qz0_; have tnb_ := nib4 tn2071_ tn2072_ tn2075_ tn2078_; have tqz_ := qz41_; omega), fun h9 => absurd h9 (tp_ne w24 (by first | with_reducible assumption | assumption)), g9.2.2.2.1, ?_⟩, by (have t_c1 := eqI c1; have t_hj10 := hj10; have t_hinv := hinv.2.2.2; have t_n13 := n13; have t_n15 := n15; have t_c16 := eqI c16; have t_b22 := b22; have t_b26 := b26; have t_hz28 := hz28; have t_hz30 := hz30; have t_hi31 := hi31; have t_hl32 := hl32; have tqz_ := qz0_; have tnb_ := nib4 tn2071_ tn2072_ tn2075_ tn2078_; have tqz_ := qz41_; omega), by (have t_c1 := eqI c1; have t_hj10 := hj10; have t_hinv := hinv.2.2.2; have t_n13 := n13; have t_n15 := n15; have t_c16 := eqI c16; have t_b22 := b22; have t_b26 := b26; have t_hz28 := hz28; have t_hz30 := hz30; have t_hi31 := hi31; have t_hl32 := hl32; have tqz_ := qz0_; have tnb_ := nib4 tn2071_ tn2072_ tn2075_ tn2078_; have tqz_ := qz41_; omega)⟩; (have q1 := tp_put (F := F) (k := k) (c := 0) (x := v27) (fun q9 h9 => hinv.1 q9 (by (have t_c1 := eqI c1; have t_hj10 := hj10; have t_hinv := hinv.2.2.2; have t_n13 := n13; have t_n15 := n15; have t_c16 := eqI c16; have t_b22 := b22; have t_b26 := b26; have t_hz28 := hz28; have t_hz30 := hz30; have t_hi31 := hi31; have t_hl32 := hl32; have tqz_ := qz0_; have tnb_ := nib4 tn2071_ tn2072_ tn2075_ tn2078_; have tqz_ := qz41_; omega))) (show _ = x1.toInt + 2 * (j2 : Int) + 0 by (have t_c1 := eqI c1; have t_hj10 := hj10; have t_hinv := hinv.2.2.2; have t_n13 := n13; have t_n15 := n15; have t_c16 := eqI c16; have t_b22 := b22; have t_b26 := b26; have t_hz28 := hz28; have t_hz30 := hz30; have t_hi31 := hi31; have t_hl32 := hl32; have tqz_ := qz0_; have tnb_ := nib4 tn2071_ tn2072_ tn2075_ tn2078_; have tqz_ := qz41_; omega)); exact fun q9 h9 => q1 q9 (by (have t_c1 := eqI c1; have t_hj10 := hj10; have t_hinv := hinv.2.2.2; have t_n13 := n13; have t_n15 := n15; have t_c16 := eqI c16; have t_b22 := b22; have t_b26 := b26; have t_hz28 := hz28; have t_hz30 := hz30; have t_hi31 := hi31; have t_hl32 := hl32; have tqz_ := qz0_; have tnb_ := nib4 tn2071_ tn2072_ tn2075_ tn2078_; have tqz_ := qz41_; omega))); (have q1 := tp_put (F := F) (k := k) (c := 1) (x := (v29 + 1)) (fun q9 h9 => hinv.2.1 q9 (by (have t_c1 := eqI c1; have t_hj10 := hj10; have t_hinv := hinv.2.2.2; have t_n13 := n13; have t_n15 := n15; have t_c16 := eqI c16; have t_b22 := b22; have t_b26 := b26; have t_hz28 := hz28; have t_hz30 := hz30; have t_hi31 := hi31; have t_hl32 := hl32; have tqz_ := qz0_; have tnb_ := nib4 tn2071_ tn2072_ tn2075_ tn2078_; have tqz_ := qz41_; omega))) (show _ = x1.toInt + 2 * (j2 : Int) + 1 by (have t_c1 := eqI c1; have t_hj10 := hj10; have t_hinv := hinv.2.2.2; have t_n13 := n13; have t_n15 := n15; have t_c16 := eqI c16; have t_b22 := b22; have t_b26 := b26; have t_hz28 := hz28; have t_hz30 := hz30; have t_hi31 := hi31; have t_hl32 := hl32; have tqz_ := qz0_; have tnb_ := nib4 tn2071_ tn2072_ tn2075_ tn2078_; have tqz_ := qz41_; omega)); exact fun q9 h9 => q1 q9 (by (have t_c1 := eqI c1; have t_hj10 := hj10; have t_hinv := hinv.2.2.2; have t_n13 := n13; have t_n15 := n15; have t_c16 := eqI c16; have t_b22 := b22; have t_b26 := b26; have t_hz28 := hz28; have t_hz30 := hz30; have t_hi31 := hi31; have t_hl32 := hl32; have tqz_ := qz0_; have tnb_ := nib4 tn2071_ tn2072_ tn2075_ tn2078_; have tqz_ := qz41_; omega))); (rw [← tpM_go (by (have t_c1 := eqI c1; have t_hj10 := hj10; have t_hinv := hinv.2.2.2; have t_n13 := n13; have t_n15 := n15; have t_c16 := eqI c16; have t_b22 := b22; have t_b26 := b26; have t_hz28 := hz28; have t_hz30 := hz30; have t_hi31 := hi31; have t_hl32 := hl32; have tqz_ := qz0_; have tnb_ := nib4 tn2071_ tn2072_ tn2075_ tn2078_; have tqz_ := qz41_; omega)) (by (have t_c1 := eqI c1; have t_hj10 := hj10; have t_hinv := hinv.2.2.2; have t_n13 := n13; have t_n15 := n15; have t_c16 := eqI c16; have t_b22 := b22; have t_b26 := b26; have t_hz28 := hz28; have t_hz30 := hz30; have t_hi31 := hi31; have t_hl32 := hl32; have tqz_ := qz0_; have tnb_ := nib4 tn2071_ tn2072_ tn2075_ tn2078_; have tqz_ := qz41_; omega))]; exact g9.2.2.2.2)) hP hD hS ls (lv_sub hl [0, 2, 3, 4, 5, 6] rfl)
    exact loop37_8 (20 + 1) 0 (by omega) (by omega) 0 0 f1 f2 _ _ ⟨fun q9 h9 => absurd h9 (Nat.not_lt_zero _), fun q9 h9 => absurd h9 (Nat.not_lt_zero _), Or.inl ⟨rfl, rfl, fun _ => rfl, (by first | exact fun _ => (by first | with_reducible assumption | assumption) | exact fun h9 => absurd (by first | with_reducible assumption | assumption) h9), rfl⟩, Nat.zero_le _, Nat.zero_le _⟩ hP hD hS ls (lv_sub hl [0, 1, 2, 3, 4, 5] rfl)
  · skip
    refine lv_aload_n hx hb dX6_takePairs_16 rfl (lv_at hl 0 rfl) ?_
    refine va_get (D := (dC, dI)) (ci := 6) (v := .ref la) (C := RX6) (T := TX6) (N := 7) hx hb hg inG6 hown hK.1 hP 0 rfl rfl 0 (Nat.le_of_ble_eq_true rfl) (hg _ wt_276) (fun _ h9 => h9) rfl dX6_takePairs_17 ?_
    refine lv_iload_n hx hb dX6_takePairs_20 rfl (lv_at hl 1 rfl) ?_
    refine va_iald hx hb hK.1 hP 1 0 rfl rfl (vp_in_nI (by first | omega | (have t_c1 := neI c1; have : ((-1) : Int32).toInt = -1 := qI_m1; have tnb_ := nib2 tn2071_ tn2072_; omega)) (by decide)) dX6_takePairs_21 ?_
    refine lv_cg (y := fl k) (by rw [nI_clamp (by omega)]) ?_
    refine lv_iload_n hx hb dX6_takePairs_22 rfl (lv_at hl 2 rfl) ?_
    refine lv_icmp_ne (tgt := 30) hx hb dX6_takePairs_23 rfl (fun c33 => ?_) (fun c33 => ?_)
    · skip
      refine lv_iconst (v := 3) hx hb dX6_takePairs_30 rfl ?_
      refine va_put (D := (dC, dI)) (ci := 6) (v := .int 3) (ty := .int) (C := RX6) (T := TX6) (N := 7) hx hb hg inG6 tyX6 tyX6_ok nmX6 hown hK.1 hP hD hS 0 rfl rfl 3 (Nat.le_of_ble_eq_true rfl) (hg _ wt_279) (fun _ h9 => h9) rfl (by decide +kernel) rfl rfl (Nat.le_of_ble_eq_true rfl) dX6_takePairs_31 (fun H locs hP hD hS => ?_)
      obtain ⟨hP, hD⟩ := va_rls (ws' := (([(h0, .inr (6, [.ref la, .ref si, .ref ce, .int 3, .int 0, .ref fi, .ref se])), (la, .inl (G 0, 4, .inl fl)), (si, .inl (G 0, 4, .inl fz)), (ce, .inl (G 4, 4, .inr (.inr (.inr (.inr (fun ir => if ir < 4 then some (rc ir) else none)))))), (fi, .inl (G 0, 20, .inl f1)), (se, .inl (G 0, 20, .inl f2))] : va_W) ++ ((((List.range 4).map (fun iq => (rc iq, .inl (G 0, 40, .inl (F iq))))) : va_W) ++ []))) hP hD rfl
      refine lv_iconst (v := 0) hx hb dX6_takePairs_34 rfl ?_
      refine lv_istore (lv' := [(5, .int 0), (0, .ref h0), (1, .int (nI k)), (2, .int lane), (3, .int x1), (4, .int (nI nn))]) hx hb dX6_takePairs_35 hl (by decide) rfl (fun ls hl => ?_)
      have loop37_35 : ∀ (nf j34 : Nat), 20 + 1 ≤ j34 + nf → j34 ≤ 20 → ∀ (H : Heap) (locs : List Loc), ((∀ q9 : Nat, q9 < 0 → f1 q9 = F k (x1.toInt + 2 * (q9 : Int) + 0).toNat) ∧ (∀ q9 : Nat, q9 < 0 → f2 q9 = F k (x1.toInt + 2 * (q9 : Int) + 1).toNat) ∧ (((3 : Int32) = 0 ∧ 0 = j34 ∧ (fl k = -1 → j34 = 0) ∧ (¬ fl k = -1 → fl k = lane) ∧ tpM (fz k).toInt x1.toInt (nn - j34) j34 = tpM (fz k).toInt x1.toInt nn 0) ∨ (¬ (3 : Int32) = 0 ∧ 0 = tpK (fl k) lane (fz k).toInt x1.toInt nn)) ∧ 0 ≤ j34 ∧ j34 ≤ nn) → va_P (dC, dI) vwCl (([(h0, .inr (6, [.ref la, .ref si, .ref ce, .int 3, .int 0, .ref fi, .ref se])), (la, .inl (G 0, 4, .inl fl)), (si, .inl (G 0, 4, .inl fz)), (ce, .inl (G 4, 4, .inr (.inr (.inr (.inr (fun ir => if ir < 4 then some (rc ir) else none)))))), (fi, .inl (G 0, 20, .inl f1)), (se, .inl (G 0, 20, .inl f2))] : va_W) ++ ((((List.range 4).map (fun iq => (rc iq, .inl (G 0, 40, .inl (F iq))))) : va_W) ++ [])) H → va_D A (([(h0, .inr (6, [.ref la, .ref si, .ref ce, .int 3, .int 0, .ref fi, .ref se])), (la, .inl (G 0, 4, .inl fl)), (si, .inl (G 0, 4, .inl fz)), (ce, .inl (G 4, 4, .inr (.inr (.inr (.inr (fun ir => if ir < 4 then some (rc ir) else none)))))), (fi, .inl (G 0, 20, .inl f1)), (se, .inl (G 0, 20, .inl f2))] : va_W) ++ ((((List.range 4).map (fun iq => (rc iq, .inl (G 0, 40, .inl (F iq))))) : va_W) ++ [])) → va_S A s.heap H locs → ∀ (ls : Array Slot), lv_has ls 8 [(5, .int (nI j34)), (0, .ref h0), (1, .int (nI k)), (2, .int lane), (3, .int x1), (4, .int (nI nn))] → W p l e (headSpec (Cond.code yX6_takePairs cX6_takePairs 8 none :: GT) ({ frames := 1, cells := 0, slots := 0, locals := 23 } : Room)).room s m ([.ref h0, .int (nI k), .int lane, .int x1, .int (nI nn)] : List Value).toArray below meth c H locs 0 0 (MQ below (va_Qv (fun (u : Int32 × Nat × (Nat → Int32) × (Nat → Int32)) => match u with | (u0, u1, u2, u3) => u1 = tpK (fl k) lane (fz k).toInt x1.toInt nn ∧ (∀ q9 : Nat, q9 < u1 → u2 q9 = F k (x1.toInt + 2 * (q9 : Int) + 0).toNat) ∧ (∀ q9 : Nat, q9 < u1 → u3 q9 = F k (x1.toInt + 2 * (q9 : Int) + 1).toNat) ∧ u1 ≤ 20) (fun (u : Int32 × Nat × (Nat → Int32) × (Nat → Int32)) (t : State) => match u with | (u0, u1, u2, u3) => va_P (dC, dI) vwCl (([(h0, .inr (6, [.ref la, .ref si, .ref ce, .int u0, .int (nI u1), .ref fi, .ref se])), (la, .inl (G 0, 4, .inl fl)), (si, .inl (G 0, 4, .inl fz)), (ce, .inl (G 4, 4, .inr (.inr (.inr (.inr (fun ir => if ir < 4 then some (rc ir) else none)))))), (fi, .inl (G 0, 20, .inl u2)), (se, .inl (G 0, 20, .inl u3))] : va_W) ++ ((((List.range 4).map (fun iq => (rc iq, .inl (G 0, 40, .inl (F iq))))) : va_W) ++ [])) t.heap ∧ va_D A (([(h0, .inr (6, [.ref la, .ref si, .ref ce, .int u0, .int (nI u1), .ref fi, .ref se])), (la, .inl (G 0, 4, .inl fl)), (si, .inl (G 0, 4, .inl fz)), (ce, .inl (G 4, 4, .inr (.inr (.inr (.inr (fun ir => if ir < 4 then some (rc ir) else none)))))), (fi, .inl (G 0, 20, .inl u2)), (se, .inl (G 0, 20, .inl u3))] : va_W) ++ ((((List.range 4).map (fun iq => (rc iq, .inl (G 0, 40, .inl (F iq))))) : va_W) ++ []))) A) ([.ref h0, .int (nI k), .int lane, .int x1, .int (nI nn)] : List Value).toArray s 0 0 A) (F0 m 37 ls []) := by
        intro nf
        induction nf with
        | zero => intro j34 h1 h2; exact absurd h1 (by omega)
        | succ nf ih37_35 =>
          intro j34 hn36 hj37  H locs hinv hP hD hS ls hl
          refine lv_iload hx hb dX6_takePairs_37 (lv_at hl 0 rfl) ?_
          refine lv_iload hx hb dX6_takePairs_39 (lv_at hl 5 rfl) ?_
          refine lv_icmp_ge (tgt := 160) hx hb dX6_takePairs_41 rfl (fun c38 => ?_) (fun c38 => ?_)
          · skip
            have tn2079_ : nIT j34 := fun _ => nI_toInt (by first | omega | (have t := leI c38; omega))
            have n39 : nn ≤ j34 := by have t := leI c38; rw [show (nI (j34)).toInt = ((j34 : Nat) : Int) from tn2079_ ()] at t; rw [show (nI (nn)).toInt = ((nn : Nat) : Int) from tn2072_ ()] at t; omega
            obtain ⟨hP9, hD9⟩ := va_sub2 (ws' := (([(h0, .inr (6, [.ref la, .ref si, .ref ce, .int 3, .int 0, .ref fi, .ref se])), (la, .inl (G 0, 4, .inl fl)), (si, .inl (G 0, 4, .inl fz)), (ce, .inl (G 4, 4, .inr (.inr (.inr (.inr (fun ir => if ir < 4 then some (rc ir) else none)))))), (fi, .inl (G 0, 20, .inl f1)), (se, .inl (G 0, 20, .inl f2))] : va_W) ++ ((((List.range 4).map (fun iq => (rc iq, .inl (G 0, 40, .inl (F iq))))) : va_W) ++ []))) hP hD [0, 1, 2, 3, 4, 5, 6, 7, 8, 9] (by decide +kernel) rfl
            refine W.widen (k := 0) (n := 0) (Nat.le_of_ble_eq_true rfl) (Nat.le_of_ble_eq_true rfl) ?_
            exact W.vret hx hb hr (fun t ht hW => ⟨⟨(3, 0, f1, f2), rfl, (by have t_c1 := neI c1; have t_c33 := neI c33; have t_hj37 := hj37; have t_hinv := hinv.2.2.2; have t_n39 := n39; have : ((-1) : Int32).toInt = -1 := qI_m1; have tnb_ := nib3 tn2071_ tn2072_ tn2079_; have tqz_ := qz41_; have hk : _ = tpK (fl k) lane (fz k).toInt x1.toInt nn := (by rcases hinv.2.2.1 with g9 | g9; (exact tp_end g9.2.1 g9.2.2.1 g9.2.2.2.1 g9.2.2.2.2 hlne (by first | omega | (exfalso; exact absurd g9.1 (by first | with_reducible assumption | assumption)))); exact g9.2); exact ⟨hk, hinv.1, hinv.2.1, by omega⟩), ⟨by rw [ht]; exact hP9, hD9⟩⟩, hS.F ht⟩) hS.2.2 dX6_takePairs_160
          · skip
            have tn2080_ : nIT j34 := fun _ => nI_toInt (by first | omega | (have t := nleI c38; omega))
            have n40 : j34 < nn := by have t := nleI c38; rw [show (nI (j34)).toInt = ((j34 : Nat) : Int) from tn2080_ ()] at t; rw [show (nI (nn)).toInt = ((nn : Nat) : Int) from tn2072_ ()] at t; omega
            refine lv_iload hx hb dX6_takePairs_44 (lv_at hl 0 rfl) ?_
            refine lv_bipush (v := 20) hx hb dX6_takePairs_46 rfl ?_
            refine lv_icmp_ge (tgt := 160) hx hb dX6_takePairs_48 rfl (fun c41 => ?_) (fun c41 => ?_)
            · skip
              have t_c1 := neI c1
              have t_c33 := neI c33
              have t_hj37 := hj37
              have t_hinv := hinv.2.2.2
              have t_n40 := n40
              have t_c41 := leI c41
              have : ((-1) : Int32).toInt = -1 := qI_m1
              have : (20 : Int32).toInt = 20 := qI_20
              have t_n0 : (nI k).toInt = (k : Int) := tn2071_ ()
              have t_n1 : (nI nn).toInt = (nn : Int) := tn2072_ ()
              have t_n2 : (nI j34).toInt = (j34 : Int) := tn2080_ ()
              exfalso; omega
            · skip
              have n42 : j34 < 20 := by have t := nleI c41; rw [show (nI (j34)).toInt = ((j34 : Nat) : Int) from tn2080_ ()] at t; have : (20 : Int32).toInt = 20 := qI_20; omega
              refine lv_aload_n hx hb dX6_takePairs_51 rfl (lv_at hl 1 rfl) ?_
              refine va_get (D := (dC, dI)) (ci := 6) (v := .int 3) (C := RX6) (T := TX6) (N := 7) hx hb hg inG6 hown hK.1 hP 0 rfl rfl 3 (Nat.le_of_ble_eq_true rfl) (hg _ wt_279) (fun _ h9 => h9) rfl dX6_takePairs_52 ?_
              refine lv_if_ne (tgt := 160) hx hb dX6_takePairs_55 rfl (fun c43 => ?_) (fun c43 => ?_)
              · skip
                obtain ⟨hP9, hD9⟩ := va_sub2 (ws' := (([(h0, .inr (6, [.ref la, .ref si, .ref ce, .int 3, .int 0, .ref fi, .ref se])), (la, .inl (G 0, 4, .inl fl)), (si, .inl (G 0, 4, .inl fz)), (ce, .inl (G 4, 4, .inr (.inr (.inr (.inr (fun ir => if ir < 4 then some (rc ir) else none)))))), (fi, .inl (G 0, 20, .inl f1)), (se, .inl (G 0, 20, .inl f2))] : va_W) ++ ((((List.range 4).map (fun iq => (rc iq, .inl (G 0, 40, .inl (F iq))))) : va_W) ++ []))) hP hD [0, 1, 2, 3, 4, 5, 6, 7, 8, 9] (by decide +kernel) rfl
                refine W.widen (k := 0) (n := 0) (Nat.le_of_ble_eq_true rfl) (Nat.le_of_ble_eq_true rfl) ?_
                exact W.vret hx hb hr (fun t ht hW => ⟨⟨(3, 0, f1, f2), rfl, (by have t_c1 := neI c1; have t_c33 := neI c33; have t_hj37 := hj37; have t_hinv := hinv.2.2.2; have t_n40 := n40; have t_n42 := n42; have t_c43 := neI c43; have tqz_ := qz47_; have tnb_ := nib3 tn2071_ tn2072_ tn2080_; have tqz_ := qz41_; have hk : _ = tpK (fl k) lane (fz k).toInt x1.toInt nn := (by rcases hinv.2.2.1 with g9 | g9; (exact tp_end g9.2.1 g9.2.2.1 g9.2.2.2.1 g9.2.2.2.2 hlne (by first | omega | (exfalso; exact absurd g9.1 (by first | with_reducible assumption | assumption)))); exact g9.2); exact ⟨hk, hinv.1, hinv.2.1, by omega⟩), ⟨by rw [ht]; exact hP9, hD9⟩⟩, hS.F ht⟩) hS.2.2 dX6_takePairs_160
              · skip
                exact absurd c43 (by decide)
      exact loop37_35 (20 + 1) 0 (by omega) (by omega)  _ _ ⟨fun q9 h9 => absurd h9 (Nat.not_lt_zero _), fun q9 h9 => absurd h9 (Nat.not_lt_zero _), Or.inr ⟨by decide, (by unfold tpK; rw [if_neg (by first | with_reducible assumption | assumption)])⟩, Nat.zero_le _, Nat.zero_le _⟩ hP hD hS ls (lv_sub hl [0, 1, 2, 3, 4, 5] rfl)
    · skip
      refine lv_iconst (v := 0) hx hb dX6_takePairs_26 rfl ?_
      refine lv_goto (tgt := 31) hx hb dX6_takePairs_27 rfl ?_
      refine va_put (D := (dC, dI)) (ci := 6) (v := .int 0) (ty := .int) (C := RX6) (T := TX6) (N := 7) hx hb hg inG6 tyX6 tyX6_ok nmX6 hown hK.1 hP hD hS 0 rfl rfl 3 (Nat.le_of_ble_eq_true rfl) (hg _ wt_279) (fun _ h9 => h9) rfl (by decide +kernel) rfl rfl (Nat.le_of_ble_eq_true rfl) dX6_takePairs_31 (fun H locs hP hD hS => ?_)
      obtain ⟨hP, hD⟩ := va_rls (ws' := (([(h0, .inr (6, [.ref la, .ref si, .ref ce, .int 0, .int 0, .ref fi, .ref se])), (la, .inl (G 0, 4, .inl fl)), (si, .inl (G 0, 4, .inl fz)), (ce, .inl (G 4, 4, .inr (.inr (.inr (.inr (fun ir => if ir < 4 then some (rc ir) else none)))))), (fi, .inl (G 0, 20, .inl f1)), (se, .inl (G 0, 20, .inl f2))] : va_W) ++ ((((List.range 4).map (fun iq => (rc iq, .inl (G 0, 40, .inl (F iq))))) : va_W) ++ []))) hP hD rfl
      refine lv_iconst (v := 0) hx hb dX6_takePairs_34 rfl ?_
      refine lv_istore (lv' := [(5, .int 0), (0, .ref h0), (1, .int (nI k)), (2, .int lane), (3, .int x1), (4, .int (nI nn))]) hx hb dX6_takePairs_35 hl (by decide) rfl (fun ls hl => ?_)
      have loop37_50 : ∀ (nf j44 : Nat), 20 + 1 ≤ j44 + nf → j44 ≤ 20 → ∀ (y45 : Int32) (k47 : Nat) (g48 : Nat → Int32) (g49 : Nat → Int32) (H : Heap) (locs : List Loc), ((∀ q9 : Nat, q9 < k47 → g48 q9 = F k (x1.toInt + 2 * (q9 : Int) + 0).toNat) ∧ (∀ q9 : Nat, q9 < k47 → g49 q9 = F k (x1.toInt + 2 * (q9 : Int) + 1).toNat) ∧ ((y45 = 0 ∧ k47 = j44 ∧ (fl k = -1 → j44 = 0) ∧ (¬ fl k = -1 → fl k = lane) ∧ tpM (fz k).toInt x1.toInt (nn - j44) j44 = tpM (fz k).toInt x1.toInt nn 0) ∨ (¬ y45 = 0 ∧ k47 = tpK (fl k) lane (fz k).toInt x1.toInt nn)) ∧ k47 ≤ j44 ∧ j44 ≤ nn) → va_P (dC, dI) vwCl (([(h0, .inr (6, [.ref la, .ref si, .ref ce, .int y45, .int (nI k47), .ref fi, .ref se])), (la, .inl (G 0, 4, .inl fl)), (si, .inl (G 0, 4, .inl fz)), (ce, .inl (G 4, 4, .inr (.inr (.inr (.inr (fun ir => if ir < 4 then some (rc ir) else none)))))), (fi, .inl (G 0, 20, .inl g48)), (se, .inl (G 0, 20, .inl g49))] : va_W) ++ ((((List.range 4).map (fun iq => (rc iq, .inl (G 0, 40, .inl (F iq))))) : va_W) ++ [])) H → va_D A (([(h0, .inr (6, [.ref la, .ref si, .ref ce, .int y45, .int (nI k47), .ref fi, .ref se])), (la, .inl (G 0, 4, .inl fl)), (si, .inl (G 0, 4, .inl fz)), (ce, .inl (G 4, 4, .inr (.inr (.inr (.inr (fun ir => if ir < 4 then some (rc ir) else none)))))), (fi, .inl (G 0, 20, .inl g48)), (se, .inl (G 0, 20, .inl g49))] : va_W) ++ ((((List.range 4).map (fun iq => (rc iq, .inl (G 0, 40, .inl (F iq))))) : va_W) ++ [])) → va_S A s.heap H locs → ∀ (ls : Array Slot), lv_has ls 8 [(5, .int (nI j44)), (0, .ref h0), (1, .int (nI k)), (2, .int lane), (3, .int x1), (4, .int (nI nn))] → W p l e (headSpec (Cond.code yX6_takePairs cX6_takePairs 8 none :: GT) ({ frames := 1, cells := 0, slots := 0, locals := 23 } : Room)).room s m ([.ref h0, .int (nI k), .int lane, .int x1, .int (nI nn)] : List Value).toArray below meth c H locs 0 0 (MQ below (va_Qv (fun (u : Int32 × Nat × (Nat → Int32) × (Nat → Int32)) => match u with | (u0, u1, u2, u3) => u1 = tpK (fl k) lane (fz k).toInt x1.toInt nn ∧ (∀ q9 : Nat, q9 < u1 → u2 q9 = F k (x1.toInt + 2 * (q9 : Int) + 0).toNat) ∧ (∀ q9 : Nat, q9 < u1 → u3 q9 = F k (x1.toInt + 2 * (q9 : Int) + 1).toNat) ∧ u1 ≤ 20) (fun (u : Int32 × Nat × (Nat → Int32) × (Nat → Int32)) (t : State) => match u with | (u0, u1, u2, u3) => va_P (dC, dI) vwCl (([(h0, .inr (6, [.ref la, .ref si, .ref ce, .int u0, .int (nI u1), .ref fi, .ref se])), (la, .inl (G 0, 4, .inl fl)), (si, .inl (G 0, 4, .inl fz)), (ce, .inl (G 4, 4, .inr (.inr (.inr (.inr (fun ir => if ir < 4 then some (rc ir) else none)))))), (fi, .inl (G 0, 20, .inl u2)), (se, .inl (G 0, 20, .inl u3))] : va_W) ++ ((((List.range 4).map (fun iq => (rc iq, .inl (G 0, 40, .inl (F iq))))) : va_W) ++ [])) t.heap ∧ va_D A (([(h0, .inr (6, [.ref la, .ref si, .ref ce, .int u0, .int (nI u1), .ref fi, .ref se])), (la, .inl (G 0, 4, .inl fl)), (si, .inl (G 0, 4, .inl fz)), (ce, .inl (G 4, 4, .inr (.inr (.inr (.inr (fun ir => if ir < 4 then some (rc ir) else none)))))), (fi, .inl (G 0, 20, .inl u2)), (se, .inl (G 0, 20, .inl u3))] : va_W) ++ ((((List.range 4).map (fun iq => (rc iq, .inl (G 0, 40, .inl (F iq))))) : va_W) ++ []))) A) ([.ref h0, .int (nI k), .int lane, .int x1, .int (nI nn)] : List Value).toArray s 0 0 A) (F0 m 37 ls []) := by
        intro nf
        induction nf with
        | zero => intro j44 h1 h2; exact absurd h1 (by omega)
        | succ nf ih37_50 =>
          intro j44 hn51 hj52 y45 k47 g48 g49 H locs hinv hP hD hS ls hl
          refine lv_iload hx hb dX6_takePairs_37 (lv_at hl 0 rfl) ?_
          refine lv_iload hx hb dX6_takePairs_39 (lv_at hl 5 rfl) ?_
          refine lv_icmp_ge (tgt := 160) hx hb dX6_takePairs_41 rfl (fun c53 => ?_) (fun c53 => ?_)
          · skip
            have tn2081_ : nIT j44 := fun _ => nI_toInt (by first | omega | (have t := leI c53; omega))
            have n54 : nn ≤ j44 := by have t := leI c53; rw [show (nI (j44)).toInt = ((j44 : Nat) : Int) from tn2081_ ()] at t; rw [show (nI (nn)).toInt = ((nn : Nat) : Int) from tn2072_ ()] at t; omega
            obtain ⟨hP9, hD9⟩ := va_sub2 (ws' := (([(h0, .inr (6, [.ref la, .ref si, .ref ce, .int y45, .int (nI k47), .ref fi, .ref se])), (la, .inl (G 0, 4, .inl fl)), (si, .inl (G 0, 4, .inl fz)), (ce, .inl (G 4, 4, .inr (.inr (.inr (.inr (fun ir => if ir < 4 then some (rc ir) else none)))))), (fi, .inl (G 0, 20, .inl g48)), (se, .inl (G 0, 20, .inl g49))] : va_W) ++ ((((List.range 4).map (fun iq => (rc iq, .inl (G 0, 40, .inl (F iq))))) : va_W) ++ []))) hP hD [0, 1, 2, 3, 4, 5, 6, 7, 8, 9] (by decide +kernel) rfl
            refine W.widen (k := 0) (n := 0) (Nat.le_of_ble_eq_true rfl) (Nat.le_of_ble_eq_true rfl) ?_
            have tn2082_ : nIT k47 := fun _ => nI_toInt (by first | omega | (have t_c1 := neI c1; have t_c33 := eqI c33; have t_hj52 := hj52; have t_hinv := hinv.2.2.2; have t_n54 := n54; have : ((-1) : Int32).toInt = -1 := qI_m1; omega))
            exact W.vret hx hb hr (fun t ht hW => ⟨⟨(y45, k47, g48, g49), rfl, (by have t_c1 := neI c1; have t_c33 := eqI c33; have t_hj52 := hj52; have t_hinv := hinv.2.2.2; have t_n54 := n54; have : ((-1) : Int32).toInt = -1 := qI_m1; have tnb_ := nib4 tn2071_ tn2072_ tn2081_ tn2082_; have tqz_ := qz41_; have hk : _ = tpK (fl k) lane (fz k).toInt x1.toInt nn := (by rcases hinv.2.2.1 with g9 | g9; (exact tp_end g9.2.1 g9.2.2.1 g9.2.2.2.1 g9.2.2.2.2 hlne (by first | omega | (exfalso; exact absurd g9.1 (by first | with_reducible assumption | assumption)))); exact g9.2); exact ⟨hk, hinv.1, hinv.2.1, by omega⟩), ⟨by rw [ht]; exact hP9, hD9⟩⟩, hS.F ht⟩) hS.2.2 dX6_takePairs_160
          · skip
            have tn2083_ : nIT j44 := fun _ => nI_toInt (by first | omega | (have t := nleI c53; omega))
            have n55 : j44 < nn := by have t := nleI c53; rw [show (nI (j44)).toInt = ((j44 : Nat) : Int) from tn2083_ ()] at t; rw [show (nI (nn)).toInt = ((nn : Nat) : Int) from tn2072_ ()] at t; omega
            refine lv_iload hx hb dX6_takePairs_44 (lv_at hl 0 rfl) ?_
            refine lv_bipush (v := 20) hx hb dX6_takePairs_46 rfl ?_
            refine lv_icmp_ge (tgt := 160) hx hb dX6_takePairs_48 rfl (fun c56 => ?_) (fun c56 => ?_)
            · skip
              have t_c1 := neI c1
              have t_c33 := eqI c33
              have t_hj52 := hj52
              have t_hinv := hinv.2.2.2
              have t_n55 := n55
              have t_c56 := leI c56
              have : ((-1) : Int32).toInt = -1 := qI_m1
              have : (20 : Int32).toInt = 20 := qI_20
              have t_n0 : (nI k).toInt = (k : Int) := tn2071_ ()
              have t_n1 : (nI nn).toInt = (nn : Int) := tn2072_ ()
              have t_n2 : (nI j44).toInt = (j44 : Int) := tn2083_ ()
              have tn2084_ : nIT k47 := fun _ => nI_toInt (by omega)
              have t_n3 : (nI k47).toInt = (k47 : Int) := tn2084_ ()
              exfalso; omega
            · skip
              have n57 : j44 < 20 := by have t := nleI c56; rw [show (nI (j44)).toInt = ((j44 : Nat) : Int) from tn2083_ ()] at t; have : (20 : Int32).toInt = 20 := qI_20; omega
              refine lv_aload_n hx hb dX6_takePairs_51 rfl (lv_at hl 1 rfl) ?_
              refine va_get (D := (dC, dI)) (ci := 6) (v := .int y45) (C := RX6) (T := TX6) (N := 7) hx hb hg inG6 hown hK.1 hP 0 rfl rfl 3 (Nat.le_of_ble_eq_true rfl) (hg _ wt_279) (fun _ h9 => h9) rfl dX6_takePairs_52 ?_
              refine lv_if_ne (tgt := 160) hx hb dX6_takePairs_55 rfl (fun c58 => ?_) (fun c58 => ?_)
              · skip
                obtain ⟨hP9, hD9⟩ := va_sub2 (ws' := (([(h0, .inr (6, [.ref la, .ref si, .ref ce, .int y45, .int (nI k47), .ref fi, .ref se])), (la, .inl (G 0, 4, .inl fl)), (si, .inl (G 0, 4, .inl fz)), (ce, .inl (G 4, 4, .inr (.inr (.inr (.inr (fun ir => if ir < 4 then some (rc ir) else none)))))), (fi, .inl (G 0, 20, .inl g48)), (se, .inl (G 0, 20, .inl g49))] : va_W) ++ ((((List.range 4).map (fun iq => (rc iq, .inl (G 0, 40, .inl (F iq))))) : va_W) ++ []))) hP hD [0, 1, 2, 3, 4, 5, 6, 7, 8, 9] (by decide +kernel) rfl
                refine W.widen (k := 0) (n := 0) (Nat.le_of_ble_eq_true rfl) (Nat.le_of_ble_eq_true rfl) ?_
                have tn2085_ : nIT k47 := fun _ => nI_toInt (by first | omega | (have t_c1 := neI c1; have t_c33 := eqI c33; have t_hj52 := hj52; have t_hinv := hinv.2.2.2; have t_n55 := n55; have t_n57 := n57; have t_c58 := neI c58; have tqz_ := qz0_; omega))
                exact W.vret hx hb hr (fun t ht hW => ⟨⟨(y45, k47, g48, g49), rfl, (by have t_c1 := neI c1; have t_c33 := eqI c33; have t_hj52 := hj52; have t_hinv := hinv.2.2.2; have t_n55 := n55; have t_n57 := n57; have t_c58 := neI c58; have tqz_ := qz0_; have tnb_ := nib4 tn2071_ tn2072_ tn2083_ tn2085_; have tqz_ := qz41_; have hk : _ = tpK (fl k) lane (fz k).toInt x1.toInt nn := (by rcases hinv.2.2.1 with g9 | g9; (exact tp_end g9.2.1 g9.2.2.1 g9.2.2.2.1 g9.2.2.2.2 hlne (by first | omega | (exfalso; exact absurd g9.1 (by first | with_reducible assumption | assumption)))); exact g9.2); exact ⟨hk, hinv.1, hinv.2.1, by omega⟩), ⟨by rw [ht]; exact hP9, hD9⟩⟩, hS.F ht⟩) hS.2.2 dX6_takePairs_160
              · skip
                refine lv_iload_n hx hb dX6_takePairs_58 rfl (lv_at hl 4 rfl) ?_
                refine lv_i2l (v := x1.toInt64) hx hb dX6_takePairs_59 rfl ?_
                refine lv_ldc2 (v := 2) hx hb hown (hg _ wt_855) dX6_takePairs_60 ?_
                refine lv_iload hx hb dX6_takePairs_63 (lv_at hl 0 rfl) ?_
                refine lv_i2l (v := (nI j44).toInt64) hx hb dX6_takePairs_65 rfl ?_
                refine lv_lmul hx hb dX6_takePairs_66 ?_
                refine lv_ladd hx hb dX6_takePairs_67 ?_
                refine lv_topl (fun v59 ev59 => ?_)
                refine lv_lstore (lv' := [(6, .long v59), (5, .int (nI j44)), (0, .ref h0), (1, .int (nI k)), (2, .int lane), (3, .int x1), (4, .int (nI nn))]) hx hb dX6_takePairs_68 hl (by decide) rfl (fun ls hl => ?_)
                refine lv_aload_n hx hb dX6_takePairs_70 rfl (lv_at hl 2 rfl) ?_
                refine lv_aload_n hx hb dX6_takePairs_71 rfl (lv_at hl 2 rfl) ?_
                refine lv_iload_n hx hb dX6_takePairs_72 rfl (lv_at hl 3 rfl) ?_
                refine lv_lload hx hb dX6_takePairs_73 (lv_at hl 0 rfl) ?_
                have hPc := hP.sub (ws' := [(h0, .inr (6, [.ref la, .ref si, .ref ce, .int y45, .int (nI k47), .ref fi, .ref se])), (la, .inl (G 0, 4, .inl fl)), (si, .inl (G 0, 4, .inl fz))]) [0, 1, 2] rfl
                have tn2086_ : nIT k47 := fun _ => nI_toInt (by first | omega | (have t_c1 := neI c1; have t_c33 := eqI c33; have t_hj52 := hj52; have t_hinv := hinv.2.2.2; have t_n55 := n55; have t_n57 := n57; have t_c58 := eqI c58; have tqz_ := qz0_; omega))
                refine va_calli (va_runV (As := [.int (nI k), .long v59]) (rest := [.ref h0]) ⟨hx, hb, hml, hown, hg⟩ (c_X6_faultAt l dC dI G _ h0 la si ce fi se k y45 (nI k47) v59 fl fz hk) (kwV hg mfX6_faultAt wt_846 ⟨Nat.le_of_ble_eq_true rfl, Nat.le_of_ble_eq_true rfl⟩) (preVR hK hPc (ci := 6) (r := (RX6, TX6, 7)) rfl rfl) rfl rfl hl.1 rfl (lv_room (Nat.le_of_ble_eq_true rfl)) dX6_takePairs_75 ⟨Nat.le_of_ble_eq_true rfl, Nat.le_of_ble_eq_true rfl⟩) hS (fun q h1 h2 => absurd h2 (Nat.not_le.mpr h1)) (fun q h => hA q (Nat.le_trans hS.1 h)) (fun r60 ur60 t H1 locs ht hvm w61 hB hz1 hk1 hS => ?_)
                have hP := keepR hP hk1
                obtain ⟨w61, w61x⟩ := w61
                refine va_put (D := (dC, dI)) (ci := 6) (v := .int r60) (ty := .int) (C := RX6) (T := TX6) (N := 7) hx hb hg inG6 tyX6 tyX6_ok nmX6 hown hK.1 hP hD hS 0 rfl rfl 3 (Nat.le_of_ble_eq_true rfl) (hg _ wt_279) (fun _ h9 => h9) rfl (by decide +kernel) rfl rfl (Nat.le_of_ble_eq_true rfl) dX6_takePairs_78 (fun H locs hP hD hS => ?_)
                obtain ⟨hP, hD⟩ := va_rls (ws' := (([(h0, .inr (6, [.ref la, .ref si, .ref ce, .int r60, .int (nI k47), .ref fi, .ref se])), (la, .inl (G 0, 4, .inl fl)), (si, .inl (G 0, 4, .inl fz)), (ce, .inl (G 4, 4, .inr (.inr (.inr (.inr (fun ir => if ir < 4 then some (rc ir) else none)))))), (fi, .inl (G 0, 20, .inl g48)), (se, .inl (G 0, 20, .inl g49))] : va_W) ++ ((((List.range 4).map (fun iq => (rc iq, .inl (G 0, 40, .inl (F iq))))) : va_W) ++ []))) hP hD rfl
                refine lv_aload_n hx hb dX6_takePairs_81 rfl (lv_at hl 2 rfl) ?_
                refine va_get (D := (dC, dI)) (ci := 6) (v := .int r60) (C := RX6) (T := TX6) (N := 7) hx hb hg inG6 hown hK.1 hP 0 rfl rfl 3 (Nat.le_of_ble_eq_true rfl) (hg _ wt_279) (fun _ h9 => h9) rfl dX6_takePairs_82 ?_
                refine lv_if_ne (tgt := 101) hx hb dX6_takePairs_85 rfl (fun c62 => ?_) (fun c62 => ?_)
                · skip
                  refine lv_aload_n hx hb dX6_takePairs_101 rfl (lv_at hl 2 rfl) ?_
                  refine va_get (D := (dC, dI)) (ci := 6) (v := .int r60) (C := RX6) (T := TX6) (N := 7) hx hb hg inG6 hown hK.1 hP 0 rfl rfl 3 (Nat.le_of_ble_eq_true rfl) (hg _ wt_279) (fun _ h9 => h9) rfl dX6_takePairs_102 ?_
                  refine lv_if_ne (tgt := 154) hx hb dX6_takePairs_105 rfl (fun c63 => ?_) (fun c63 => ?_)
                  · skip
                    refine lv_iinc (v := nI (j44 + 1)) (lv' := [(5, .int (nI (j44 + 1))), (6, .long v59), (0, .ref h0), (1, .int (nI k)), (2, .int lane), (3, .int x1), (4, .int (nI nn))]) hx hb dX6_takePairs_154 hl (k := 1) rfl (by rw [show Int32.ofInt 1 = nI 1 from by decide]; exact nI_add _ _) (by decide) rfl (fun ls hl => ?_)
                    refine lv_goto (tgt := 37) hx hb dX6_takePairs_157 rfl ?_
                    exact ih37_50 (j44 + 1) (by omega) (by omega) r60 k47 g48 g49 _ _ ⟨hinv.1, hinv.2.1, Or.inr ⟨by assumption, (by have ea : v59.toInt = x1.toInt + 2 * (j44 : Int) := (by rw [ev59]; exact at64 x1 (by (have t_c1 := neI c1; have t_c33 := eqI c33; have t_hj52 := hj52; have t_hinv := hinv.2.2.2; have t_n55 := n55; have t_n57 := n57; have t_c58 := eqI c58; have t_c62 := neI c62; have t_c63 := neI c63; have tqz_ := qz0_; have tnb_ := nib4 tn2071_ tn2072_ tn2083_ tn2086_; have tqz_ := qz41_; omega))); have eb : (v59 + 1).toInt = v59.toInt + 1 := l1_e (by have := x1.toInt_lt; have := x1.le_toInt; (have t_c1 := neI c1; have t_c33 := eqI c33; have t_hj52 := hj52; have t_hinv := hinv.2.2.2; have t_n55 := n55; have t_n57 := n57; have t_c58 := eqI c58; have t_c62 := neI c62; have t_c63 := neI c63; have tqz_ := qz0_; have tnb_ := nib4 tn2071_ tn2072_ tn2083_ tn2086_; have tqz_ := qz41_; omega)) (by have := x1.toInt_lt; have := x1.le_toInt; (have t_c1 := neI c1; have t_c33 := eqI c33; have t_hj52 := hj52; have t_hinv := hinv.2.2.2; have t_n55 := n55; have t_n57 := n57; have t_c58 := eqI c58; have t_c62 := neI c62; have t_c63 := neI c63; have tqz_ := qz0_; have tnb_ := nib4 tn2071_ tn2072_ tn2083_ tn2086_; have tqz_ := qz41_; omega)); have g9 := (hinv.2.2.1.resolve_right (fun h9 => h9.1 (by first | with_reducible assumption | assumption))); exact tp_stop g9.2.1 g9.2.2.1 g9.2.2.2.1 g9.2.2.2.2 hlne (fa1 w61 (by first | with_reducible assumption | assumption) (by (have t_c1 := neI c1; have t_c33 := eqI c33; have t_hj52 := hj52; have t_hinv := hinv.2.2.2; have t_n55 := n55; have t_n57 := n57; have t_c58 := eqI c58; have t_c62 := neI c62; have t_c63 := neI c63; have tqz_ := qz0_; have tnb_ := nib4 tn2071_ tn2072_ tn2083_ tn2086_; have tqz_ := qz41_; omega))))⟩, (by have t_c1 := neI c1; have t_c33 := eqI c33; have t_hj52 := hj52; have t_hinv := hinv.2.2.2; have t_n55 := n55; have t_n57 := n57; have t_c58 := eqI c58; have t_c62 := neI c62; have t_c63 := neI c63; have tqz_ := qz0_; have tnb_ := nib4 tn2071_ tn2072_ tn2083_ tn2086_; have tqz_ := qz41_; omega), (by have t_c1 := neI c1; have t_c33 := eqI c33; have t_hj52 := hj52; have t_hinv := hinv.2.2.2; have t_n55 := n55; have t_n57 := n57; have t_c58 := eqI c58; have t_c62 := neI c62; have t_c63 := neI c63; have tqz_ := qz0_; have tnb_ := nib4 tn2071_ tn2072_ tn2083_ tn2086_; have tqz_ := qz41_; omega)⟩ hP hD hS ls (lv_sub hl [0, 2, 3, 4, 5, 6] rfl)
                  · skip
                    have t_c1 := neI c1
                    have t_c33 := eqI c33
                    have t_hj52 := hj52
                    have t_hinv := hinv.2.2.2
                    have t_n55 := n55
                    have t_n57 := n57
                    have t_c58 := eqI c58
                    have t_c62 := neI c62
                    have t_c63 := eqI c63
                    have : ((-1) : Int32).toInt = -1 := qI_m1
                    have : (0 : Int32).toInt = 0 := qI_0
                    have t_n0 : (nI k).toInt = (k : Int) := tn2071_ ()
                    have t_n1 : (nI nn).toInt = (nn : Int) := tn2072_ ()
                    have t_n2 : (nI j44).toInt = (j44 : Int) := tn2083_ ()
                    have t_n3 : (nI k47).toInt = (k47 : Int) := tn2086_ ()
                    exfalso; omega
                · skip
                  have b64 := fz0 w61 c62
                  refine lv_aload_n hx hb dX6_takePairs_88 rfl (lv_at hl 2 rfl) ?_
                  refine lv_aload_n hx hb dX6_takePairs_89 rfl (lv_at hl 2 rfl) ?_
                  refine lv_iload_n hx hb dX6_takePairs_90 rfl (lv_at hl 3 rfl) ?_
                  refine lv_lload hx hb dX6_takePairs_91 (lv_at hl 0 rfl) ?_
                  refine lv_lconst (v := 1) hx hb dX6_takePairs_93 (by decide) ?_
                  refine lv_ladd hx hb dX6_takePairs_94 ?_
                  have hPc := hP.sub (ws' := [(h0, .inr (6, [.ref la, .ref si, .ref ce, .int r60, .int (nI k47), .ref fi, .ref se])), (la, .inl (G 0, 4, .inl fl)), (si, .inl (G 0, 4, .inl fz))]) [0, 1, 2] rfl
                  refine va_calli (va_runV (As := [.int (nI k), .long (v59 + 1)]) (rest := [.ref h0]) ⟨hx, hb, hml, hown, hg⟩ (c_X6_faultAt l dC dI G _ h0 la si ce fi se k r60 (nI k47) (v59 + 1) fl fz hk) (kwV hg mfX6_faultAt wt_846 ⟨Nat.le_of_ble_eq_true rfl, Nat.le_of_ble_eq_true rfl⟩) (preVR hK hPc (ci := 6) (r := (RX6, TX6, 7)) rfl rfl) rfl rfl hl.1 rfl (lv_room (Nat.le_of_ble_eq_true rfl)) dX6_takePairs_95 ⟨Nat.le_of_ble_eq_true rfl, Nat.le_of_ble_eq_true rfl⟩) hS (fun q h1 h2 => absurd h2 (Nat.not_le.mpr h1)) (fun q h => hA q (Nat.le_trans hS.1 h)) (fun r65 ur65 t H1 locs ht hvm w66 hB hz1 hk1 hS => ?_)
                  have hP := keepR hP hk1
                  obtain ⟨w66, w66x⟩ := w66
                  refine va_put (D := (dC, dI)) (ci := 6) (v := .int r65) (ty := .int) (C := RX6) (T := TX6) (N := 7) hx hb hg inG6 tyX6 tyX6_ok nmX6 hown hK.1 hP hD hS 0 rfl rfl 3 (Nat.le_of_ble_eq_true rfl) (hg _ wt_279) (fun _ h9 => h9) rfl (by decide +kernel) rfl rfl (Nat.le_of_ble_eq_true rfl) dX6_takePairs_98 (fun H locs hP hD hS => ?_)
                  obtain ⟨hP, hD⟩ := va_rls (ws' := (([(h0, .inr (6, [.ref la, .ref si, .ref ce, .int r65, .int (nI k47), .ref fi, .ref se])), (la, .inl (G 0, 4, .inl fl)), (si, .inl (G 0, 4, .inl fz)), (ce, .inl (G 4, 4, .inr (.inr (.inr (.inr (fun ir => if ir < 4 then some (rc ir) else none)))))), (fi, .inl (G 0, 20, .inl g48)), (se, .inl (G 0, 20, .inl g49))] : va_W) ++ ((((List.range 4).map (fun iq => (rc iq, .inl (G 0, 40, .inl (F iq))))) : va_W) ++ []))) hP hD rfl
                  refine lv_aload_n hx hb dX6_takePairs_101 rfl (lv_at hl 2 rfl) ?_
                  refine va_get (D := (dC, dI)) (ci := 6) (v := .int r65) (C := RX6) (T := TX6) (N := 7) hx hb hg inG6 hown hK.1 hP 0 rfl rfl 3 (Nat.le_of_ble_eq_true rfl) (hg _ wt_279) (fun _ h9 => h9) rfl dX6_takePairs_102 ?_
                  refine lv_if_ne (tgt := 154) hx hb dX6_takePairs_105 rfl (fun c67 => ?_) (fun c67 => ?_)
                  · skip
                    refine lv_iinc (v := nI (j44 + 1)) (lv' := [(5, .int (nI (j44 + 1))), (6, .long v59), (0, .ref h0), (1, .int (nI k)), (2, .int lane), (3, .int x1), (4, .int (nI nn))]) hx hb dX6_takePairs_154 hl (k := 1) rfl (by rw [show Int32.ofInt 1 = nI 1 from by decide]; exact nI_add _ _) (by decide) rfl (fun ls hl => ?_)
                    refine lv_goto (tgt := 37) hx hb dX6_takePairs_157 rfl ?_
                    exact ih37_50 (j44 + 1) (by omega) (by omega) r65 k47 g48 g49 _ _ ⟨hinv.1, hinv.2.1, Or.inr ⟨by assumption, (by have ea : v59.toInt = x1.toInt + 2 * (j44 : Int) := (by rw [ev59]; exact at64 x1 (by (have t_c1 := neI c1; have t_c33 := eqI c33; have t_hj52 := hj52; have t_hinv := hinv.2.2.2; have t_n55 := n55; have t_n57 := n57; have t_c58 := eqI c58; have t_b64 := b64; have t_c67 := neI c67; have tqz_ := qz0_; have tnb_ := nib4 tn2071_ tn2072_ tn2083_ tn2086_; have tqz_ := qz41_; omega))); have eb : (v59 + 1).toInt = v59.toInt + 1 := l1_e (by have := x1.toInt_lt; have := x1.le_toInt; (have t_c1 := neI c1; have t_c33 := eqI c33; have t_hj52 := hj52; have t_hinv := hinv.2.2.2; have t_n55 := n55; have t_n57 := n57; have t_c58 := eqI c58; have t_b64 := b64; have t_c67 := neI c67; have tqz_ := qz0_; have tnb_ := nib4 tn2071_ tn2072_ tn2083_ tn2086_; have tqz_ := qz41_; omega)) (by have := x1.toInt_lt; have := x1.le_toInt; (have t_c1 := neI c1; have t_c33 := eqI c33; have t_hj52 := hj52; have t_hinv := hinv.2.2.2; have t_n55 := n55; have t_n57 := n57; have t_c58 := eqI c58; have t_b64 := b64; have t_c67 := neI c67; have tqz_ := qz0_; have tnb_ := nib4 tn2071_ tn2072_ tn2083_ tn2086_; have tqz_ := qz41_; omega)); have g9 := (hinv.2.2.1.resolve_right (fun h9 => h9.1 (by first | with_reducible assumption | assumption))); exact tp_stop g9.2.1 g9.2.2.1 g9.2.2.2.1 g9.2.2.2.2 hlne (fa1 w66 (by first | with_reducible assumption | assumption) (by (have t_c1 := neI c1; have t_c33 := eqI c33; have t_hj52 := hj52; have t_hinv := hinv.2.2.2; have t_n55 := n55; have t_n57 := n57; have t_c58 := eqI c58; have t_b64 := b64; have t_c67 := neI c67; have tqz_ := qz0_; have tnb_ := nib4 tn2071_ tn2072_ tn2083_ tn2086_; have tqz_ := qz41_; omega))))⟩, (by have t_c1 := neI c1; have t_c33 := eqI c33; have t_hj52 := hj52; have t_hinv := hinv.2.2.2; have t_n55 := n55; have t_n57 := n57; have t_c58 := eqI c58; have t_b64 := b64; have t_c67 := neI c67; have tqz_ := qz0_; have tnb_ := nib4 tn2071_ tn2072_ tn2083_ tn2086_; have tqz_ := qz41_; omega), (by have t_c1 := neI c1; have t_c33 := eqI c33; have t_hj52 := hj52; have t_hinv := hinv.2.2.2; have t_n55 := n55; have t_n57 := n57; have t_c58 := eqI c58; have t_b64 := b64; have t_c67 := neI c67; have tqz_ := qz0_; have tnb_ := nib4 tn2071_ tn2072_ tn2083_ tn2086_; have tqz_ := qz41_; omega)⟩ hP hD hS ls (lv_sub hl [0, 2, 3, 4, 5, 6] rfl)
                  · skip
                    have b68 := fz0 w66 c67
                    refine lv_aload_n hx hb dX6_takePairs_108 rfl (lv_at hl 2 rfl) ?_
                    refine va_get (D := (dC, dI)) (ci := 6) (v := .ref fi) (C := RX6) (T := TX6) (N := 7) hx hb hg inG6 hown hK.1 hP 0 rfl rfl 5 (Nat.le_of_ble_eq_true rfl) (hg _ wt_283) (fun _ h9 => h9) rfl dX6_takePairs_109 ?_
                    refine lv_iload hx hb dX6_takePairs_112 (lv_at hl 1 rfl) ?_
                    refine lv_aload_n hx hb dX6_takePairs_114 rfl (lv_at hl 2 rfl) ?_
                    refine va_get (D := (dC, dI)) (ci := 6) (v := .ref ce) (C := RX6) (T := TX6) (N := 7) hx hb hg inG6 hown hK.1 hP 0 rfl rfl 2 (Nat.le_of_ble_eq_true rfl) (hg _ wt_278) (fun _ h9 => h9) rfl dX6_takePairs_115 ?_
                    refine lv_iload_n hx hb dX6_takePairs_118 rfl (lv_at hl 3 rfl) ?_
                    refine va_aldA hx hb hK.1 hP 3 4 rfl rfl (vp_in_nI (by first | omega | (have t_c1 := neI c1; have t_c33 := eqI c33; have t_hj52 := hj52; have t_hinv := hinv.2.2.2; have t_n55 := n55; have t_n57 := n57; have t_c58 := eqI c58; have t_b64 := b64; have t_b68 := b68; have tqz_ := qz0_; have tnb_ := nib4 tn2071_ tn2072_ tn2083_ tn2086_; omega)) (by decide)) dX6_takePairs_119 ?_
                    refine lv_cgv (y := .ref (rc k)) (rowref (by first | omega | (have t_c1 := neI c1; have t_c33 := eqI c33; have t_hj52 := hj52; have t_hinv := hinv.2.2.2; have t_n55 := n55; have t_n57 := n57; have t_c58 := eqI c58; have t_b64 := b64; have t_b68 := b68; have tqz_ := qz0_; have tnb_ := nib4 tn2071_ tn2072_ tn2083_ tn2086_; omega)) (by decide)) ?_
                    refine lv_lload hx hb dX6_takePairs_120 (lv_at hl 0 rfl) ?_
                    refine lv_l2i (v := _) hx hb dX6_takePairs_122 rfl ?_
                    refine lv_topi (fun v69 ev69 => ?_)
                    have hz70 := l2i_in (x := v59) (by have t_c1 := neI c1; have t_c33 := eqI c33; have t_hj52 := hj52; have t_hinv := hinv.2.2.2; have t_n55 := n55; have t_n57 := n57; have t_c58 := eqI c58; have t_b64 := b64; have t_b68 := b68; have tqz_ := qz0_; have tnb_ := nib4 tn2071_ tn2072_ tn2083_ tn2086_; omega) (by have t_c1 := neI c1; have t_c33 := eqI c33; have t_hj52 := hj52; have t_hinv := hinv.2.2.2; have t_n55 := n55; have t_n57 := n57; have t_c58 := eqI c58; have t_b64 := b64; have t_b68 := b68; have tqz_ := qz0_; have tnb_ := nib4 tn2071_ tn2072_ tn2083_ tn2086_; omega)
                    rw [← ev69] at hz70
                    refine va_iald hx hb hK.1 (blk_P (j := k) hP (by first | omega | (have t_c1 := neI c1; have t_c33 := eqI c33; have t_hj52 := hj52; have t_hinv := hinv.2.2.2; have t_n55 := n55; have t_n57 := n57; have t_c58 := eqI c58; have t_b64 := b64; have t_b68 := b68; have t_hz70 := hz70; have tqz_ := qz0_; have tnb_ := nib4 tn2071_ tn2072_ tn2083_ tn2086_; omega))) 0 0 rfl rfl (vp_in_iff.mpr (by have t_c1 := neI c1; have t_c33 := eqI c33; have t_hj52 := hj52; have t_hinv := hinv.2.2.2; have t_n55 := n55; have t_n57 := n57; have t_c58 := eqI c58; have t_b64 := b64; have t_b68 := b68; have t_hz70 := hz70; have tqz_ := qz0_; have tnb_ := nib4 tn2071_ tn2072_ tn2083_ tn2086_; constructor <;> omega)) dX6_takePairs_123 ?_
                    refine va_iast hx hb hK.1 hP hD hS 4 0 rfl rfl (vp_in_nI (by first | omega | (have t_c1 := neI c1; have t_c33 := eqI c33; have t_hj52 := hj52; have t_hinv := hinv.2.2.2; have t_n55 := n55; have t_n57 := n57; have t_c58 := eqI c58; have t_b64 := b64; have t_b68 := b68; have t_hz70 := hz70; have tqz_ := qz0_; have tnb_ := nib4 tn2071_ tn2072_ tn2083_ tn2086_; omega)) (by decide)) dX6_takePairs_124 (fun H locs hP hD hS => ?_)
                    rw [nI_clamp (by omega)] at hP hD
                    obtain ⟨hP, hD⟩ := va_rls (ws' := (([(h0, .inr (6, [.ref la, .ref si, .ref ce, .int r65, .int (nI k47), .ref fi, .ref se])), (la, .inl (G 0, 4, .inl fl)), (si, .inl (G 0, 4, .inl fz)), (ce, .inl (G 4, 4, .inr (.inr (.inr (.inr (fun ir => if ir < 4 then some (rc ir) else none)))))), (fi, .inl (G 0, 20, .inl (upd g48 j44 (F k v69.toNatClampNeg)))), (se, .inl (G 0, 20, .inl g49))] : va_W) ++ ((((List.range 4).map (fun iq => (rc iq, .inl (G 0, 40, .inl (F iq))))) : va_W) ++ []))) hP hD rfl
                    refine lv_aload_n hx hb dX6_takePairs_125 rfl (lv_at hl 2 rfl) ?_
                    refine va_get (D := (dC, dI)) (ci := 6) (v := .ref se) (C := RX6) (T := TX6) (N := 7) hx hb hg inG6 hown hK.1 hP 0 rfl rfl 6 (Nat.le_of_ble_eq_true rfl) (hg _ wt_285) (fun _ h9 => h9) rfl dX6_takePairs_126 ?_
                    refine lv_iload hx hb dX6_takePairs_129 (lv_at hl 1 rfl) ?_
                    refine lv_aload_n hx hb dX6_takePairs_131 rfl (lv_at hl 2 rfl) ?_
                    refine va_get (D := (dC, dI)) (ci := 6) (v := .ref ce) (C := RX6) (T := TX6) (N := 7) hx hb hg inG6 hown hK.1 hP 0 rfl rfl 2 (Nat.le_of_ble_eq_true rfl) (hg _ wt_278) (fun _ h9 => h9) rfl dX6_takePairs_132 ?_
                    refine lv_iload_n hx hb dX6_takePairs_135 rfl (lv_at hl 3 rfl) ?_
                    refine va_aldA hx hb hK.1 hP 3 4 rfl rfl (vp_in_nI (by first | omega | (have t_c1 := neI c1; have t_c33 := eqI c33; have t_hj52 := hj52; have t_hinv := hinv.2.2.2; have t_n55 := n55; have t_n57 := n57; have t_c58 := eqI c58; have t_b64 := b64; have t_b68 := b68; have t_hz70 := hz70; have tqz_ := qz0_; have tnb_ := nib4 tn2071_ tn2072_ tn2083_ tn2086_; omega)) (by decide)) dX6_takePairs_136 ?_
                    refine lv_cgv (y := .ref (rc k)) (rowref (by first | omega | (have t_c1 := neI c1; have t_c33 := eqI c33; have t_hj52 := hj52; have t_hinv := hinv.2.2.2; have t_n55 := n55; have t_n57 := n57; have t_c58 := eqI c58; have t_b64 := b64; have t_b68 := b68; have t_hz70 := hz70; have tqz_ := qz0_; have tnb_ := nib4 tn2071_ tn2072_ tn2083_ tn2086_; omega)) (by decide)) ?_
                    refine lv_lload hx hb dX6_takePairs_137 (lv_at hl 0 rfl) ?_
                    refine lv_l2i (v := _) hx hb dX6_takePairs_139 rfl ?_
                    refine lv_topi (fun v71 ev71 => ?_)
                    have hz72 := l2i_in (x := v59) (by have t_c1 := neI c1; have t_c33 := eqI c33; have t_hj52 := hj52; have t_hinv := hinv.2.2.2; have t_n55 := n55; have t_n57 := n57; have t_c58 := eqI c58; have t_b64 := b64; have t_b68 := b68; have t_hz70 := hz70; have tqz_ := qz0_; have tnb_ := nib4 tn2071_ tn2072_ tn2083_ tn2086_; omega) (by have t_c1 := neI c1; have t_c33 := eqI c33; have t_hj52 := hj52; have t_hinv := hinv.2.2.2; have t_n55 := n55; have t_n57 := n57; have t_c58 := eqI c58; have t_b64 := b64; have t_b68 := b68; have t_hz70 := hz70; have tqz_ := qz0_; have tnb_ := nib4 tn2071_ tn2072_ tn2083_ tn2086_; omega)
                    rw [← ev71] at hz72
                    refine lv_iconst (v := 1) hx hb dX6_takePairs_140 rfl ?_
                    refine lv_iadd hx hb dX6_takePairs_141 ?_
                    have hi73 : (v71 + 1).toInt = v71.toInt + 1 := i1_in (by have t_c1 := neI c1; have t_c33 := eqI c33; have t_hj52 := hj52; have t_hinv := hinv.2.2.2; have t_n55 := n55; have t_n57 := n57; have t_c58 := eqI c58; have t_b64 := b64; have t_b68 := b68; have t_hz70 := hz70; have t_hz72 := hz72; have tqz_ := qz0_; have tnb_ := nib4 tn2071_ tn2072_ tn2083_ tn2086_; omega) (by have t_c1 := neI c1; have t_c33 := eqI c33; have t_hj52 := hj52; have t_hinv := hinv.2.2.2; have t_n55 := n55; have t_n57 := n57; have t_c58 := eqI c58; have t_b64 := b64; have t_b68 := b68; have t_hz70 := hz70; have t_hz72 := hz72; have tqz_ := qz0_; have tnb_ := nib4 tn2071_ tn2072_ tn2083_ tn2086_; omega)
                    have hl74 := l1_in (x := v59) (by have t_c1 := neI c1; have t_c33 := eqI c33; have t_hj52 := hj52; have t_hinv := hinv.2.2.2; have t_n55 := n55; have t_n57 := n57; have t_c58 := eqI c58; have t_b64 := b64; have t_b68 := b68; have t_hz70 := hz70; have t_hz72 := hz72; have tqz_ := qz0_; have tnb_ := nib4 tn2071_ tn2072_ tn2083_ tn2086_; omega) (by have t_c1 := neI c1; have t_c33 := eqI c33; have t_hj52 := hj52; have t_hinv := hinv.2.2.2; have t_n55 := n55; have t_n57 := n57; have t_c58 := eqI c58; have t_b64 := b64; have t_b68 := b68; have t_hz70 := hz70; have t_hz72 := hz72; have tqz_ := qz0_; have tnb_ := nib4 tn2071_ tn2072_ tn2083_ tn2086_; omega) (show (v59 + 1).toInt < (fz k).toInt by have t_c1 := neI c1; have t_c33 := eqI c33; have t_hj52 := hj52; have t_hinv := hinv.2.2.2; have t_n55 := n55; have t_n57 := n57; have t_c58 := eqI c58; have t_b64 := b64; have t_b68 := b68; have t_hz70 := hz70; have t_hz72 := hz72; have tqz_ := qz0_; have tnb_ := nib4 tn2071_ tn2072_ tn2083_ tn2086_; omega)
                    refine va_iald hx hb hK.1 (blk_P (j := k) hP (by first | omega | (have t_c1 := neI c1; have t_c33 := eqI c33; have t_hj52 := hj52; have t_hinv := hinv.2.2.2; have t_n55 := n55; have t_n57 := n57; have t_c58 := eqI c58; have t_b64 := b64; have t_b68 := b68; have t_hz70 := hz70; have t_hz72 := hz72; have t_hi73 := hi73; have t_hl74 := hl74; have tqz_ := qz0_; have tnb_ := nib4 tn2071_ tn2072_ tn2083_ tn2086_; omega))) 0 0 rfl rfl (vp_in_iff.mpr (by have t_c1 := neI c1; have t_c33 := eqI c33; have t_hj52 := hj52; have t_hinv := hinv.2.2.2; have t_n55 := n55; have t_n57 := n57; have t_c58 := eqI c58; have t_b64 := b64; have t_b68 := b68; have t_hz70 := hz70; have t_hz72 := hz72; have t_hi73 := hi73; have t_hl74 := hl74; have tqz_ := qz0_; have tnb_ := nib4 tn2071_ tn2072_ tn2083_ tn2086_; constructor <;> omega)) dX6_takePairs_142 ?_
                    refine va_iast hx hb hK.1 hP hD hS 5 0 rfl rfl (vp_in_nI (by first | omega | (have t_c1 := neI c1; have t_c33 := eqI c33; have t_hj52 := hj52; have t_hinv := hinv.2.2.2; have t_n55 := n55; have t_n57 := n57; have t_c58 := eqI c58; have t_b64 := b64; have t_b68 := b68; have t_hz70 := hz70; have t_hz72 := hz72; have t_hi73 := hi73; have t_hl74 := hl74; have tqz_ := qz0_; have tnb_ := nib4 tn2071_ tn2072_ tn2083_ tn2086_; omega)) (by decide)) dX6_takePairs_143 (fun H locs hP hD hS => ?_)
                    rw [nI_clamp (by omega)] at hP hD
                    obtain ⟨hP, hD⟩ := va_rls (ws' := (([(h0, .inr (6, [.ref la, .ref si, .ref ce, .int r65, .int (nI k47), .ref fi, .ref se])), (la, .inl (G 0, 4, .inl fl)), (si, .inl (G 0, 4, .inl fz)), (ce, .inl (G 4, 4, .inr (.inr (.inr (.inr (fun ir => if ir < 4 then some (rc ir) else none)))))), (fi, .inl (G 0, 20, .inl (upd g48 j44 (F k v69.toNatClampNeg)))), (se, .inl (G 0, 20, .inl (upd g49 j44 (F k (v71 + 1).toNatClampNeg))))] : va_W) ++ ((((List.range 4).map (fun iq => (rc iq, .inl (G 0, 40, .inl (F iq))))) : va_W) ++ []))) hP hD rfl
                    refine lv_aload_n hx hb dX6_takePairs_144 rfl (lv_at hl 2 rfl) ?_
                    refine lv_dup hx hb dX6_takePairs_145 rfl ?_
                    refine va_get (D := (dC, dI)) (ci := 6) (v := .int (nI k47)) (C := RX6) (T := TX6) (N := 7) hx hb hg inG6 hown hK.1 hP 0 rfl rfl 4 (Nat.le_of_ble_eq_true rfl) (hg _ wt_281) (fun _ h9 => h9) rfl dX6_takePairs_146 ?_
                    refine lv_iconst (v := 1) hx hb dX6_takePairs_149 rfl ?_
                    refine lv_iadd hx hb dX6_takePairs_150 ?_
                    refine lv_cg (y := nI (k47 + 1)) (by rw [show (1 : Int32) = nI 1 from rfl]; exact nI_add _ _) ?_
                    refine va_put (D := (dC, dI)) (ci := 6) (v := .int (nI (k47 + 1))) (ty := .int) (C := RX6) (T := TX6) (N := 7) hx hb hg inG6 tyX6 tyX6_ok nmX6 hown hK.1 hP hD hS 0 rfl rfl 4 (Nat.le_of_ble_eq_true rfl) (hg _ wt_281) (fun _ h9 => h9) rfl (by decide +kernel) rfl rfl (Nat.le_of_ble_eq_true rfl) dX6_takePairs_151 (fun H locs hP hD hS => ?_)
                    obtain ⟨hP, hD⟩ := va_rls (ws' := (([(h0, .inr (6, [.ref la, .ref si, .ref ce, .int r65, .int (nI (k47 + 1)), .ref fi, .ref se])), (la, .inl (G 0, 4, .inl fl)), (si, .inl (G 0, 4, .inl fz)), (ce, .inl (G 4, 4, .inr (.inr (.inr (.inr (fun ir => if ir < 4 then some (rc ir) else none)))))), (fi, .inl (G 0, 20, .inl (upd g48 j44 (F k v69.toNatClampNeg)))), (se, .inl (G 0, 20, .inl (upd g49 j44 (F k (v71 + 1).toNatClampNeg))))] : va_W) ++ ((((List.range 4).map (fun iq => (rc iq, .inl (G 0, 40, .inl (F iq))))) : va_W) ++ []))) hP hD rfl
                    refine lv_iinc (v := nI (j44 + 1)) (lv' := [(5, .int (nI (j44 + 1))), (6, .long v59), (0, .ref h0), (1, .int (nI k)), (2, .int lane), (3, .int x1), (4, .int (nI nn))]) hx hb dX6_takePairs_154 hl (k := 1) rfl (by rw [show Int32.ofInt 1 = nI 1 from by decide]; exact nI_add _ _) (by decide) rfl (fun ls hl => ?_)
                    refine lv_goto (tgt := 37) hx hb dX6_takePairs_157 rfl ?_
                    exact ih37_50 (j44 + 1) (by omega) (by omega) r65 (k47 + 1) (upd g48 j44 (F k v69.toNatClampNeg)) (upd g49 j44 (F k (v71 + 1).toNatClampNeg)) _ _ (by have ea : v59.toInt = x1.toInt + 2 * (j44 : Int) := (by rw [ev59]; exact at64 x1 (by (have t_c1 := neI c1; have t_c33 := eqI c33; have t_hj52 := hj52; have t_hinv := hinv.2.2.2; have t_n55 := n55; have t_n57 := n57; have t_c58 := eqI c58; have t_b64 := b64; have t_b68 := b68; have t_hz70 := hz70; have t_hz72 := hz72; have t_hi73 := hi73; have t_hl74 := hl74; have tqz_ := qz0_; have tnb_ := nib4 tn2071_ tn2072_ tn2083_ tn2086_; have tqz_ := qz41_; omega))); have eb : (v59 + 1).toInt = v59.toInt + 1 := l1_e (by have := x1.toInt_lt; have := x1.le_toInt; (have t_c1 := neI c1; have t_c33 := eqI c33; have t_hj52 := hj52; have t_hinv := hinv.2.2.2; have t_n55 := n55; have t_n57 := n57; have t_c58 := eqI c58; have t_b64 := b64; have t_b68 := b68; have t_hz70 := hz70; have t_hz72 := hz72; have t_hi73 := hi73; have t_hl74 := hl74; have tqz_ := qz0_; have tnb_ := nib4 tn2071_ tn2072_ tn2083_ tn2086_; have tqz_ := qz41_; omega)) (by have := x1.toInt_lt; have := x1.le_toInt; (have t_c1 := neI c1; have t_c33 := eqI c33; have t_hj52 := hj52; have t_hinv := hinv.2.2.2; have t_n55 := n55; have t_n57 := n57; have t_c58 := eqI c58; have t_b64 := b64; have t_b68 := b68; have t_hz70 := hz70; have t_hz72 := hz72; have t_hi73 := hi73; have t_hl74 := hl74; have tqz_ := qz0_; have tnb_ := nib4 tn2071_ tn2072_ tn2083_ tn2086_; have tqz_ := qz41_; omega)); have g9 := (hinv.2.2.1.resolve_right (fun h9 => h9.1 (by first | with_reducible assumption | assumption))); have g8 := g9.2.1; refine ⟨?_, ?_, Or.inl ⟨by assumption, by (have t_c1 := neI c1; have t_c33 := eqI c33; have t_hj52 := hj52; have t_hinv := hinv.2.2.2; have t_n55 := n55; have t_n57 := n57; have t_c58 := eqI c58; have t_b64 := b64; have t_b68 := b68; have t_hz70 := hz70; have t_hz72 := hz72; have t_hi73 := hi73; have t_hl74 := hl74; have tqz_ := qz0_; have tnb_ := nib4 tn2071_ tn2072_ tn2083_ tn2086_; have tqz_ := qz41_; omega), fun h9 => absurd h9 (tp_ne w66 (by first | with_reducible assumption | assumption)), g9.2.2.2.1, ?_⟩, by (have t_c1 := neI c1; have t_c33 := eqI c33; have t_hj52 := hj52; have t_hinv := hinv.2.2.2; have t_n55 := n55; have t_n57 := n57; have t_c58 := eqI c58; have t_b64 := b64; have t_b68 := b68; have t_hz70 := hz70; have t_hz72 := hz72; have t_hi73 := hi73; have t_hl74 := hl74; have tqz_ := qz0_; have tnb_ := nib4 tn2071_ tn2072_ tn2083_ tn2086_; have tqz_ := qz41_; omega), by (have t_c1 := neI c1; have t_c33 := eqI c33; have t_hj52 := hj52; have t_hinv := hinv.2.2.2; have t_n55 := n55; have t_n57 := n57; have t_c58 := eqI c58; have t_b64 := b64; have t_b68 := b68; have t_hz70 := hz70; have t_hz72 := hz72; have t_hi73 := hi73; have t_hl74 := hl74; have tqz_ := qz0_; have tnb_ := nib4 tn2071_ tn2072_ tn2083_ tn2086_; have tqz_ := qz41_; omega)⟩; (have q1 := tp_put (F := F) (k := k) (c := 0) (x := v69) (fun q9 h9 => hinv.1 q9 (by (have t_c1 := neI c1; have t_c33 := eqI c33; have t_hj52 := hj52; have t_hinv := hinv.2.2.2; have t_n55 := n55; have t_n57 := n57; have t_c58 := eqI c58; have t_b64 := b64; have t_b68 := b68; have t_hz70 := hz70; have t_hz72 := hz72; have t_hi73 := hi73; have t_hl74 := hl74; have tqz_ := qz0_; have tnb_ := nib4 tn2071_ tn2072_ tn2083_ tn2086_; have tqz_ := qz41_; omega))) (show _ = x1.toInt + 2 * (j44 : Int) + 0 by (have t_c1 := neI c1; have t_c33 := eqI c33; have t_hj52 := hj52; have t_hinv := hinv.2.2.2; have t_n55 := n55; have t_n57 := n57; have t_c58 := eqI c58; have t_b64 := b64; have t_b68 := b68; have t_hz70 := hz70; have t_hz72 := hz72; have t_hi73 := hi73; have t_hl74 := hl74; have tqz_ := qz0_; have tnb_ := nib4 tn2071_ tn2072_ tn2083_ tn2086_; have tqz_ := qz41_; omega)); exact fun q9 h9 => q1 q9 (by (have t_c1 := neI c1; have t_c33 := eqI c33; have t_hj52 := hj52; have t_hinv := hinv.2.2.2; have t_n55 := n55; have t_n57 := n57; have t_c58 := eqI c58; have t_b64 := b64; have t_b68 := b68; have t_hz70 := hz70; have t_hz72 := hz72; have t_hi73 := hi73; have t_hl74 := hl74; have tqz_ := qz0_; have tnb_ := nib4 tn2071_ tn2072_ tn2083_ tn2086_; have tqz_ := qz41_; omega))); (have q1 := tp_put (F := F) (k := k) (c := 1) (x := (v71 + 1)) (fun q9 h9 => hinv.2.1 q9 (by (have t_c1 := neI c1; have t_c33 := eqI c33; have t_hj52 := hj52; have t_hinv := hinv.2.2.2; have t_n55 := n55; have t_n57 := n57; have t_c58 := eqI c58; have t_b64 := b64; have t_b68 := b68; have t_hz70 := hz70; have t_hz72 := hz72; have t_hi73 := hi73; have t_hl74 := hl74; have tqz_ := qz0_; have tnb_ := nib4 tn2071_ tn2072_ tn2083_ tn2086_; have tqz_ := qz41_; omega))) (show _ = x1.toInt + 2 * (j44 : Int) + 1 by (have t_c1 := neI c1; have t_c33 := eqI c33; have t_hj52 := hj52; have t_hinv := hinv.2.2.2; have t_n55 := n55; have t_n57 := n57; have t_c58 := eqI c58; have t_b64 := b64; have t_b68 := b68; have t_hz70 := hz70; have t_hz72 := hz72; have t_hi73 := hi73; have t_hl74 := hl74; have tqz_ := qz0_; have tnb_ := nib4 tn2071_ tn2072_ tn2083_ tn2086_; have tqz_ := qz41_; omega)); exact fun q9 h9 => q1 q9 (by (have t_c1 := neI c1; have t_c33 := eqI c33; have t_hj52 := hj52; have t_hinv := hinv.2.2.2; have t_n55 := n55; have t_n57 := n57; have t_c58 := eqI c58; have t_b64 := b64; have t_b68 := b68; have t_hz70 := hz70; have t_hz72 := hz72; have t_hi73 := hi73; have t_hl74 := hl74; have tqz_ := qz0_; have tnb_ := nib4 tn2071_ tn2072_ tn2083_ tn2086_; have tqz_ := qz41_; omega))); (rw [← tpM_go (by (have t_c1 := neI c1; have t_c33 := eqI c33; have t_hj52 := hj52; have t_hinv := hinv.2.2.2; have t_n55 := n55; have t_n57 := n57; have t_c58 := eqI c58; have t_b64 := b64; have t_b68 := b68; have t_hz70 := hz70; have t_hz72 := hz72; have t_hi73 := hi73; have t_hl74 := hl74; have tqz_ := qz0_; have tnb_ := nib4 tn2071_ tn2072_ tn2083_ tn2086_; have tqz_ := qz41_; omega)) (by (have t_c1 := neI c1; have t_c33 := eqI c33; have t_hj52 := hj52; have t_hinv := hinv.2.2.2; have t_n55 := n55; have t_n57 := n57; have t_c58 := eqI c58; have t_b64 := b64; have t_b68 := b68; have t_hz70 := hz70; have t_hz72 := hz72; have t_hi73 := hi73; have t_hl74 := hl74; have tqz_ := qz0_; have tnb_ := nib4 tn2071_ tn2072_ tn2083_ tn2086_; have tqz_ := qz41_; omega))]; exact g9.2.2.2.2)) hP hD hS ls (lv_sub hl [0, 2, 3, 4, 5, 6] rfl)
      exact loop37_50 (20 + 1) 0 (by omega) (by omega) 0 0 f1 f2 _ _ ⟨fun q9 h9 => absurd h9 (Nat.not_lt_zero _), fun q9 h9 => absurd h9 (Nat.not_lt_zero _), Or.inl ⟨rfl, rfl, fun _ => rfl, (by first | exact fun _ => (by first | with_reducible assumption | assumption) | exact fun h9 => absurd (by first | with_reducible assumption | assumption) h9), rfl⟩, Nat.zero_le _, Nat.zero_le _⟩ hP hD hS ls (lv_sub hl [0, 1, 2, 3, 4, 5] rfl)

set_option maxHeartbeats 1000000 in
set_option maxRecDepth 100000 in
theorem c_X10_putE (l : Launch) (dC : Nat → ClassId) (dI : Nat → Nat → Nat) (G : Nat → ClassId) (sz : Nat) (h0 rd wy tr im kp od ch cr le mk tl sh a1 a2 a3 a4 a5 a6 N B D : Nat) (tf rf i k : Int32) (f3 : Nat → Int32) (hN_N : N ≤ 10) (hB_B : B ≤ 6) (hD_D : 1 ≤ D ∧ D ≤ 9) : Met l yX10_put (Cond.code yX10_put cX10_put 4 (some .int) :: GT) ({ frames := 1, cells := 0, slots := 0, locals := 21 } : Room) (PcW [.ref h0, .int i, .int k] dC dI G [(h0, .inr (10, [.ref rd, .ref wy, .ref tr, .ref im, .ref kp, .ref od, .ref ch, .ref cr, .ref le, .ref mk, .ref tl, .ref sh, .int tf, .int rf])), (wy, .inr (9, [.int (nI N), .int (nI B), .int (nI D), .ref a1, .ref a2, .ref a3, .ref a4, .ref a5, .ref a6])), (a3, .inl (G 0, 10, .inl f3))] sz) (va_Qi (fun (r : Int32) (u : (Nat → Int32)) => match u with | u0 => (r = if ((0 ≤ i.toInt ∧ i.toInt < ((N : Nat) : Int)) ∧ (0 ≤ k.toInt ∧ k.toInt < ((B : Nat) : Int))) then f3 i.toNatClampNeg else -1) ∧ u0 = (if ((0 ≤ i.toInt ∧ i.toInt < ((N : Nat) : Int)) ∧ (0 ≤ k.toInt ∧ k.toInt < ((B : Nat) : Int))) then upd f3 i.toNatClampNeg k else f3)) (fun (u : (Nat → Int32)) (t : State) => match u with | u0 => va_P (dC, dI) vwCl [(h0, .inr (10, [.ref rd, .ref wy, .ref tr, .ref im, .ref kp, .ref od, .ref ch, .ref cr, .ref le, .ref mk, .ref tl, .ref sh, .int tf, .int rf])), (wy, .inr (9, [.int (nI N), .int (nI B), .int (nI D), .ref a1, .ref a2, .ref a3, .ref a4, .ref a5, .ref a6])), (a3, .inl (G 0, 10, .inl u0))] t.heap ∧ va_D (va_A [(h0, .inr (10, [.ref rd, .ref wy, .ref tr, .ref im, .ref kp, .ref od, .ref ch, .ref cr, .ref le, .ref mk, .ref tl, .ref sh, .int tf, .int rf])), (wy, .inr (9, [.int (nI N), .int (nI B), .int (nI D), .ref a1, .ref a2, .ref a3, .ref a4, .ref a5, .ref a6])), (a3, .inl (G 0, 10, .inl f3))] sz) [(h0, .inr (10, [.ref rd, .ref wy, .ref tr, .ref im, .ref kp, .ref od, .ref ch, .ref cr, .ref le, .ref mk, .ref tl, .ref sh, .int tf, .int rf])), (wy, .inr (9, [.int (nI N), .int (nI B), .int (nI D), .ref a1, .ref a2, .ref a3, .ref a4, .ref a5, .ref a6])), (a3, .inl (G 0, 10, .inl u0))]) (va_A [(h0, .inr (10, [.ref rd, .ref wy, .ref tr, .ref im, .ref kp, .ref od, .ref ch, .ref cr, .ref le, .ref mk, .ref tl, .ref sh, .int tf, .int rf])), (wy, .inr (9, [.int (nI N), .int (nI B), .int (nI D), .ref a1, .ref a2, .ref a3, .ref a4, .ref a5, .ref a6])), (a3, .inl (G 0, 10, .inl f3))] sz)) 0 0 (va_A [(h0, .inr (10, [.ref rd, .ref wy, .ref tr, .ref im, .ref kp, .ref od, .ref ch, .ref cr, .ref le, .ref mk, .ref tl, .ref sh, .int tf, .int rf])), (wy, .inr (9, [.int (nI N), .int (nI B), .int (nI D), .ref a1, .ref a2, .ref a3, .ref a4, .ref a5, .ref a6])), (a3, .inl (G 0, 10, .inl f3))] sz) := by
  have tn2090_ : nIT N := fun _ => nI_toInt (by omega)
  have tn2091_ : nIT B := fun _ => nI_toInt (by omega)
  have tn2092_ : nIT D := fun _ => nI_toInt (by omega)
  refine Met.ofW (cc := cX10_put) (maxL := 4) (ret := (some .int)) (by decide) rfl ?_
  intro p e s m args below meth c s₁ Bd hml hv
  obtain ⟨rfl, hsz, hP, hK, hD0⟩ := hv
  have hx := Bd.exec
  have hb := Bd.bytes
  have hr := Bd.returns
  have hg : ∀ w ∈ GT, w.before ([.ref h0, .int i, .int k] : List Value).toArray s = true := fun w h => atoms_spec (ws := Cond.code yX10_put cX10_put 4 (some .int) :: GT) Bd.pre w (List.mem_cons_of_mem _ h)
  have hown : s.vm.findClass RX10 = some m.cls := findClass_of_methodNamed Bd.named
  have hlocks := Bd.notSynchronized
  subst hsz
  have hD := hD0.self (sz := s.heap.size)
  generalize hAe : va_A [(h0, .inr (10, [.ref rd, .ref wy, .ref tr, .ref im, .ref kp, .ref od, .ref ch, .ref cr, .ref le, .ref mk, .ref tl, .ref sh, .int tf, .int rf])), (wy, .inr (9, [.int (nI N), .int (nI B), .int (nI D), .ref a1, .ref a2, .ref a3, .ref a4, .ref a5, .ref a6])), (a3, .inl (G 0, 10, .inl f3))] s.heap.size = A at hD ⊢
  have hA : ∀ q : Nat, s.heap.size ≤ q → A q := fun q h => by rw [← hAe]; exact Or.inr h
  have hS : va_S A s.heap s.heap [] := va_S.rf
  have hl := lv_entry ([.ref h0, .int i, .int k]) (n := 4) (Nat.le_of_ble_eq_true rfl)
  rw [lg_entry_eq]
  generalize (lg_sl ([.ref h0, .int i, .int k]) ++ List.replicate (4 - (lg_sl ([.ref h0, .int i, .int k])).length) Slot.unset).toArray = ls at hl ⊢
  have hl : lv_has ls 4 [(0, .ref h0), (1, .int i), (2, .int k)] := hl
  refine lv_aload_n hx hb dX10_put_0 rfl (lv_at hl 0 rfl) ?_
  refine va_get (D := (dC, dI)) (ci := 10) (v := .ref wy) (C := RX10) (T := TX10) (N := 14) hx hb hg inG10 hown hK.1 hP 0 rfl rfl 1 (Nat.le_of_ble_eq_true rfl) (hg _ wt_303) (fun _ h9 => h9) rfl dX10_put_1 ?_
  refine lv_iload_n hx hb dX10_put_4 rfl (lv_at hl 1 rfl) ?_
  have hPc := hP.sub (ws' := [(wy, .inr (9, [.int (nI N), .int (nI B), .int (nI D), .ref a1, .ref a2, .ref a3, .ref a4, .ref a5, .ref a6]))]) [1] rfl
  refine va_calli (va_runVN (As := [.int i]) (rest := []) ⟨hx, hb, hml, hown, hg⟩ (c_X9_hasStretch l dC dI G _ wy a1 a2 a3 a4 a5 a6 N B D i hN_N hB_B hD_D) (kwVN hg hK mfX9_hasStretch wn_527 ⟨Nat.le_of_ble_eq_true rfl, Nat.le_of_ble_eq_true rfl⟩) (preVR hK hPc (ci := 9) (r := (RX9, TX9, 9)) rfl rfl) rfl rfl hl.1 rfl (lv_room (Nat.le_of_ble_eq_true rfl)) dX10_put_5 ⟨Nat.le_of_ble_eq_true rfl, Nat.le_of_ble_eq_true rfl⟩) hS (fun q h1 h2 => absurd h2 (Nat.not_le.mpr h1)) (fun q h => hA q (Nat.le_trans hS.1 h)) (fun r1 ur1 t H1 locs ht hvm w2 hB hz1 hk1 hS => ?_)
  have hP := keepR hP hk1
  obtain ⟨w2, w2x⟩ := w2
  try simp only [l_ii, show (0 : Int32).toInt = 0 from by decide] at w2
  try rw [show (nI (N)).toInt = ((N : Nat) : Int) from tn2090_ ()] at w2
  subst w2
  refine lv_if_eq (tgt := 22) hx hb dX10_put_8 rfl (fun c3 => ?_) (fun c3 => ?_)
  · skip
    have b4 := if10_n c3
    refine lv_iconst (v := (-1)) hx hb dX10_put_22 rfl ?_
    have hpost : ((-1) : Int32) = if ((0 ≤ i.toInt ∧ i.toInt < ((N : Nat) : Int)) ∧ (0 ≤ k.toInt ∧ k.toInt < ((B : Nat) : Int))) then f3 i.toNatClampNeg else -1 := by
      have t_b4 := b4
      have t_n0 : (nI N).toInt = (N : Int) := tn2090_ ()
      have t_n1 : (nI B).toInt = (B : Int) := tn2091_ ()
      have t_n2 : (nI D).toInt = (D : Int) := tn2092_ ()
      have z0 : (0 : Int32).toInt = 0 := qI_0
      have z1 : (1 : Int32).toInt = 1 := qI_1
      have z2 : (2 : Int32).toInt = 2 := qI_2
      have z3 : (3 : Int32).toInt = 3 := qI_3
      have z5 : (5 : Int32).toInt = 5 := qI_5
      have z9 : (9 : Int32).toInt = 9 := qI_9
      have z20 : (20 : Int32).toInt = 20 := qI_20
      have z4 : (-4 : Int32).toInt = -4 := (by decide)
      have z10 : (10 : Int32).toInt = 10 := qI_10
      first | (rw [if_neg (by omega)]; done) | (rw [if_pos (by omega)]; done)
    obtain ⟨hP9, hD9⟩ := va_sub2 (ws' := [(h0, .inr (10, [.ref rd, .ref wy, .ref tr, .ref im, .ref kp, .ref od, .ref ch, .ref cr, .ref le, .ref mk, .ref tl, .ref sh, .int tf, .int rf])), (wy, .inr (9, [.int (nI N), .int (nI B), .int (nI D), .ref a1, .ref a2, .ref a3, .ref a4, .ref a5, .ref a6])), (a3, .inl (G 0, 10, .inl f3))]) hP hD [0, 1, 2] (by decide +kernel) rfl
    refine W.widen (k := 0) (n := 0) (Nat.le_of_ble_eq_true rfl) (Nat.le_of_ble_eq_true rfl) ?_
    exact W.iret (v := (-1)) hx hb hr (fun t ht hW => ⟨⟨(-1), f3, rfl, ⟨hpost, (by have t_b4 := b4; have tnb_ := nib3 tn2090_ tn2091_ tn2092_; have tqz_ := qz46_; have z4 : (-4 : Int32).toInt = -4 := (by decide); have z10 : (10 : Int32).toInt = 10 := qI_10; first | (rw [if_neg (by omega)]; done) | (rw [if_pos (by omega)]; done))⟩, ⟨by rw [ht]; exact hP9, hD9⟩⟩, hS.F ht⟩) hS.2.2 dX10_put_23
  · skip
    have b5 := if10_p c3
    refine lv_aload_n hx hb dX10_put_11 rfl (lv_at hl 0 rfl) ?_
    refine va_get (D := (dC, dI)) (ci := 10) (v := .ref wy) (C := RX10) (T := TX10) (N := 14) hx hb hg inG10 hown hK.1 hP 0 rfl rfl 1 (Nat.le_of_ble_eq_true rfl) (hg _ wt_303) (fun _ h9 => h9) rfl dX10_put_12 ?_
    refine lv_iload_n hx hb dX10_put_15 rfl (lv_at hl 2 rfl) ?_
    have hPc := hP.sub (ws' := [(wy, .inr (9, [.int (nI N), .int (nI B), .int (nI D), .ref a1, .ref a2, .ref a3, .ref a4, .ref a5, .ref a6]))]) [1] rfl
    refine va_calli (va_runVN (As := [.int k]) (rest := []) ⟨hx, hb, hml, hown, hg⟩ (c_X9_hasBearer l dC dI G _ wy a1 a2 a3 a4 a5 a6 N B D k hN_N hB_B hD_D) (kwVN hg hK mfX9_hasBearer wn_535 ⟨Nat.le_of_ble_eq_true rfl, Nat.le_of_ble_eq_true rfl⟩) (preVR hK hPc (ci := 9) (r := (RX9, TX9, 9)) rfl rfl) rfl rfl hl.1 rfl (lv_room (Nat.le_of_ble_eq_true rfl)) dX10_put_16 ⟨Nat.le_of_ble_eq_true rfl, Nat.le_of_ble_eq_true rfl⟩) hS (fun q h1 h2 => absurd h2 (Nat.not_le.mpr h1)) (fun q h => hA q (Nat.le_trans hS.1 h)) (fun r6 ur6 t H1 locs ht hvm w7 hB hz1 hk1 hS => ?_)
    have hP := keepR hP hk1
    obtain ⟨w7, w7x⟩ := w7
    try simp only [l_ii, show (0 : Int32).toInt = 0 from by decide] at w7
    try rw [show (nI (B)).toInt = ((B : Nat) : Int) from tn2091_ ()] at w7
    subst w7
    refine lv_if_ne (tgt := 24) hx hb dX10_put_19 rfl (fun c8 => ?_) (fun c8 => ?_)
    · skip
      have b9 := if10_p c8
      refine lv_aload_n hx hb dX10_put_24 rfl (lv_at hl 0 rfl) ?_
      refine va_get (D := (dC, dI)) (ci := 10) (v := .ref wy) (C := RX10) (T := TX10) (N := 14) hx hb hg inG10 hown hK.1 hP 0 rfl rfl 1 (Nat.le_of_ble_eq_true rfl) (hg _ wt_303) (fun _ h9 => h9) rfl dX10_put_25 ?_
      refine va_getN (D := (dC, dI)) (ci := 9) (v := .ref a3) (C := RX9) (T := TX9) (N := 9) hx hb hg inG9 hown hK.1 hP 1 rfl rfl 5 (Nat.le_of_ble_eq_true rfl) (hK.nest wn_78) (fun _ h9 => h9) rfl dX10_put_28 ?_
      refine lv_iload_n hx hb dX10_put_31 rfl (lv_at hl 1 rfl) ?_
      refine va_iald hx hb hK.1 hP 2 0 rfl rfl (vp_in_iff.mpr (by have t_b5 := b5; have t_b9 := b9; have tnb_ := nib3 tn2090_ tn2091_ tn2092_; constructor <;> omega)) dX10_put_32 ?_
      refine lv_istore_n (lv' := [(3, .int (f3 i.toNatClampNeg)), (0, .ref h0), (1, .int i), (2, .int k)]) hx hb dX10_put_33 rfl hl (by decide) rfl (fun ls hl => ?_)
      refine lv_aload_n hx hb dX10_put_34 rfl (lv_at hl 1 rfl) ?_
      refine va_get (D := (dC, dI)) (ci := 10) (v := .ref wy) (C := RX10) (T := TX10) (N := 14) hx hb hg inG10 hown hK.1 hP 0 rfl rfl 1 (Nat.le_of_ble_eq_true rfl) (hg _ wt_303) (fun _ h9 => h9) rfl dX10_put_35 ?_
      refine va_getN (D := (dC, dI)) (ci := 9) (v := .ref a3) (C := RX9) (T := TX9) (N := 9) hx hb hg inG9 hown hK.1 hP 1 rfl rfl 5 (Nat.le_of_ble_eq_true rfl) (hK.nest wn_78) (fun _ h9 => h9) rfl dX10_put_38 ?_
      refine lv_iload_n hx hb dX10_put_41 rfl (lv_at hl 2 rfl) ?_
      refine lv_iload_n hx hb dX10_put_42 rfl (lv_at hl 3 rfl) ?_
      refine va_iast hx hb hK.1 hP hD hS 2 0 rfl rfl (vp_in_iff.mpr (by have t_b5 := b5; have t_b9 := b9; have tnb_ := nib3 tn2090_ tn2091_ tn2092_; constructor <;> omega)) dX10_put_43 (fun H locs hP hD hS => ?_)
      refine lv_iload_n hx hb dX10_put_44 rfl (lv_at hl 0 rfl) ?_
      have hpost : (f3 i.toNatClampNeg : Int32) = if ((0 ≤ i.toInt ∧ i.toInt < ((N : Nat) : Int)) ∧ (0 ≤ k.toInt ∧ k.toInt < ((B : Nat) : Int))) then f3 i.toNatClampNeg else -1 := by
        have t_b5 := b5
        have t_b9 := b9
        have t_n0 : (nI N).toInt = (N : Int) := tn2090_ ()
        have t_n1 : (nI B).toInt = (B : Int) := tn2091_ ()
        have t_n2 : (nI D).toInt = (D : Int) := tn2092_ ()
        have z0 : (0 : Int32).toInt = 0 := qI_0
        have z1 : (1 : Int32).toInt = 1 := qI_1
        have z2 : (2 : Int32).toInt = 2 := qI_2
        have z3 : (3 : Int32).toInt = 3 := qI_3
        have z5 : (5 : Int32).toInt = 5 := qI_5
        have z9 : (9 : Int32).toInt = 9 := qI_9
        have z20 : (20 : Int32).toInt = 20 := qI_20
        have z4 : (-4 : Int32).toInt = -4 := (by decide)
        have z10 : (10 : Int32).toInt = 10 := qI_10
        first | (rw [if_neg (by omega)]; done) | (rw [if_pos (by omega)]; done)
      obtain ⟨hP9, hD9⟩ := va_sub2 (ws' := [(h0, .inr (10, [.ref rd, .ref wy, .ref tr, .ref im, .ref kp, .ref od, .ref ch, .ref cr, .ref le, .ref mk, .ref tl, .ref sh, .int tf, .int rf])), (wy, .inr (9, [.int (nI N), .int (nI B), .int (nI D), .ref a1, .ref a2, .ref a3, .ref a4, .ref a5, .ref a6])), (a3, .inl (G 0, 10, .inl (upd f3 i.toNatClampNeg k)))]) hP hD [0, 1, 2] (by decide +kernel) rfl
      refine W.widen (k := 0) (n := 0) (Nat.le_of_ble_eq_true rfl) (Nat.le_of_ble_eq_true rfl) ?_
      exact W.iret (v := f3 i.toNatClampNeg) hx hb hr (fun t ht hW => ⟨⟨f3 i.toNatClampNeg, (upd f3 i.toNatClampNeg k), rfl, ⟨hpost, (by have t_b5 := b5; have t_b9 := b9; have tnb_ := nib3 tn2090_ tn2091_ tn2092_; have tqz_ := qz46_; have z4 : (-4 : Int32).toInt = -4 := (by decide); have z10 : (10 : Int32).toInt = 10 := qI_10; first | (rw [if_neg (by omega)]; done) | (rw [if_pos (by omega)]; done))⟩, ⟨by rw [ht]; exact hP9, hD9⟩⟩, hS.F ht⟩) hS.2.2 dX10_put_45
    · skip
      have b10 := if10_n c8
      refine lv_iconst (v := (-1)) hx hb dX10_put_22 rfl ?_
      have hpost : ((-1) : Int32) = if ((0 ≤ i.toInt ∧ i.toInt < ((N : Nat) : Int)) ∧ (0 ≤ k.toInt ∧ k.toInt < ((B : Nat) : Int))) then f3 i.toNatClampNeg else -1 := by
        have t_b5 := b5
        have t_b10 := b10
        have t_n0 : (nI N).toInt = (N : Int) := tn2090_ ()
        have t_n1 : (nI B).toInt = (B : Int) := tn2091_ ()
        have t_n2 : (nI D).toInt = (D : Int) := tn2092_ ()
        have z0 : (0 : Int32).toInt = 0 := qI_0
        have z1 : (1 : Int32).toInt = 1 := qI_1
        have z2 : (2 : Int32).toInt = 2 := qI_2
        have z3 : (3 : Int32).toInt = 3 := qI_3
        have z5 : (5 : Int32).toInt = 5 := qI_5
        have z9 : (9 : Int32).toInt = 9 := qI_9
        have z20 : (20 : Int32).toInt = 20 := qI_20
        have z4 : (-4 : Int32).toInt = -4 := (by decide)
        have z10 : (10 : Int32).toInt = 10 := qI_10
        first | (rw [if_neg (by omega)]; done) | (rw [if_pos (by omega)]; done)
      obtain ⟨hP9, hD9⟩ := va_sub2 (ws' := [(h0, .inr (10, [.ref rd, .ref wy, .ref tr, .ref im, .ref kp, .ref od, .ref ch, .ref cr, .ref le, .ref mk, .ref tl, .ref sh, .int tf, .int rf])), (wy, .inr (9, [.int (nI N), .int (nI B), .int (nI D), .ref a1, .ref a2, .ref a3, .ref a4, .ref a5, .ref a6])), (a3, .inl (G 0, 10, .inl f3))]) hP hD [0, 1, 2] (by decide +kernel) rfl
      refine W.widen (k := 0) (n := 0) (Nat.le_of_ble_eq_true rfl) (Nat.le_of_ble_eq_true rfl) ?_
      exact W.iret (v := (-1)) hx hb hr (fun t ht hW => ⟨⟨(-1), f3, rfl, ⟨hpost, (by have t_b5 := b5; have t_b10 := b10; have tnb_ := nib3 tn2090_ tn2091_ tn2092_; have tqz_ := qz46_; have z4 : (-4 : Int32).toInt = -4 := (by decide); have z10 : (10 : Int32).toInt = 10 := qI_10; first | (rw [if_neg (by omega)]; done) | (rw [if_pos (by omega)]; done))⟩, ⟨by rw [ht]; exact hP9, hD9⟩⟩, hS.F ht⟩) hS.2.2 dX10_put_23

set_option maxHeartbeats 4000000 in
set_option maxRecDepth 100000 in
theorem c_X10_readE (l : Launch) (dC : Nat → ClassId) (dI : Nat → Nat → Nat) (G : Nat → ClassId) (sz : Nat) (h0 rd wy tr im kp od ch cr le mk tl sh a1 a2 a3 a4 a5 a6 N B D la si ce fi se : Nat) (tf rf k lane x1 n x8 x9 : Int32) (f3 fl fz f1 f2 : Nat → Int32) (rc : Nat → Nat) (F : Nat → Nat → Int32) (hN_N : N ≤ 10) (hB_B : B ≤ 6) (hD_D : 1 ≤ D ∧ D ≤ 9) (hz : ∀ q : Nat, q < 4 → 0 ≤ (fz q).toInt ∧ (fz q).toInt ≤ 40) : Met l yX10_read (Cond.code yX10_read cX10_read 6 (some .int) :: GT) ({ frames := 2, cells := 0, slots := 0, locals := 50 } : Room) (PcW [.ref h0, .int k, .int lane, .int x1, .int n] dC dI G (([(h0, .inr (10, [.ref rd, .ref wy, .ref tr, .ref im, .ref kp, .ref od, .ref ch, .ref cr, .ref le, .ref mk, .ref tl, .ref sh, .int tf, .int rf])), (wy, .inr (9, [.int (nI N), .int (nI B), .int (nI D), .ref a1, .ref a2, .ref a3, .ref a4, .ref a5, .ref a6])), (a3, .inl (G 0, 10, .inl f3)), (sh, .inr (6, [.ref la, .ref si, .ref ce, .int x8, .int x9, .ref fi, .ref se])), (la, .inl (G 0, 4, .inl fl)), (si, .inl (G 0, 4, .inl fz)), (ce, .inl (G 4, 4, .inr (.inr (.inr (.inr (fun ir => if ir < 4 then some (rc ir) else none)))))), (fi, .inl (G 0, 20, .inl f1)), (se, .inl (G 0, 20, .inl f2))] : va_W) ++ ((((List.range 4).map (fun iq => (rc iq, .inl (G 0, 40, .inl (F iq))))) : va_W) ++ [])) sz) (va_Qi (fun (r : Int32) (u : Int32 × Int32 × (Nat → Int32) × (Nat → Int32) × (Nat → Int32) × Int32) => match u with | (u0, u1, u2, u3, u4, u5) => (r = if ((0 ≤ k.toInt ∧ k.toInt < 4) ∧ (0 ≤ lane.toInt ∧ lane.toInt ≤ 2) ∧ 0 ≤ n.toInt ∧ n.toInt ≤ 20) then rdR N B (fun q8 : Nat => F k.toNatClampNeg (x1.toInt + 2 * (q8 : Int) + 0).toNat) (fun q8 : Nat => F k.toNatClampNeg (x1.toInt + 2 * (q8 : Int) + 1).toNat) (tpK (fl k.toNatClampNeg) lane (fz k.toNatClampNeg).toInt x1.toInt n.toNatClampNeg) else -1) ∧ u4 = (if ((0 ≤ k.toInt ∧ k.toInt < 4) ∧ (0 ≤ lane.toInt ∧ lane.toInt ≤ 2) ∧ 0 ≤ n.toInt ∧ n.toInt ≤ 20) then rdF N B (fun q8 : Nat => F k.toNatClampNeg (x1.toInt + 2 * (q8 : Int) + 0).toNat) (fun q8 : Nat => F k.toNatClampNeg (x1.toInt + 2 * (q8 : Int) + 1).toNat) (tpK (fl k.toNatClampNeg) lane (fz k.toNatClampNeg).toInt x1.toInt n.toNatClampNeg) f3 else f3)) (fun (u : Int32 × Int32 × (Nat → Int32) × (Nat → Int32) × (Nat → Int32) × Int32) (t : State) => match u with | (u0, u1, u2, u3, u4, u5) => va_P (dC, dI) vwCl (([(h0, .inr (10, [.ref rd, .ref wy, .ref tr, .ref im, .ref kp, .ref od, .ref ch, .ref cr, .ref le, .ref mk, .ref tl, .ref sh, .int tf, .int u5])), (wy, .inr (9, [.int (nI N), .int (nI B), .int (nI D), .ref a1, .ref a2, .ref a3, .ref a4, .ref a5, .ref a6])), (a3, .inl (G 0, 10, .inl u4)), (sh, .inr (6, [.ref la, .ref si, .ref ce, .int u0, .int u1, .ref fi, .ref se])), (la, .inl (G 0, 4, .inl fl)), (si, .inl (G 0, 4, .inl fz)), (ce, .inl (G 4, 4, .inr (.inr (.inr (.inr (fun ir => if ir < 4 then some (rc ir) else none)))))), (fi, .inl (G 0, 20, .inl u2)), (se, .inl (G 0, 20, .inl u3))] : va_W) ++ ((((List.range 4).map (fun iq => (rc iq, .inl (G 0, 40, .inl (F iq))))) : va_W) ++ [])) t.heap ∧ va_D (va_A (([(h0, .inr (10, [.ref rd, .ref wy, .ref tr, .ref im, .ref kp, .ref od, .ref ch, .ref cr, .ref le, .ref mk, .ref tl, .ref sh, .int tf, .int rf])), (wy, .inr (9, [.int (nI N), .int (nI B), .int (nI D), .ref a1, .ref a2, .ref a3, .ref a4, .ref a5, .ref a6])), (a3, .inl (G 0, 10, .inl f3)), (sh, .inr (6, [.ref la, .ref si, .ref ce, .int x8, .int x9, .ref fi, .ref se])), (la, .inl (G 0, 4, .inl fl)), (si, .inl (G 0, 4, .inl fz)), (ce, .inl (G 4, 4, .inr (.inr (.inr (.inr (fun ir => if ir < 4 then some (rc ir) else none)))))), (fi, .inl (G 0, 20, .inl f1)), (se, .inl (G 0, 20, .inl f2))] : va_W) ++ ((((List.range 4).map (fun iq => (rc iq, .inl (G 0, 40, .inl (F iq))))) : va_W) ++ [])) sz) (([(h0, .inr (10, [.ref rd, .ref wy, .ref tr, .ref im, .ref kp, .ref od, .ref ch, .ref cr, .ref le, .ref mk, .ref tl, .ref sh, .int tf, .int u5])), (wy, .inr (9, [.int (nI N), .int (nI B), .int (nI D), .ref a1, .ref a2, .ref a3, .ref a4, .ref a5, .ref a6])), (a3, .inl (G 0, 10, .inl u4)), (sh, .inr (6, [.ref la, .ref si, .ref ce, .int u0, .int u1, .ref fi, .ref se])), (la, .inl (G 0, 4, .inl fl)), (si, .inl (G 0, 4, .inl fz)), (ce, .inl (G 4, 4, .inr (.inr (.inr (.inr (fun ir => if ir < 4 then some (rc ir) else none)))))), (fi, .inl (G 0, 20, .inl u2)), (se, .inl (G 0, 20, .inl u3))] : va_W) ++ ((((List.range 4).map (fun iq => (rc iq, .inl (G 0, 40, .inl (F iq))))) : va_W) ++ []))) (va_A (([(h0, .inr (10, [.ref rd, .ref wy, .ref tr, .ref im, .ref kp, .ref od, .ref ch, .ref cr, .ref le, .ref mk, .ref tl, .ref sh, .int tf, .int rf])), (wy, .inr (9, [.int (nI N), .int (nI B), .int (nI D), .ref a1, .ref a2, .ref a3, .ref a4, .ref a5, .ref a6])), (a3, .inl (G 0, 10, .inl f3)), (sh, .inr (6, [.ref la, .ref si, .ref ce, .int x8, .int x9, .ref fi, .ref se])), (la, .inl (G 0, 4, .inl fl)), (si, .inl (G 0, 4, .inl fz)), (ce, .inl (G 4, 4, .inr (.inr (.inr (.inr (fun ir => if ir < 4 then some (rc ir) else none)))))), (fi, .inl (G 0, 20, .inl f1)), (se, .inl (G 0, 20, .inl f2))] : va_W) ++ ((((List.range 4).map (fun iq => (rc iq, .inl (G 0, 40, .inl (F iq))))) : va_W) ++ [])) sz)) 0 0 (va_A (([(h0, .inr (10, [.ref rd, .ref wy, .ref tr, .ref im, .ref kp, .ref od, .ref ch, .ref cr, .ref le, .ref mk, .ref tl, .ref sh, .int tf, .int rf])), (wy, .inr (9, [.int (nI N), .int (nI B), .int (nI D), .ref a1, .ref a2, .ref a3, .ref a4, .ref a5, .ref a6])), (a3, .inl (G 0, 10, .inl f3)), (sh, .inr (6, [.ref la, .ref si, .ref ce, .int x8, .int x9, .ref fi, .ref se])), (la, .inl (G 0, 4, .inl fl)), (si, .inl (G 0, 4, .inl fz)), (ce, .inl (G 4, 4, .inr (.inr (.inr (.inr (fun ir => if ir < 4 then some (rc ir) else none)))))), (fi, .inl (G 0, 20, .inl f1)), (se, .inl (G 0, 20, .inl f2))] : va_W) ++ ((((List.range 4).map (fun iq => (rc iq, .inl (G 0, 40, .inl (F iq))))) : va_W) ++ [])) sz) := by
  have tn2093_ : nIT N := fun _ => nI_toInt (by omega)
  have tn2094_ : nIT B := fun _ => nI_toInt (by omega)
  have tn2095_ : nIT D := fun _ => nI_toInt (by omega)
  refine Met.ofW (cc := cX10_read) (maxL := 6) (ret := (some .int)) (by decide) rfl ?_
  intro p e s m args below meth c s₁ Bd hml hv
  obtain ⟨rfl, hsz, hP, hK, hD0⟩ := hv
  have hx := Bd.exec
  have hb := Bd.bytes
  have hr := Bd.returns
  have hg : ∀ w ∈ GT, w.before ([.ref h0, .int k, .int lane, .int x1, .int n] : List Value).toArray s = true := fun w h => atoms_spec (ws := Cond.code yX10_read cX10_read 6 (some .int) :: GT) Bd.pre w (List.mem_cons_of_mem _ h)
  have hown : s.vm.findClass RX10 = some m.cls := findClass_of_methodNamed Bd.named
  have hlocks := Bd.notSynchronized
  subst hsz
  have hD := hD0.self (sz := s.heap.size)
  generalize hAe : va_A (([(h0, .inr (10, [.ref rd, .ref wy, .ref tr, .ref im, .ref kp, .ref od, .ref ch, .ref cr, .ref le, .ref mk, .ref tl, .ref sh, .int tf, .int rf])), (wy, .inr (9, [.int (nI N), .int (nI B), .int (nI D), .ref a1, .ref a2, .ref a3, .ref a4, .ref a5, .ref a6])), (a3, .inl (G 0, 10, .inl f3)), (sh, .inr (6, [.ref la, .ref si, .ref ce, .int x8, .int x9, .ref fi, .ref se])), (la, .inl (G 0, 4, .inl fl)), (si, .inl (G 0, 4, .inl fz)), (ce, .inl (G 4, 4, .inr (.inr (.inr (.inr (fun ir => if ir < 4 then some (rc ir) else none)))))), (fi, .inl (G 0, 20, .inl f1)), (se, .inl (G 0, 20, .inl f2))] : va_W) ++ ((((List.range 4).map (fun iq => (rc iq, .inl (G 0, 40, .inl (F iq))))) : va_W) ++ [])) s.heap.size = A at hD ⊢
  have hA : ∀ q : Nat, s.heap.size ≤ q → A q := fun q h => by rw [← hAe]; exact Or.inr h
  have hS : va_S A s.heap s.heap [] := va_S.rf
  have hl := lv_entry ([.ref h0, .int k, .int lane, .int x1, .int n]) (n := 6) (Nat.le_of_ble_eq_true rfl)
  rw [lg_entry_eq]
  generalize (lg_sl ([.ref h0, .int k, .int lane, .int x1, .int n]) ++ List.replicate (6 - (lg_sl ([.ref h0, .int k, .int lane, .int x1, .int n])).length) Slot.unset).toArray = ls at hl ⊢
  have hl : lv_has ls 6 [(0, .ref h0), (1, .int k), (2, .int lane), (3, .int x1), (4, .int n)] := hl
  refine lv_iload_n hx hb dX10_read_0 rfl (lv_at hl 1 rfl) ?_
  have hPc := hP.sub (ws' := []) [] rfl
  refine va_calli (va_runSN (As := [.int k]) (rest := []) ⟨hx, hb, hml, hown, hg⟩ (c_X6_isSheet l dC dI G _ k) (kwSN hg hK mfX6_isSheet wn_823 ⟨Nat.le_of_ble_eq_true rfl, Nat.le_of_ble_eq_true rfl⟩) (preSR hK hPc) rfl rfl hl.1 rfl (lv_room (Nat.le_of_ble_eq_true rfl)) dX10_read_1 ⟨Nat.le_of_ble_eq_true rfl, Nat.le_of_ble_eq_true rfl⟩) hS (fun q h1 h2 => absurd h2 (Nat.not_le.mpr h1)) (fun q h => hA q (Nat.le_trans hS.1 h)) (fun r1 ur1 t H1 locs ht hvm w2 hB hz1 hk1 hS => ?_)
  have hP := keepR hP hk1
  obtain ⟨w2, w2x⟩ := w2
  try simp only [l_ii, show (0 : Int32).toInt = 0 from by decide, show (4 : Int32).toInt = 4 from by decide] at w2
  subst w2
  refine lv_if_eq (tgt := 26) hx hb dX10_read_4 rfl (fun c3 => ?_) (fun c3 => ?_)
  · skip
    have b4 := if10_n c3
    refine lv_iconst (v := (-1)) hx hb dX10_read_26 rfl ?_
    have hpost : ((-1) : Int32) = if ((0 ≤ k.toInt ∧ k.toInt < 4) ∧ (0 ≤ lane.toInt ∧ lane.toInt ≤ 2) ∧ 0 ≤ n.toInt ∧ n.toInt ≤ 20) then rdR N B (fun q8 : Nat => F k.toNatClampNeg (x1.toInt + 2 * (q8 : Int) + 0).toNat) (fun q8 : Nat => F k.toNatClampNeg (x1.toInt + 2 * (q8 : Int) + 1).toNat) (tpK (fl k.toNatClampNeg) lane (fz k.toNatClampNeg).toInt x1.toInt n.toNatClampNeg) else -1 := by
      have t_b4 := b4
      have t_n0 : (nI N).toInt = (N : Int) := tn2093_ ()
      have t_n1 : (nI B).toInt = (B : Int) := tn2094_ ()
      have t_n2 : (nI D).toInt = (D : Int) := tn2095_ ()
      have z0 : (0 : Int32).toInt = 0 := qI_0
      have z1 : (1 : Int32).toInt = 1 := qI_1
      have z2 : (2 : Int32).toInt = 2 := qI_2
      have z3 : (3 : Int32).toInt = 3 := qI_3
      have z5 : (5 : Int32).toInt = 5 := qI_5
      have z9 : (9 : Int32).toInt = 9 := qI_9
      have z20 : (20 : Int32).toInt = 20 := qI_20
      have z4 : (-4 : Int32).toInt = -4 := (by decide)
      have z10 : (10 : Int32).toInt = 10 := qI_10
      rw [if_neg (by omega)]
    obtain ⟨hP9, hD9⟩ := va_sub2 (ws' := (([(h0, .inr (10, [.ref rd, .ref wy, .ref tr, .ref im, .ref kp, .ref od, .ref ch, .ref cr, .ref le, .ref mk, .ref tl, .ref sh, .int tf, .int rf])), (wy, .inr (9, [.int (nI N), .int (nI B), .int (nI D), .ref a1, .ref a2, .ref a3, .ref a4, .ref a5, .ref a6])), (a3, .inl (G 0, 10, .inl f3)), (sh, .inr (6, [.ref la, .ref si, .ref ce, .int x8, .int x9, .ref fi, .ref se])), (la, .inl (G 0, 4, .inl fl)), (si, .inl (G 0, 4, .inl fz)), (ce, .inl (G 4, 4, .inr (.inr (.inr (.inr (fun ir => if ir < 4 then some (rc ir) else none)))))), (fi, .inl (G 0, 20, .inl f1)), (se, .inl (G 0, 20, .inl f2))] : va_W) ++ ((((List.range 4).map (fun iq => (rc iq, .inl (G 0, 40, .inl (F iq))))) : va_W) ++ []))) hP hD [0, 1, 2, 3, 4, 5, 6, 7, 8, 9, 10, 11, 12] (by decide +kernel) rfl
    refine W.widen (k := 0) (n := 0) (Nat.le_of_ble_eq_true rfl) (Nat.le_of_ble_eq_true rfl) ?_
    exact W.iret (v := (-1)) hx hb hr (fun t ht hW => ⟨⟨(-1), (x8, x9, f1, f2, f3, rf), rfl, ⟨hpost, (by have t_b4 := b4; have tnb_ := nib3 tn2093_ tn2094_ tn2095_; have tqz_ := qz46_; have z4 : (-4 : Int32).toInt = -4 := (by decide); have z10 : (10 : Int32).toInt = 10 := qI_10; rw [if_neg (by omega)])⟩, ⟨by rw [ht]; exact hP9, hD9⟩⟩, hS.F ht⟩) hS.2.2 dX10_read_27
  · skip
    have b5 := if10_p c3
    refine lv_iload_n hx hb dX10_read_7 rfl (lv_at hl 2 rfl) ?_
    have hPc := hP.sub (ws' := []) [] rfl
    refine va_calli (va_runSN (As := [.int lane]) (rest := []) ⟨hx, hb, hml, hown, hg⟩ (c_X6_isLane l dC dI G _ lane) (kwSN hg hK mfX6_isLane wn_826 ⟨Nat.le_of_ble_eq_true rfl, Nat.le_of_ble_eq_true rfl⟩) (preSR hK hPc) rfl rfl hl.1 rfl (lv_room (Nat.le_of_ble_eq_true rfl)) dX10_read_8 ⟨Nat.le_of_ble_eq_true rfl, Nat.le_of_ble_eq_true rfl⟩) hS (fun q h1 h2 => absurd h2 (Nat.not_le.mpr h1)) (fun q h => hA q (Nat.le_trans hS.1 h)) (fun r6 ur6 t H1 locs ht hvm w7 hB hz1 hk1 hS => ?_)
    have hP := keepR hP hk1
    obtain ⟨w7, w7x⟩ := w7
    try simp only [l_ii, show (0 : Int32).toInt = 0 from by decide, show (2 : Int32).toInt = 2 from by decide] at w7
    subst w7
    refine lv_if_eq (tgt := 26) hx hb dX10_read_11 rfl (fun c8 => ?_) (fun c8 => ?_)
    · skip
      have b9 := if10_n c8
      refine lv_iconst (v := (-1)) hx hb dX10_read_26 rfl ?_
      have hpost : ((-1) : Int32) = if ((0 ≤ k.toInt ∧ k.toInt < 4) ∧ (0 ≤ lane.toInt ∧ lane.toInt ≤ 2) ∧ 0 ≤ n.toInt ∧ n.toInt ≤ 20) then rdR N B (fun q8 : Nat => F k.toNatClampNeg (x1.toInt + 2 * (q8 : Int) + 0).toNat) (fun q8 : Nat => F k.toNatClampNeg (x1.toInt + 2 * (q8 : Int) + 1).toNat) (tpK (fl k.toNatClampNeg) lane (fz k.toNatClampNeg).toInt x1.toInt n.toNatClampNeg) else -1 := by
        have t_b5 := b5
        have t_b9 := b9
        have t_n0 : (nI N).toInt = (N : Int) := tn2093_ ()
        have t_n1 : (nI B).toInt = (B : Int) := tn2094_ ()
        have t_n2 : (nI D).toInt = (D : Int) := tn2095_ ()
        have z0 : (0 : Int32).toInt = 0 := qI_0
        have z1 : (1 : Int32).toInt = 1 := qI_1
        have z2 : (2 : Int32).toInt = 2 := qI_2
        have z3 : (3 : Int32).toInt = 3 := qI_3
        have z5 : (5 : Int32).toInt = 5 := qI_5
        have z9 : (9 : Int32).toInt = 9 := qI_9
        have z20 : (20 : Int32).toInt = 20 := qI_20
        have z4 : (-4 : Int32).toInt = -4 := (by decide)
        have z10 : (10 : Int32).toInt = 10 := qI_10
        rw [if_neg (by omega)]
      obtain ⟨hP9, hD9⟩ := va_sub2 (ws' := (([(h0, .inr (10, [.ref rd, .ref wy, .ref tr, .ref im, .ref kp, .ref od, .ref ch, .ref cr, .ref le, .ref mk, .ref tl, .ref sh, .int tf, .int rf])), (wy, .inr (9, [.int (nI N), .int (nI B), .int (nI D), .ref a1, .ref a2, .ref a3, .ref a4, .ref a5, .ref a6])), (a3, .inl (G 0, 10, .inl f3)), (sh, .inr (6, [.ref la, .ref si, .ref ce, .int x8, .int x9, .ref fi, .ref se])), (la, .inl (G 0, 4, .inl fl)), (si, .inl (G 0, 4, .inl fz)), (ce, .inl (G 4, 4, .inr (.inr (.inr (.inr (fun ir => if ir < 4 then some (rc ir) else none)))))), (fi, .inl (G 0, 20, .inl f1)), (se, .inl (G 0, 20, .inl f2))] : va_W) ++ ((((List.range 4).map (fun iq => (rc iq, .inl (G 0, 40, .inl (F iq))))) : va_W) ++ []))) hP hD [0, 1, 2, 3, 4, 5, 6, 7, 8, 9, 10, 11, 12] (by decide +kernel) rfl
      refine W.widen (k := 0) (n := 0) (Nat.le_of_ble_eq_true rfl) (Nat.le_of_ble_eq_true rfl) ?_
      exact W.iret (v := (-1)) hx hb hr (fun t ht hW => ⟨⟨(-1), (x8, x9, f1, f2, f3, rf), rfl, ⟨hpost, (by have t_b5 := b5; have t_b9 := b9; have tnb_ := nib3 tn2093_ tn2094_ tn2095_; have tqz_ := qz46_; have z4 : (-4 : Int32).toInt = -4 := (by decide); have z10 : (10 : Int32).toInt = 10 := qI_10; rw [if_neg (by omega)])⟩, ⟨by rw [ht]; exact hP9, hD9⟩⟩, hS.F ht⟩) hS.2.2 dX10_read_27
    · skip
      have b10 := if10_p c8
      refine lv_iload hx hb dX10_read_14 (lv_at hl 4 rfl) ?_
      refine lv_if_lt (tgt := 26) hx hb dX10_read_16 rfl (fun c11 => ?_) (fun c11 => ?_)
      · skip
        refine lv_iconst (v := (-1)) hx hb dX10_read_26 rfl ?_
        have hpost : ((-1) : Int32) = if ((0 ≤ k.toInt ∧ k.toInt < 4) ∧ (0 ≤ lane.toInt ∧ lane.toInt ≤ 2) ∧ 0 ≤ n.toInt ∧ n.toInt ≤ 20) then rdR N B (fun q8 : Nat => F k.toNatClampNeg (x1.toInt + 2 * (q8 : Int) + 0).toNat) (fun q8 : Nat => F k.toNatClampNeg (x1.toInt + 2 * (q8 : Int) + 1).toNat) (tpK (fl k.toNatClampNeg) lane (fz k.toNatClampNeg).toInt x1.toInt n.toNatClampNeg) else -1 := by
          have t_b5 := b5
          have t_b10 := b10
          have t_c11 := ltI c11
          have : (0 : Int32).toInt = 0 := qI_0
          have t_n0 : (nI N).toInt = (N : Int) := tn2093_ ()
          have t_n1 : (nI B).toInt = (B : Int) := tn2094_ ()
          have t_n2 : (nI D).toInt = (D : Int) := tn2095_ ()
          have z0 : (0 : Int32).toInt = 0 := qI_0
          have z1 : (1 : Int32).toInt = 1 := qI_1
          have z2 : (2 : Int32).toInt = 2 := qI_2
          have z3 : (3 : Int32).toInt = 3 := qI_3
          have z5 : (5 : Int32).toInt = 5 := qI_5
          have z9 : (9 : Int32).toInt = 9 := qI_9
          have z20 : (20 : Int32).toInt = 20 := qI_20
          have z4 : (-4 : Int32).toInt = -4 := (by decide)
          have z10 : (10 : Int32).toInt = 10 := qI_10
          rw [if_neg (by omega)]
        obtain ⟨hP9, hD9⟩ := va_sub2 (ws' := (([(h0, .inr (10, [.ref rd, .ref wy, .ref tr, .ref im, .ref kp, .ref od, .ref ch, .ref cr, .ref le, .ref mk, .ref tl, .ref sh, .int tf, .int rf])), (wy, .inr (9, [.int (nI N), .int (nI B), .int (nI D), .ref a1, .ref a2, .ref a3, .ref a4, .ref a5, .ref a6])), (a3, .inl (G 0, 10, .inl f3)), (sh, .inr (6, [.ref la, .ref si, .ref ce, .int x8, .int x9, .ref fi, .ref se])), (la, .inl (G 0, 4, .inl fl)), (si, .inl (G 0, 4, .inl fz)), (ce, .inl (G 4, 4, .inr (.inr (.inr (.inr (fun ir => if ir < 4 then some (rc ir) else none)))))), (fi, .inl (G 0, 20, .inl f1)), (se, .inl (G 0, 20, .inl f2))] : va_W) ++ ((((List.range 4).map (fun iq => (rc iq, .inl (G 0, 40, .inl (F iq))))) : va_W) ++ []))) hP hD [0, 1, 2, 3, 4, 5, 6, 7, 8, 9, 10, 11, 12] (by decide +kernel) rfl
        refine W.widen (k := 0) (n := 0) (Nat.le_of_ble_eq_true rfl) (Nat.le_of_ble_eq_true rfl) ?_
        exact W.iret (v := (-1)) hx hb hr (fun t ht hW => ⟨⟨(-1), (x8, x9, f1, f2, f3, rf), rfl, ⟨hpost, (by have t_b5 := b5; have t_b10 := b10; have t_c11 := ltI c11; have : (0 : Int32).toInt = 0 := qI_0; have tnb_ := nib3 tn2093_ tn2094_ tn2095_; have tqz_ := qz46_; have z4 : (-4 : Int32).toInt = -4 := (by decide); have z10 : (10 : Int32).toInt = 10 := qI_10; rw [if_neg (by omega)])⟩, ⟨by rw [ht]; exact hP9, hD9⟩⟩, hS.F ht⟩) hS.2.2 dX10_read_27
      · skip
        refine lv_iload hx hb dX10_read_19 (lv_at hl 4 rfl) ?_
        refine lv_bipush (v := 20) hx hb dX10_read_21 rfl ?_
        refine lv_icmp_le (tgt := 28) hx hb dX10_read_23 rfl (fun c12 => ?_) (fun c12 => ?_)
        · skip
          obtain ⟨kk, hkk, rfl⟩ : ∃ j : Nat, j < 4 ∧ k = nI j := by
            have t_b5 := b5
            have t_b10 := b10
            have t_c11 := nltI c11
            have t_c12 := leI c12
            have : (0 : Int32).toInt = 0 := qI_0
            have : (20 : Int32).toInt = 20 := qI_20
            have t_n0 : (nI N).toInt = (N : Int) := tn2093_ ()
            have t_n1 : (nI B).toInt = (B : Int) := tn2094_ ()
            have t_n2 : (nI D).toInt = (D : Int) := tn2095_ ()
            exact i32_nat (by omega) (by omega)
          obtain ⟨nn, hnn, rfl⟩ : ∃ j : Nat, j < 21 ∧ n = nI j := by
            have t_b5 := b5
            have t_b10 := b10
            have t_c11 := nltI c11
            have t_c12 := leI c12
            have t_hkk := hkk
            have : (0 : Int32).toInt = 0 := qI_0
            have : (20 : Int32).toInt = 20 := qI_20
            have t_n0 : (nI N).toInt = (N : Int) := tn2093_ ()
            have t_n1 : (nI B).toInt = (B : Int) := tn2094_ ()
            have t_n2 : (nI D).toInt = (D : Int) := tn2095_ ()
            have tn2096_ : nIT kk := fun _ => nI_toInt (by omega)
            have t_n3 : (nI kk).toInt = (kk : Int) := tn2096_ ()
            exact i32_nat (by omega) (by omega)
          refine lv_aload_n hx hb dX10_read_28 rfl (lv_at hl 0 rfl) ?_
          refine va_get (D := (dC, dI)) (ci := 10) (v := .ref sh) (C := RX10) (T := TX10) (N := 14) hx hb hg inG10 hown hK.1 hP 0 rfl rfl 11 (Nat.le_of_ble_eq_true rfl) (hg _ wt_313) (fun _ h9 => h9) rfl dX10_read_29 ?_
          refine lv_iload_n hx hb dX10_read_32 rfl (lv_at hl 1 rfl) ?_
          refine lv_iload_n hx hb dX10_read_33 rfl (lv_at hl 2 rfl) ?_
          refine lv_iload_n hx hb dX10_read_34 rfl (lv_at hl 3 rfl) ?_
          refine lv_iload hx hb dX10_read_35 (lv_at hl 4 rfl) ?_
          obtain ⟨hPc, hDc, hFc⟩ := va_sub3 (ws' := (([(sh, .inr (6, [.ref la, .ref si, .ref ce, .int x8, .int x9, .ref fi, .ref se])), (la, .inl (G 0, 4, .inl fl)), (si, .inl (G 0, 4, .inl fz)), (ce, .inl (G 4, 4, .inr (.inr (.inr (.inr (fun ir => if ir < 4 then some (rc ir) else none)))))), (fi, .inl (G 0, 20, .inl f1)), (se, .inl (G 0, 20, .inl f2))] : va_W) ++ ((((List.range 4).map (fun iq => (rc iq, .inl (G 0, 40, .inl (F iq))))) : va_W) ++ []))) hP hD hS hA [3, 4, 5, 6, 7, 8, 9, 10, 11, 12] (by decide +kernel) rfl
          have tn2097_ : nIT kk := fun _ => nI_toInt (by omega)
          have tn2098_ : nIT nn := fun _ => nI_toInt (by omega)
          refine va_callv (va_runVN (As := [.int (nI kk), .int lane, .int x1, .int (nI nn)]) (rest := []) ⟨hx, hb, hml, hown, hg⟩ (c_X6_takePairsE l dC dI G _ sh la si ce fi se kk nn x8 x9 lane x1 fl fz f1 f2 rc F (by omega) (by omega) hz (fun e9 => by have e8 := congrArg Int32.toInt e9; have t_b5 := b5; have t_b10 := b10; have t_c11 := nltI c11; have t_c12 := leI c12; have t_hkk := hkk; have t_hnn := hnn; have tqz_ := qz12_; have tnb_ := nib5 tn2093_ tn2094_ tn2095_ tn2097_ tn2098_; have m1 : (-1 : Int32).toInt = -1 := (by decide); omega)) (kwVN hg hK mfX6_takePairs wn_851 ⟨Nat.le_of_ble_eq_true rfl, Nat.le_of_ble_eq_true rfl⟩) (preVW hK hPc hDc (ci := 6) (r := (RX6, TX6, 7)) rfl rfl) rfl rfl hl.1 rfl (lv_room (Nat.le_of_ble_eq_true rfl)) dX10_read_37 ⟨Nat.le_of_ble_eq_true rfl, Nat.le_of_ble_eq_true rfl⟩) hS (fun q _ h => hFc q h) hFc (fun ur13 t H1 locs ht hvm w14 hB hz1 hk1 hS => ?_)
          obtain ⟨u15, u16, u17, u18⟩ := ur13
          obtain ⟨hP1, hD1⟩ := hB
          rw [ht] at hP1
          obtain ⟨hP, hD⟩ := va_join (wr := [(h0, .inr (10, [.ref rd, .ref wy, .ref tr, .ref im, .ref kp, .ref od, .ref ch, .ref cr, .ref le, .ref mk, .ref tl, .ref sh, .int tf, .int rf])), (wy, .inr (9, [.int (nI N), .int (nI B), .int (nI D), .ref a1, .ref a2, .ref a3, .ref a4, .ref a5, .ref a6])), (a3, .inl (G 0, 10, .inl f3))]) (w1 := (([(sh, .inr (6, [.ref la, .ref si, .ref ce, .int u15, .int (nI u16), .ref fi, .ref se])), (la, .inl (G 0, 4, .inl fl)), (si, .inl (G 0, 4, .inl fz)), (ce, .inl (G 4, 4, .inr (.inr (.inr (.inr (fun ir => if ir < 4 then some (rc ir) else none)))))), (fi, .inl (G 0, 20, .inl u17)), (se, .inl (G 0, 20, .inl u18))] : va_W) ++ ((((List.range 4).map (fun iq => (rc iq, .inl (G 0, 40, .inl (F iq))))) : va_W) ++ []))) hP hD [3, 4, 5, 6, 7, 8, 9, 10, 11, 12] [0, 1, 2] rfl rfl (by decide +kernel) (by decide +kernel) hk1 hFc hP1 hD1
          have w14 : u16 = tpK (fl kk) lane (fz kk).toInt x1.toInt nn ∧ (∀ q9 : Nat, q9 < u16 → u17 q9 = F kk (x1.toInt + 2 * (q9 : Int) + 0).toNat) ∧ (∀ q9 : Nat, q9 < u16 → u18 q9 = F kk (x1.toInt + 2 * (q9 : Int) + 1).toNat) ∧ u16 ≤ 20 := w14
          generalize H1 = H at hP hS ⊢
          refine lv_iconst (v := 0) hx hb dX10_read_40 rfl ?_
          refine lv_istore (lv' := [(5, .int 0), (0, .ref h0), (1, .int (nI kk)), (2, .int lane), (3, .int x1), (4, .int (nI nn))]) hx hb dX10_read_41 hl (by decide) rfl (fun ls hl => ?_)
          have loop43_20 : ∀ (nf j19 : Nat), u16 + 1 ≤ j19 + nf → j19 ≤ u16 → ∀ (H : Heap) (locs : List Loc), ((∀ q9 : Nat, q9 < j19 → 0 ≤ (u17 q9).toInt ∧ (u17 q9).toInt < ((N : Nat) : Int)) ∧ rdI N B u17 u18 (u16 - j19) j19 = rdI N B u17 u18 u16 0) → va_P (dC, dI) vwCl (([(h0, .inr (10, [.ref rd, .ref wy, .ref tr, .ref im, .ref kp, .ref od, .ref ch, .ref cr, .ref le, .ref mk, .ref tl, .ref sh, .int tf, .int rf])), (wy, .inr (9, [.int (nI N), .int (nI B), .int (nI D), .ref a1, .ref a2, .ref a3, .ref a4, .ref a5, .ref a6])), (a3, .inl (G 0, 10, .inl f3)), (sh, .inr (6, [.ref la, .ref si, .ref ce, .int u15, .int (nI u16), .ref fi, .ref se])), (la, .inl (G 0, 4, .inl fl)), (si, .inl (G 0, 4, .inl fz)), (ce, .inl (G 4, 4, .inr (.inr (.inr (.inr (fun ir => if ir < 4 then some (rc ir) else none)))))), (fi, .inl (G 0, 20, .inl u17)), (se, .inl (G 0, 20, .inl u18))] : va_W) ++ ((((List.range 4).map (fun iq => (rc iq, .inl (G 0, 40, .inl (F iq))))) : va_W) ++ [])) H → va_D A (([(h0, .inr (10, [.ref rd, .ref wy, .ref tr, .ref im, .ref kp, .ref od, .ref ch, .ref cr, .ref le, .ref mk, .ref tl, .ref sh, .int tf, .int rf])), (wy, .inr (9, [.int (nI N), .int (nI B), .int (nI D), .ref a1, .ref a2, .ref a3, .ref a4, .ref a5, .ref a6])), (a3, .inl (G 0, 10, .inl f3)), (sh, .inr (6, [.ref la, .ref si, .ref ce, .int u15, .int (nI u16), .ref fi, .ref se])), (la, .inl (G 0, 4, .inl fl)), (si, .inl (G 0, 4, .inl fz)), (ce, .inl (G 4, 4, .inr (.inr (.inr (.inr (fun ir => if ir < 4 then some (rc ir) else none)))))), (fi, .inl (G 0, 20, .inl u17)), (se, .inl (G 0, 20, .inl u18))] : va_W) ++ ((((List.range 4).map (fun iq => (rc iq, .inl (G 0, 40, .inl (F iq))))) : va_W) ++ [])) → va_S A s.heap H locs → ∀ (ls : Array Slot), lv_has ls 6 [(5, .int (nI j19)), (0, .ref h0), (1, .int (nI kk)), (2, .int lane), (3, .int x1), (4, .int (nI nn))] → W p l e (headSpec (Cond.code yX10_read cX10_read 6 (some .int) :: GT) ({ frames := 2, cells := 0, slots := 0, locals := 50 } : Room)).room s m ([.ref h0, .int (nI kk), .int lane, .int x1, .int (nI nn)] : List Value).toArray below meth c H locs 0 0 (MQ below (va_Qi (fun (r : Int32) (u : Int32 × Int32 × (Nat → Int32) × (Nat → Int32) × (Nat → Int32) × Int32) => match u with | (u0, u1, u2, u3, u4, u5) => (r = if ((0 ≤ (nI kk).toInt ∧ (nI kk).toInt < 4) ∧ (0 ≤ lane.toInt ∧ lane.toInt ≤ 2) ∧ 0 ≤ (nI nn).toInt ∧ (nI nn).toInt ≤ 20) then rdR N B (fun q8 : Nat => F (nI kk).toNatClampNeg (x1.toInt + 2 * (q8 : Int) + 0).toNat) (fun q8 : Nat => F (nI kk).toNatClampNeg (x1.toInt + 2 * (q8 : Int) + 1).toNat) (tpK (fl (nI kk).toNatClampNeg) lane (fz (nI kk).toNatClampNeg).toInt x1.toInt (nI nn).toNatClampNeg) else -1) ∧ u4 = (if ((0 ≤ (nI kk).toInt ∧ (nI kk).toInt < 4) ∧ (0 ≤ lane.toInt ∧ lane.toInt ≤ 2) ∧ 0 ≤ (nI nn).toInt ∧ (nI nn).toInt ≤ 20) then rdF N B (fun q8 : Nat => F (nI kk).toNatClampNeg (x1.toInt + 2 * (q8 : Int) + 0).toNat) (fun q8 : Nat => F (nI kk).toNatClampNeg (x1.toInt + 2 * (q8 : Int) + 1).toNat) (tpK (fl (nI kk).toNatClampNeg) lane (fz (nI kk).toNatClampNeg).toInt x1.toInt (nI nn).toNatClampNeg) f3 else f3)) (fun (u : Int32 × Int32 × (Nat → Int32) × (Nat → Int32) × (Nat → Int32) × Int32) (t : State) => match u with | (u0, u1, u2, u3, u4, u5) => va_P (dC, dI) vwCl (([(h0, .inr (10, [.ref rd, .ref wy, .ref tr, .ref im, .ref kp, .ref od, .ref ch, .ref cr, .ref le, .ref mk, .ref tl, .ref sh, .int tf, .int u5])), (wy, .inr (9, [.int (nI N), .int (nI B), .int (nI D), .ref a1, .ref a2, .ref a3, .ref a4, .ref a5, .ref a6])), (a3, .inl (G 0, 10, .inl u4)), (sh, .inr (6, [.ref la, .ref si, .ref ce, .int u0, .int u1, .ref fi, .ref se])), (la, .inl (G 0, 4, .inl fl)), (si, .inl (G 0, 4, .inl fz)), (ce, .inl (G 4, 4, .inr (.inr (.inr (.inr (fun ir => if ir < 4 then some (rc ir) else none)))))), (fi, .inl (G 0, 20, .inl u2)), (se, .inl (G 0, 20, .inl u3))] : va_W) ++ ((((List.range 4).map (fun iq => (rc iq, .inl (G 0, 40, .inl (F iq))))) : va_W) ++ [])) t.heap ∧ va_D A (([(h0, .inr (10, [.ref rd, .ref wy, .ref tr, .ref im, .ref kp, .ref od, .ref ch, .ref cr, .ref le, .ref mk, .ref tl, .ref sh, .int tf, .int u5])), (wy, .inr (9, [.int (nI N), .int (nI B), .int (nI D), .ref a1, .ref a2, .ref a3, .ref a4, .ref a5, .ref a6])), (a3, .inl (G 0, 10, .inl u4)), (sh, .inr (6, [.ref la, .ref si, .ref ce, .int u0, .int u1, .ref fi, .ref se])), (la, .inl (G 0, 4, .inl fl)), (si, .inl (G 0, 4, .inl fz)), (ce, .inl (G 4, 4, .inr (.inr (.inr (.inr (fun ir => if ir < 4 then some (rc ir) else none)))))), (fi, .inl (G 0, 20, .inl u2)), (se, .inl (G 0, 20, .inl u3))] : va_W) ++ ((((List.range 4).map (fun iq => (rc iq, .inl (G 0, 40, .inl (F iq))))) : va_W) ++ []))) A) ([.ref h0, .int (nI kk), .int lane, .int x1, .int (nI nn)] : List Value).toArray s 0 0 A) (F0 m 43 ls []) := by
            intro nf
            induction nf with
            | zero => intro j19 h1 h2; exact absurd h1 (by omega)
            | succ nf ih43_20 =>
              intro j19 hn21 hj22  H locs hinv hP hD hS ls hl
              refine lv_iload hx hb dX10_read_43 (lv_at hl 0 rfl) ?_
              refine lv_aload_n hx hb dX10_read_45 rfl (lv_at hl 1 rfl) ?_
              refine va_get (D := (dC, dI)) (ci := 10) (v := .ref sh) (C := RX10) (T := TX10) (N := 14) hx hb hg inG10 hown hK.1 hP 0 rfl rfl 11 (Nat.le_of_ble_eq_true rfl) (hg _ wt_313) (fun _ h9 => h9) rfl dX10_read_46 ?_
              refine va_getN (D := (dC, dI)) (ci := 6) (v := .int (nI u16)) (C := RX6) (T := TX6) (N := 7) hx hb hg inG6 hown hK.1 hP 3 rfl rfl 4 (Nat.le_of_ble_eq_true rfl) (hK.nest wn_282) (fun _ h9 => h9) rfl dX10_read_49 ?_
              refine lv_icmp_ge (tgt := 107) hx hb dX10_read_52 rfl (fun c23 => ?_) (fun c23 => ?_)
              · skip
                have tn2099_ : nIT j19 := fun _ => nI_toInt (by first | omega | (have t := leI c23; omega))
                have tn2100_ : nIT u16 := fun _ => nI_toInt (by omega)
                have n24 : u16 ≤ j19 := by have t := leI c23; rw [show (nI (j19)).toInt = ((j19 : Nat) : Int) from tn2099_ ()] at t; rw [show (nI (u16)).toInt = ((u16 : Nat) : Int) from tn2100_ ()] at t; omega
                have hchk := hinv
                have hall : rdI N B u17 u18 u16 0 = u16 := (by have t_b5 := b5; have t_b10 := b10; have t_c11 := nltI c11; have t_c12 := leI c12; have t_hkk := hkk; have t_hnn := hnn; have t_hj22 := hj22; have t_n24 := n24; have tqz_ := qz12_; have tnb_ := nib6 tn2093_ tn2094_ tn2095_ tn2097_ tn2098_ tn2099_; rw [← hinv.2, show j19 = u16 by omega, Nat.sub_self]; rfl)
                refine lv_iconst (v := 0) hx hb dX10_read_107 rfl ?_
                refine lv_istore (lv' := [(5, .int 0), (0, .ref h0), (1, .int (nI kk)), (2, .int lane), (3, .int x1), (4, .int (nI nn))]) hx hb dX10_read_108 hl (by decide) rfl (fun ls hl => ?_)
                have loop110_27 : ∀ (nf j25 : Nat), u16 + 1 ≤ j25 + nf → j25 ≤ u16 → ∀ (g26 : Nat → Int32) (H : Heap) (locs : List Loc), g26 = rdO u17 u18 f3 j25 → va_P (dC, dI) vwCl (([(h0, .inr (10, [.ref rd, .ref wy, .ref tr, .ref im, .ref kp, .ref od, .ref ch, .ref cr, .ref le, .ref mk, .ref tl, .ref sh, .int tf, .int rf])), (wy, .inr (9, [.int (nI N), .int (nI B), .int (nI D), .ref a1, .ref a2, .ref a3, .ref a4, .ref a5, .ref a6])), (a3, .inl (G 0, 10, .inl g26)), (sh, .inr (6, [.ref la, .ref si, .ref ce, .int u15, .int (nI u16), .ref fi, .ref se])), (la, .inl (G 0, 4, .inl fl)), (si, .inl (G 0, 4, .inl fz)), (ce, .inl (G 4, 4, .inr (.inr (.inr (.inr (fun ir => if ir < 4 then some (rc ir) else none)))))), (fi, .inl (G 0, 20, .inl u17)), (se, .inl (G 0, 20, .inl u18))] : va_W) ++ ((((List.range 4).map (fun iq => (rc iq, .inl (G 0, 40, .inl (F iq))))) : va_W) ++ [])) H → va_D A (([(h0, .inr (10, [.ref rd, .ref wy, .ref tr, .ref im, .ref kp, .ref od, .ref ch, .ref cr, .ref le, .ref mk, .ref tl, .ref sh, .int tf, .int rf])), (wy, .inr (9, [.int (nI N), .int (nI B), .int (nI D), .ref a1, .ref a2, .ref a3, .ref a4, .ref a5, .ref a6])), (a3, .inl (G 0, 10, .inl g26)), (sh, .inr (6, [.ref la, .ref si, .ref ce, .int u15, .int (nI u16), .ref fi, .ref se])), (la, .inl (G 0, 4, .inl fl)), (si, .inl (G 0, 4, .inl fz)), (ce, .inl (G 4, 4, .inr (.inr (.inr (.inr (fun ir => if ir < 4 then some (rc ir) else none)))))), (fi, .inl (G 0, 20, .inl u17)), (se, .inl (G 0, 20, .inl u18))] : va_W) ++ ((((List.range 4).map (fun iq => (rc iq, .inl (G 0, 40, .inl (F iq))))) : va_W) ++ [])) → va_S A s.heap H locs → ∀ (ls : Array Slot), lv_has ls 6 [(5, .int (nI j25)), (0, .ref h0), (1, .int (nI kk)), (2, .int lane), (3, .int x1), (4, .int (nI nn))] → W p l e (headSpec (Cond.code yX10_read cX10_read 6 (some .int) :: GT) ({ frames := 2, cells := 0, slots := 0, locals := 50 } : Room)).room s m ([.ref h0, .int (nI kk), .int lane, .int x1, .int (nI nn)] : List Value).toArray below meth c H locs 0 0 (MQ below (va_Qi (fun (r : Int32) (u : Int32 × Int32 × (Nat → Int32) × (Nat → Int32) × (Nat → Int32) × Int32) => match u with | (u0, u1, u2, u3, u4, u5) => (r = if ((0 ≤ (nI kk).toInt ∧ (nI kk).toInt < 4) ∧ (0 ≤ lane.toInt ∧ lane.toInt ≤ 2) ∧ 0 ≤ (nI nn).toInt ∧ (nI nn).toInt ≤ 20) then rdR N B (fun q8 : Nat => F (nI kk).toNatClampNeg (x1.toInt + 2 * (q8 : Int) + 0).toNat) (fun q8 : Nat => F (nI kk).toNatClampNeg (x1.toInt + 2 * (q8 : Int) + 1).toNat) (tpK (fl (nI kk).toNatClampNeg) lane (fz (nI kk).toNatClampNeg).toInt x1.toInt (nI nn).toNatClampNeg) else -1) ∧ u4 = (if ((0 ≤ (nI kk).toInt ∧ (nI kk).toInt < 4) ∧ (0 ≤ lane.toInt ∧ lane.toInt ≤ 2) ∧ 0 ≤ (nI nn).toInt ∧ (nI nn).toInt ≤ 20) then rdF N B (fun q8 : Nat => F (nI kk).toNatClampNeg (x1.toInt + 2 * (q8 : Int) + 0).toNat) (fun q8 : Nat => F (nI kk).toNatClampNeg (x1.toInt + 2 * (q8 : Int) + 1).toNat) (tpK (fl (nI kk).toNatClampNeg) lane (fz (nI kk).toNatClampNeg).toInt x1.toInt (nI nn).toNatClampNeg) f3 else f3)) (fun (u : Int32 × Int32 × (Nat → Int32) × (Nat → Int32) × (Nat → Int32) × Int32) (t : State) => match u with | (u0, u1, u2, u3, u4, u5) => va_P (dC, dI) vwCl (([(h0, .inr (10, [.ref rd, .ref wy, .ref tr, .ref im, .ref kp, .ref od, .ref ch, .ref cr, .ref le, .ref mk, .ref tl, .ref sh, .int tf, .int u5])), (wy, .inr (9, [.int (nI N), .int (nI B), .int (nI D), .ref a1, .ref a2, .ref a3, .ref a4, .ref a5, .ref a6])), (a3, .inl (G 0, 10, .inl u4)), (sh, .inr (6, [.ref la, .ref si, .ref ce, .int u0, .int u1, .ref fi, .ref se])), (la, .inl (G 0, 4, .inl fl)), (si, .inl (G 0, 4, .inl fz)), (ce, .inl (G 4, 4, .inr (.inr (.inr (.inr (fun ir => if ir < 4 then some (rc ir) else none)))))), (fi, .inl (G 0, 20, .inl u2)), (se, .inl (G 0, 20, .inl u3))] : va_W) ++ ((((List.range 4).map (fun iq => (rc iq, .inl (G 0, 40, .inl (F iq))))) : va_W) ++ [])) t.heap ∧ va_D A (([(h0, .inr (10, [.ref rd, .ref wy, .ref tr, .ref im, .ref kp, .ref od, .ref ch, .ref cr, .ref le, .ref mk, .ref tl, .ref sh, .int tf, .int u5])), (wy, .inr (9, [.int (nI N), .int (nI B), .int (nI D), .ref a1, .ref a2, .ref a3, .ref a4, .ref a5, .ref a6])), (a3, .inl (G 0, 10, .inl u4)), (sh, .inr (6, [.ref la, .ref si, .ref ce, .int u0, .int u1, .ref fi, .ref se])), (la, .inl (G 0, 4, .inl fl)), (si, .inl (G 0, 4, .inl fz)), (ce, .inl (G 4, 4, .inr (.inr (.inr (.inr (fun ir => if ir < 4 then some (rc ir) else none)))))), (fi, .inl (G 0, 20, .inl u2)), (se, .inl (G 0, 20, .inl u3))] : va_W) ++ ((((List.range 4).map (fun iq => (rc iq, .inl (G 0, 40, .inl (F iq))))) : va_W) ++ []))) A) ([.ref h0, .int (nI kk), .int lane, .int x1, .int (nI nn)] : List Value).toArray s 0 0 A) (F0 m 110 ls []) := by
                  intro nf
                  induction nf with
                  | zero => intro j25 h1 h2; exact absurd h1 (by omega)
                  | succ nf ih110_27 =>
                    intro j25 hn28 hj29 g26 H locs hinv hP hD hS ls hl
                    refine lv_iload hx hb dX10_read_110 (lv_at hl 0 rfl) ?_
                    refine lv_aload_n hx hb dX10_read_112 rfl (lv_at hl 1 rfl) ?_
                    refine va_get (D := (dC, dI)) (ci := 10) (v := .ref sh) (C := RX10) (T := TX10) (N := 14) hx hb hg inG10 hown hK.1 hP 0 rfl rfl 11 (Nat.le_of_ble_eq_true rfl) (hg _ wt_313) (fun _ h9 => h9) rfl dX10_read_113 ?_
                    refine va_getN (D := (dC, dI)) (ci := 6) (v := .int (nI u16)) (C := RX6) (T := TX6) (N := 7) hx hb hg inG6 hown hK.1 hP 3 rfl rfl 4 (Nat.le_of_ble_eq_true rfl) (hK.nest wn_282) (fun _ h9 => h9) rfl dX10_read_116 ?_
                    refine lv_icmp_ge (tgt := 156) hx hb dX10_read_119 rfl (fun c30 => ?_) (fun c30 => ?_)
                    · skip
                      have tn2101_ : nIT j25 := fun _ => nI_toInt (by first | omega | (have t := leI c30; omega))
                      have n31 : u16 ≤ j25 := by have t := leI c30; rw [show (nI (j25)).toInt = ((j25 : Nat) : Int) from tn2101_ ()] at t; rw [show (nI (u16)).toInt = ((u16 : Nat) : Int) from tn2100_ ()] at t; omega
                      refine lv_aload_n hx hb dX10_read_156 rfl (lv_at hl 1 rfl) ?_
                      refine lv_aload_n hx hb dX10_read_157 rfl (lv_at hl 1 rfl) ?_
                      refine va_get (D := (dC, dI)) (ci := 10) (v := .ref sh) (C := RX10) (T := TX10) (N := 14) hx hb hg inG10 hown hK.1 hP 0 rfl rfl 11 (Nat.le_of_ble_eq_true rfl) (hg _ wt_313) (fun _ h9 => h9) rfl dX10_read_158 ?_
                      refine va_getN (D := (dC, dI)) (ci := 6) (v := .int u15) (C := RX6) (T := TX6) (N := 7) hx hb hg inG6 hown hK.1 hP 3 rfl rfl 3 (Nat.le_of_ble_eq_true rfl) (hK.nest wn_280) (fun _ h9 => h9) rfl dX10_read_161 ?_
                      refine va_put (D := (dC, dI)) (ci := 10) (v := .int u15) (ty := .int) (C := RX10) (T := TX10) (N := 14) hx hb hg inG10 tyX10 tyX10_ok nmX10 hown hK.1 hP hD hS 0 rfl rfl 13 (Nat.le_of_ble_eq_true rfl) (hg _ wt_315) (fun _ h9 => h9) rfl (by decide +kernel) rfl rfl (Nat.le_of_ble_eq_true rfl) dX10_read_164 (fun H locs hP hD hS => ?_)
                      refine lv_aload_n hx hb dX10_read_167 rfl (lv_at hl 1 rfl) ?_
                      refine va_get (D := (dC, dI)) (ci := 10) (v := .ref sh) (C := RX10) (T := TX10) (N := 14) hx hb hg inG10 hown hK.1 hP 0 rfl rfl 11 (Nat.le_of_ble_eq_true rfl) (hg _ wt_313) (fun _ h9 => h9) rfl dX10_read_168 ?_
                      refine va_getN (D := (dC, dI)) (ci := 6) (v := .int (nI u16)) (C := RX6) (T := TX6) (N := 7) hx hb hg inG6 hown hK.1 hP 3 rfl rfl 4 (Nat.le_of_ble_eq_true rfl) (hK.nest wn_282) (fun _ h9 => h9) rfl dX10_read_171 ?_
                      have hpost : (nI u16 : Int32) = if ((0 ≤ (nI kk).toInt ∧ (nI kk).toInt < 4) ∧ (0 ≤ lane.toInt ∧ lane.toInt ≤ 2) ∧ 0 ≤ (nI nn).toInt ∧ (nI nn).toInt ≤ 20) then rdR N B (fun q8 : Nat => F (nI kk).toNatClampNeg (x1.toInt + 2 * (q8 : Int) + 0).toNat) (fun q8 : Nat => F (nI kk).toNatClampNeg (x1.toInt + 2 * (q8 : Int) + 1).toNat) (tpK (fl (nI kk).toNatClampNeg) lane (fz (nI kk).toNatClampNeg).toInt x1.toInt (nI nn).toNatClampNeg) else -1 := by
                        have t_b5 := b5
                        have t_b10 := b10
                        have t_c11 := nltI c11
                        have t_c12 := leI c12
                        have t_hkk := hkk
                        have t_hnn := hnn
                        have t_hj22 := hj22
                        have t_n24 := n24
                        have t_hj29 := hj29
                        have t_n31 := n31
                        have : (0 : Int32).toInt = 0 := qI_0
                        have : (20 : Int32).toInt = 20 := qI_20
                        have t_n0 : (nI N).toInt = (N : Int) := tn2093_ ()
                        have t_n1 : (nI B).toInt = (B : Int) := tn2094_ ()
                        have t_n2 : (nI D).toInt = (D : Int) := tn2095_ ()
                        have t_n3 : (nI kk).toInt = (kk : Int) := tn2097_ ()
                        have t_n4 : (nI nn).toInt = (nn : Int) := tn2098_ ()
                        have t_n5 : (nI j19).toInt = (j19 : Int) := tn2099_ ()
                        have t_n6 : (nI j25).toInt = (j25 : Int) := tn2101_ ()
                        have z0 : (0 : Int32).toInt = 0 := qI_0
                        have z1 : (1 : Int32).toInt = 1 := qI_1
                        have z2 : (2 : Int32).toInt = 2 := qI_2
                        have z3 : (3 : Int32).toInt = 3 := qI_3
                        have z5 : (5 : Int32).toInt = 5 := qI_5
                        have z9 : (9 : Int32).toInt = 9 := qI_9
                        have z20 : (20 : Int32).toInt = 20 := qI_20
                        have z4 : (-4 : Int32).toInt = -4 := (by decide)
                        have z10 : (10 : Int32).toInt = 10 := qI_10
                        have hm9 := w14.1
                        have hI9 := rdI_cg (N := N) (B := B) (m := u16) w14.2.1 w14.2.2.1 u16 0 (by omega)
                        have hO9 := rdO_cg (o := f3) (m := u16) w14.2.1 w14.2.2.1 u16 (Nat.le_refl _)
                        rw [if_pos (by omega), nI_clamp (by omega), nI_clamp (by omega)]
                        unfold rdR
                        rw [← hm9, ← hI9]
                        rw [hall, if_neg (by omega)]
                      obtain ⟨hP9, hD9⟩ := va_sub2 (ws' := (([(h0, .inr (10, [.ref rd, .ref wy, .ref tr, .ref im, .ref kp, .ref od, .ref ch, .ref cr, .ref le, .ref mk, .ref tl, .ref sh, .int tf, .int u15])), (wy, .inr (9, [.int (nI N), .int (nI B), .int (nI D), .ref a1, .ref a2, .ref a3, .ref a4, .ref a5, .ref a6])), (a3, .inl (G 0, 10, .inl g26)), (sh, .inr (6, [.ref la, .ref si, .ref ce, .int u15, .int (nI u16), .ref fi, .ref se])), (la, .inl (G 0, 4, .inl fl)), (si, .inl (G 0, 4, .inl fz)), (ce, .inl (G 4, 4, .inr (.inr (.inr (.inr (fun ir => if ir < 4 then some (rc ir) else none)))))), (fi, .inl (G 0, 20, .inl u17)), (se, .inl (G 0, 20, .inl u18))] : va_W) ++ ((((List.range 4).map (fun iq => (rc iq, .inl (G 0, 40, .inl (F iq))))) : va_W) ++ []))) hP hD [0, 1, 2, 3, 4, 5, 6, 7, 8, 9, 10, 11, 12] (by decide +kernel) rfl
                      refine W.widen (k := 0) (n := 0) (Nat.le_of_ble_eq_true rfl) (Nat.le_of_ble_eq_true rfl) ?_
                      exact W.iret (v := nI u16) hx hb hr (fun t ht hW => ⟨⟨nI u16, (u15, (nI u16), u17, u18, g26, u15), rfl, ⟨hpost, (by clear hpost; have t_b5 := b5; have t_b10 := b10; have t_c11 := nltI c11; have t_c12 := leI c12; have t_hkk := hkk; have t_hnn := hnn; have t_hj22 := hj22; have t_n24 := n24; have t_hj29 := hj29; have t_n31 := n31; have tqz_ := qz12_; have tnb_ := nib7 tn2093_ tn2094_ tn2095_ tn2097_ tn2098_ tn2099_ tn2101_; have tqz_ := qz46_; have z4 : (-4 : Int32).toInt = -4 := (by decide); have z10 : (10 : Int32).toInt = 10 := qI_10; have hm9 := w14.1; have hI9 := rdI_cg (N := N) (B := B) (m := u16) w14.2.1 w14.2.2.1 u16 0 (by omega); have hO9 := rdO_cg (o := f3) (m := u16) w14.2.1 w14.2.2.1 u16 (Nat.le_refl _); rw [if_pos (by omega), nI_clamp (by omega), nI_clamp (by omega)]; unfold rdF; rw [← hm9, ← hI9]; rw [hall, if_neg (by omega), ← hO9]; rw [hinv, show j25 = u16 by omega])⟩, ⟨by rw [ht]; exact hP9, hD9⟩⟩, hS.F ht⟩) hS.2.2 dX10_read_174
                    · skip
                      have tn2102_ : nIT j25 := fun _ => nI_toInt (by first | omega | (have t := nleI c30; omega))
                      have n32 : j25 < u16 := by have t := nleI c30; rw [show (nI (j25)).toInt = ((j25 : Nat) : Int) from tn2102_ ()] at t; rw [show (nI (u16)).toInt = ((u16 : Nat) : Int) from tn2100_ ()] at t; omega
                      refine lv_aload_n hx hb dX10_read_122 rfl (lv_at hl 1 rfl) ?_
                      refine va_get (D := (dC, dI)) (ci := 10) (v := .ref wy) (C := RX10) (T := TX10) (N := 14) hx hb hg inG10 hown hK.1 hP 0 rfl rfl 1 (Nat.le_of_ble_eq_true rfl) (hg _ wt_303) (fun _ h9 => h9) rfl dX10_read_123 ?_
                      refine va_getN (D := (dC, dI)) (ci := 9) (v := .ref a3) (C := RX9) (T := TX9) (N := 9) hx hb hg inG9 hown hK.1 hP 1 rfl rfl 5 (Nat.le_of_ble_eq_true rfl) (hK.nest wn_78) (fun _ h9 => h9) rfl dX10_read_126 ?_
                      refine lv_aload_n hx hb dX10_read_129 rfl (lv_at hl 1 rfl) ?_
                      refine va_get (D := (dC, dI)) (ci := 10) (v := .ref sh) (C := RX10) (T := TX10) (N := 14) hx hb hg inG10 hown hK.1 hP 0 rfl rfl 11 (Nat.le_of_ble_eq_true rfl) (hg _ wt_313) (fun _ h9 => h9) rfl dX10_read_130 ?_
                      refine va_getN (D := (dC, dI)) (ci := 6) (v := .ref fi) (C := RX6) (T := TX6) (N := 7) hx hb hg inG6 hown hK.1 hP 3 rfl rfl 5 (Nat.le_of_ble_eq_true rfl) (hK.nest wn_284) (fun _ h9 => h9) rfl dX10_read_133 ?_
                      refine lv_iload hx hb dX10_read_136 (lv_at hl 0 rfl) ?_
                      refine va_iald hx hb hK.1 hP 7 0 rfl rfl (vp_in_nI (by first | omega | (have t_b5 := b5; have t_b10 := b10; have t_c11 := nltI c11; have t_c12 := leI c12; have t_hkk := hkk; have t_hnn := hnn; have t_hj22 := hj22; have t_n24 := n24; have t_hj29 := hj29; have t_n32 := n32; have tqz_ := qz12_; have tnb_ := nib7 tn2093_ tn2094_ tn2095_ tn2097_ tn2098_ tn2099_ tn2102_; omega)) (by decide)) dX10_read_138 ?_
                      refine lv_cg (y := u17 j25) (by rw [nI_clamp (by omega)]) ?_
                      refine lv_aload_n hx hb dX10_read_139 rfl (lv_at hl 1 rfl) ?_
                      refine va_get (D := (dC, dI)) (ci := 10) (v := .ref sh) (C := RX10) (T := TX10) (N := 14) hx hb hg inG10 hown hK.1 hP 0 rfl rfl 11 (Nat.le_of_ble_eq_true rfl) (hg _ wt_313) (fun _ h9 => h9) rfl dX10_read_140 ?_
                      refine va_getN (D := (dC, dI)) (ci := 6) (v := .ref se) (C := RX6) (T := TX6) (N := 7) hx hb hg inG6 hown hK.1 hP 3 rfl rfl 6 (Nat.le_of_ble_eq_true rfl) (hK.nest wn_286) (fun _ h9 => h9) rfl dX10_read_143 ?_
                      refine lv_iload hx hb dX10_read_146 (lv_at hl 0 rfl) ?_
                      refine va_iald hx hb hK.1 hP 8 0 rfl rfl (vp_in_nI (by first | omega | (have t_b5 := b5; have t_b10 := b10; have t_c11 := nltI c11; have t_c12 := leI c12; have t_hkk := hkk; have t_hnn := hnn; have t_hj22 := hj22; have t_n24 := n24; have t_hj29 := hj29; have t_n32 := n32; have tqz_ := qz12_; have tnb_ := nib7 tn2093_ tn2094_ tn2095_ tn2097_ tn2098_ tn2099_ tn2102_; omega)) (by decide)) dX10_read_148 ?_
                      refine lv_cg (y := u18 j25) (by rw [nI_clamp (by omega)]) ?_
                      have hq33 := hchk.1 j25 (by omega)
                      refine va_iast hx hb hK.1 hP hD hS 2 0 rfl rfl (vp_in_iff.mpr (by have t_b5 := b5; have t_b10 := b10; have t_c11 := nltI c11; have t_c12 := leI c12; have t_hkk := hkk; have t_hnn := hnn; have t_hj22 := hj22; have t_n24 := n24; have t_hj29 := hj29; have t_n32 := n32; have t_hq33 := hq33; have tqz_ := qz12_; have tnb_ := nib7 tn2093_ tn2094_ tn2095_ tn2097_ tn2098_ tn2099_ tn2102_; constructor <;> omega)) dX10_read_149 (fun H locs hP hD hS => ?_)
                      refine lv_iinc (v := nI (j25 + 1)) (lv' := [(5, .int (nI (j25 + 1))), (0, .ref h0), (1, .int (nI kk)), (2, .int lane), (3, .int x1), (4, .int (nI nn))]) hx hb dX10_read_150 hl (k := 0) rfl (by rw [show Int32.ofInt 1 = nI 1 from by decide]; exact nI_add _ _) (by decide) rfl (fun ls hl => ?_)
                      refine lv_goto (tgt := 110) hx hb dX10_read_153 rfl ?_
                      exact ih110_27 (j25 + 1) (by omega) (by omega) (upd g26 (u17 j25).toNatClampNeg (u18 j25)) _ _ (by rw [hinv]; rfl) hP hD hS ls (lv_sub hl [0, 1, 2, 3, 4, 5] rfl)
                exact loop110_27 (u16 + 1) 0 (by omega) (by omega) f3 _ _ rfl hP hD hS ls (lv_sub hl [0, 1, 2, 3, 4, 5] rfl)
              · skip
                have tn2103_ : nIT j19 := fun _ => nI_toInt (by first | omega | (have t := nleI c23; omega))
                have tn2104_ : nIT u16 := fun _ => nI_toInt (by omega)
                have n34 : j19 < u16 := by have t := nleI c23; rw [show (nI (j19)).toInt = ((j19 : Nat) : Int) from tn2103_ ()] at t; rw [show (nI (u16)).toInt = ((u16 : Nat) : Int) from tn2104_ ()] at t; omega
                refine lv_aload_n hx hb dX10_read_55 rfl (lv_at hl 1 rfl) ?_
                refine va_get (D := (dC, dI)) (ci := 10) (v := .ref wy) (C := RX10) (T := TX10) (N := 14) hx hb hg inG10 hown hK.1 hP 0 rfl rfl 1 (Nat.le_of_ble_eq_true rfl) (hg _ wt_303) (fun _ h9 => h9) rfl dX10_read_56 ?_
                refine lv_aload_n hx hb dX10_read_59 rfl (lv_at hl 1 rfl) ?_
                refine va_get (D := (dC, dI)) (ci := 10) (v := .ref sh) (C := RX10) (T := TX10) (N := 14) hx hb hg inG10 hown hK.1 hP 0 rfl rfl 11 (Nat.le_of_ble_eq_true rfl) (hg _ wt_313) (fun _ h9 => h9) rfl dX10_read_60 ?_
                refine va_getN (D := (dC, dI)) (ci := 6) (v := .ref fi) (C := RX6) (T := TX6) (N := 7) hx hb hg inG6 hown hK.1 hP 3 rfl rfl 5 (Nat.le_of_ble_eq_true rfl) (hK.nest wn_284) (fun _ h9 => h9) rfl dX10_read_63 ?_
                refine lv_iload hx hb dX10_read_66 (lv_at hl 0 rfl) ?_
                refine va_iald hx hb hK.1 hP 7 0 rfl rfl (vp_in_nI (by first | omega | (have t_b5 := b5; have t_b10 := b10; have t_c11 := nltI c11; have t_c12 := leI c12; have t_hkk := hkk; have t_hnn := hnn; have t_hj22 := hj22; have t_n34 := n34; have tqz_ := qz12_; have tnb_ := nib6 tn2093_ tn2094_ tn2095_ tn2097_ tn2098_ tn2103_; omega)) (by decide)) dX10_read_68 ?_
                refine lv_cg (y := u17 j19) (by rw [nI_clamp (by omega)]) ?_
                have hPc := hP.sub (ws' := [(wy, .inr (9, [.int (nI N), .int (nI B), .int (nI D), .ref a1, .ref a2, .ref a3, .ref a4, .ref a5, .ref a6]))]) [1] rfl
                refine va_calli (va_runVN (As := [.int (u17 j19)]) (rest := []) ⟨hx, hb, hml, hown, hg⟩ (c_X9_hasStretch l dC dI G _ wy a1 a2 a3 a4 a5 a6 N B D (u17 j19) hN_N hB_B hD_D) (kwVN hg hK mfX9_hasStretch wn_527 ⟨Nat.le_of_ble_eq_true rfl, Nat.le_of_ble_eq_true rfl⟩) (preVR hK hPc (ci := 9) (r := (RX9, TX9, 9)) rfl rfl) rfl rfl hl.1 rfl (lv_room (Nat.le_of_ble_eq_true rfl)) dX10_read_69 ⟨Nat.le_of_ble_eq_true rfl, Nat.le_of_ble_eq_true rfl⟩) hS (fun q h1 h2 => absurd h2 (Nat.not_le.mpr h1)) (fun q h => hA q (Nat.le_trans hS.1 h)) (fun r35 ur35 t H1 locs ht hvm w36 hB hz1 hk1 hS => ?_)
                have hP := keepR hP hk1
                obtain ⟨w36, w36x⟩ := w36
                try simp only [l_ii, show (0 : Int32).toInt = 0 from by decide] at w36
                try rw [show (nI (N)).toInt = ((N : Nat) : Int) from tn2093_ ()] at w36
                subst w36
                refine lv_if_eq (tgt := 95) hx hb dX10_read_72 rfl (fun c37 => ?_) (fun c37 => ?_)
                · skip
                  have b38 := if10_n c37
                  refine lv_bipush (v := (-20)) hx hb dX10_read_95 rfl ?_
                  refine lv_iload hx hb dX10_read_97 (lv_at hl 0 rfl) ?_
                  refine lv_isub hx hb dX10_read_99 ?_
                  have hpost : ((-20) - (nI j19) : Int32) = if ((0 ≤ (nI kk).toInt ∧ (nI kk).toInt < 4) ∧ (0 ≤ lane.toInt ∧ lane.toInt ≤ 2) ∧ 0 ≤ (nI nn).toInt ∧ (nI nn).toInt ≤ 20) then rdR N B (fun q8 : Nat => F (nI kk).toNatClampNeg (x1.toInt + 2 * (q8 : Int) + 0).toNat) (fun q8 : Nat => F (nI kk).toNatClampNeg (x1.toInt + 2 * (q8 : Int) + 1).toNat) (tpK (fl (nI kk).toNatClampNeg) lane (fz (nI kk).toNatClampNeg).toInt x1.toInt (nI nn).toNatClampNeg) else -1 := by
                    have t_b5 := b5
                    have t_b10 := b10
                    have t_c11 := nltI c11
                    have t_c12 := leI c12
                    have t_hkk := hkk
                    have t_hnn := hnn
                    have t_hj22 := hj22
                    have t_n34 := n34
                    have t_b38 := b38
                    have : (0 : Int32).toInt = 0 := qI_0
                    have : (20 : Int32).toInt = 20 := qI_20
                    have t_n0 : (nI N).toInt = (N : Int) := tn2093_ ()
                    have t_n1 : (nI B).toInt = (B : Int) := tn2094_ ()
                    have t_n2 : (nI D).toInt = (D : Int) := tn2095_ ()
                    have t_n3 : (nI kk).toInt = (kk : Int) := tn2097_ ()
                    have t_n4 : (nI nn).toInt = (nn : Int) := tn2098_ ()
                    have t_n5 : (nI j19).toInt = (j19 : Int) := tn2103_ ()
                    have z0 : (0 : Int32).toInt = 0 := qI_0
                    have z1 : (1 : Int32).toInt = 1 := qI_1
                    have z2 : (2 : Int32).toInt = 2 := qI_2
                    have z3 : (3 : Int32).toInt = 3 := qI_3
                    have z5 : (5 : Int32).toInt = 5 := qI_5
                    have z9 : (9 : Int32).toInt = 9 := qI_9
                    have z20 : (20 : Int32).toInt = 20 := qI_20
                    have z4 : (-4 : Int32).toInt = -4 := (by decide)
                    have z10 : (10 : Int32).toInt = 10 := qI_10
                    have hm9 := w14.1
                    have hI9 := rdI_cg (N := N) (B := B) (m := u16) w14.2.1 w14.2.2.1 u16 0 (by omega)
                    have hO9 := rdO_cg (o := f3) (m := u16) w14.2.1 w14.2.2.1 u16 (Nat.le_refl _)
                    rw [if_pos (by omega), nI_clamp (by omega), nI_clamp (by omega)]
                    unfold rdR
                    rw [← hm9, ← hI9]
                    have hj9 : rdI N B u17 u18 u16 0 = j19 := (by rw [← hinv.2]; exact rdI_no (by omega))
                    rw [hj9, if_pos (by omega)]
                  obtain ⟨hP9, hD9⟩ := va_sub2 (ws' := (([(h0, .inr (10, [.ref rd, .ref wy, .ref tr, .ref im, .ref kp, .ref od, .ref ch, .ref cr, .ref le, .ref mk, .ref tl, .ref sh, .int tf, .int rf])), (wy, .inr (9, [.int (nI N), .int (nI B), .int (nI D), .ref a1, .ref a2, .ref a3, .ref a4, .ref a5, .ref a6])), (a3, .inl (G 0, 10, .inl f3)), (sh, .inr (6, [.ref la, .ref si, .ref ce, .int u15, .int (nI u16), .ref fi, .ref se])), (la, .inl (G 0, 4, .inl fl)), (si, .inl (G 0, 4, .inl fz)), (ce, .inl (G 4, 4, .inr (.inr (.inr (.inr (fun ir => if ir < 4 then some (rc ir) else none)))))), (fi, .inl (G 0, 20, .inl u17)), (se, .inl (G 0, 20, .inl u18))] : va_W) ++ ((((List.range 4).map (fun iq => (rc iq, .inl (G 0, 40, .inl (F iq))))) : va_W) ++ []))) hP hD [0, 1, 2, 3, 4, 5, 6, 7, 8, 9, 10, 11, 12] (by decide +kernel) rfl
                  refine W.widen (k := 0) (n := 0) (Nat.le_of_ble_eq_true rfl) (Nat.le_of_ble_eq_true rfl) ?_
                  exact W.iret (v := (-20) - (nI j19)) hx hb hr (fun t ht hW => ⟨⟨(-20) - (nI j19), (u15, (nI u16), u17, u18, f3, rf), rfl, ⟨hpost, (by clear hpost; have t_b5 := b5; have t_b10 := b10; have t_c11 := nltI c11; have t_c12 := leI c12; have t_hkk := hkk; have t_hnn := hnn; have t_hj22 := hj22; have t_n34 := n34; have t_b38 := b38; have tqz_ := qz12_; have tnb_ := nib6 tn2093_ tn2094_ tn2095_ tn2097_ tn2098_ tn2103_; have tqz_ := qz46_; have z4 : (-4 : Int32).toInt = -4 := (by decide); have z10 : (10 : Int32).toInt = 10 := qI_10; have hm9 := w14.1; have hI9 := rdI_cg (N := N) (B := B) (m := u16) w14.2.1 w14.2.2.1 u16 0 (by omega); have hO9 := rdO_cg (o := f3) (m := u16) w14.2.1 w14.2.2.1 u16 (Nat.le_refl _); rw [if_pos (by omega), nI_clamp (by omega), nI_clamp (by omega)]; unfold rdF; rw [← hm9, ← hI9]; first | (have hj9 : rdI N B u17 u18 u16 0 = j19 := (by rw [← hinv.2]; exact rdI_no (by omega)); rw [hj9, if_pos (by omega)]; done) | (rw [hall, if_neg (by omega)]; rfl))⟩, ⟨by rw [ht]; exact hP9, hD9⟩⟩, hS.F ht⟩) hS.2.2 dX10_read_100
                · skip
                  have b39 := if10_p c37
                  refine lv_aload_n hx hb dX10_read_75 rfl (lv_at hl 1 rfl) ?_
                  refine va_get (D := (dC, dI)) (ci := 10) (v := .ref wy) (C := RX10) (T := TX10) (N := 14) hx hb hg inG10 hown hK.1 hP 0 rfl rfl 1 (Nat.le_of_ble_eq_true rfl) (hg _ wt_303) (fun _ h9 => h9) rfl dX10_read_76 ?_
                  refine lv_aload_n hx hb dX10_read_79 rfl (lv_at hl 1 rfl) ?_
                  refine va_get (D := (dC, dI)) (ci := 10) (v := .ref sh) (C := RX10) (T := TX10) (N := 14) hx hb hg inG10 hown hK.1 hP 0 rfl rfl 11 (Nat.le_of_ble_eq_true rfl) (hg _ wt_313) (fun _ h9 => h9) rfl dX10_read_80 ?_
                  refine va_getN (D := (dC, dI)) (ci := 6) (v := .ref se) (C := RX6) (T := TX6) (N := 7) hx hb hg inG6 hown hK.1 hP 3 rfl rfl 6 (Nat.le_of_ble_eq_true rfl) (hK.nest wn_286) (fun _ h9 => h9) rfl dX10_read_83 ?_
                  refine lv_iload hx hb dX10_read_86 (lv_at hl 0 rfl) ?_
                  refine va_iald hx hb hK.1 hP 8 0 rfl rfl (vp_in_nI (by first | omega | (have t_b5 := b5; have t_b10 := b10; have t_c11 := nltI c11; have t_c12 := leI c12; have t_hkk := hkk; have t_hnn := hnn; have t_hj22 := hj22; have t_n34 := n34; have t_b39 := b39; have tqz_ := qz12_; have tnb_ := nib6 tn2093_ tn2094_ tn2095_ tn2097_ tn2098_ tn2103_; omega)) (by decide)) dX10_read_88 ?_
                  refine lv_cg (y := u18 j19) (by rw [nI_clamp (by omega)]) ?_
                  have hPc := hP.sub (ws' := [(wy, .inr (9, [.int (nI N), .int (nI B), .int (nI D), .ref a1, .ref a2, .ref a3, .ref a4, .ref a5, .ref a6]))]) [1] rfl
                  refine va_calli (va_runVN (As := [.int (u18 j19)]) (rest := []) ⟨hx, hb, hml, hown, hg⟩ (c_X9_hasBearer l dC dI G _ wy a1 a2 a3 a4 a5 a6 N B D (u18 j19) hN_N hB_B hD_D) (kwVN hg hK mfX9_hasBearer wn_535 ⟨Nat.le_of_ble_eq_true rfl, Nat.le_of_ble_eq_true rfl⟩) (preVR hK hPc (ci := 9) (r := (RX9, TX9, 9)) rfl rfl) rfl rfl hl.1 rfl (lv_room (Nat.le_of_ble_eq_true rfl)) dX10_read_89 ⟨Nat.le_of_ble_eq_true rfl, Nat.le_of_ble_eq_true rfl⟩) hS (fun q h1 h2 => absurd h2 (Nat.not_le.mpr h1)) (fun q h => hA q (Nat.le_trans hS.1 h)) (fun r40 ur40 t H1 locs ht hvm w41 hB hz1 hk1 hS => ?_)
                  have hP := keepR hP hk1
                  obtain ⟨w41, w41x⟩ := w41
                  try simp only [l_ii, show (0 : Int32).toInt = 0 from by decide] at w41
                  try rw [show (nI (B)).toInt = ((B : Nat) : Int) from tn2094_ ()] at w41
                  subst w41
                  refine lv_if_ne (tgt := 101) hx hb dX10_read_92 rfl (fun c42 => ?_) (fun c42 => ?_)
                  · skip
                    have b43 := if10_p c42
                    refine lv_iinc (v := nI (j19 + 1)) (lv' := [(5, .int (nI (j19 + 1))), (0, .ref h0), (1, .int (nI kk)), (2, .int lane), (3, .int x1), (4, .int (nI nn))]) hx hb dX10_read_101 hl (k := 0) rfl (by rw [show Int32.ofInt 1 = nI 1 from by decide]; exact nI_add _ _) (by decide) rfl (fun ls hl => ?_)
                    refine lv_goto (tgt := 43) hx hb dX10_read_104 rfl ?_
                    exact ih43_20 (j19 + 1) (by omega) (by omega)  _ _ ⟨(fun q9 hq9 => by rcases Nat.lt_or_eq_of_le (Nat.le_of_lt_succ hq9) with h9 | h9; exact hinv.1 q9 h9; rw [h9]; have t_b5 := b5; have t_b10 := b10; have t_c11 := nltI c11; have t_c12 := leI c12; have t_hkk := hkk; have t_hnn := hnn; have t_hj22 := hj22; have t_n34 := n34; have t_b39 := b39; have t_b43 := b43; have tqz_ := qz12_; have tnb_ := nib6 tn2093_ tn2094_ tn2095_ tn2097_ tn2098_ tn2103_; exact ⟨by omega, by omega⟩), (by have t_b5 := b5; have t_b10 := b10; have t_c11 := nltI c11; have t_c12 := leI c12; have t_hkk := hkk; have t_hnn := hnn; have t_hj22 := hj22; have t_n34 := n34; have t_b39 := b39; have t_b43 := b43; have tqz_ := qz12_; have tnb_ := nib6 tn2093_ tn2094_ tn2095_ tn2097_ tn2098_ tn2103_; rw [← rdI_go (by omega) ⟨⟨by omega, by omega⟩, ⟨by omega, by omega⟩⟩]; exact hinv.2)⟩ hP hD hS ls (lv_sub hl [0, 1, 2, 3, 4, 5] rfl)
                  · skip
                    have b44 := if10_n c42
                    refine lv_bipush (v := (-20)) hx hb dX10_read_95 rfl ?_
                    refine lv_iload hx hb dX10_read_97 (lv_at hl 0 rfl) ?_
                    refine lv_isub hx hb dX10_read_99 ?_
                    have hpost : ((-20) - (nI j19) : Int32) = if ((0 ≤ (nI kk).toInt ∧ (nI kk).toInt < 4) ∧ (0 ≤ lane.toInt ∧ lane.toInt ≤ 2) ∧ 0 ≤ (nI nn).toInt ∧ (nI nn).toInt ≤ 20) then rdR N B (fun q8 : Nat => F (nI kk).toNatClampNeg (x1.toInt + 2 * (q8 : Int) + 0).toNat) (fun q8 : Nat => F (nI kk).toNatClampNeg (x1.toInt + 2 * (q8 : Int) + 1).toNat) (tpK (fl (nI kk).toNatClampNeg) lane (fz (nI kk).toNatClampNeg).toInt x1.toInt (nI nn).toNatClampNeg) else -1 := by
                      have t_b5 := b5
                      have t_b10 := b10
                      have t_c11 := nltI c11
                      have t_c12 := leI c12
                      have t_hkk := hkk
                      have t_hnn := hnn
                      have t_hj22 := hj22
                      have t_n34 := n34
                      have t_b39 := b39
                      have t_b44 := b44
                      have : (0 : Int32).toInt = 0 := qI_0
                      have : (20 : Int32).toInt = 20 := qI_20
                      have t_n0 : (nI N).toInt = (N : Int) := tn2093_ ()
                      have t_n1 : (nI B).toInt = (B : Int) := tn2094_ ()
                      have t_n2 : (nI D).toInt = (D : Int) := tn2095_ ()
                      have t_n3 : (nI kk).toInt = (kk : Int) := tn2097_ ()
                      have t_n4 : (nI nn).toInt = (nn : Int) := tn2098_ ()
                      have t_n5 : (nI j19).toInt = (j19 : Int) := tn2103_ ()
                      have z0 : (0 : Int32).toInt = 0 := qI_0
                      have z1 : (1 : Int32).toInt = 1 := qI_1
                      have z2 : (2 : Int32).toInt = 2 := qI_2
                      have z3 : (3 : Int32).toInt = 3 := qI_3
                      have z5 : (5 : Int32).toInt = 5 := qI_5
                      have z9 : (9 : Int32).toInt = 9 := qI_9
                      have z20 : (20 : Int32).toInt = 20 := qI_20
                      have z4 : (-4 : Int32).toInt = -4 := (by decide)
                      have z10 : (10 : Int32).toInt = 10 := qI_10
                      have hm9 := w14.1
                      have hI9 := rdI_cg (N := N) (B := B) (m := u16) w14.2.1 w14.2.2.1 u16 0 (by omega)
                      have hO9 := rdO_cg (o := f3) (m := u16) w14.2.1 w14.2.2.1 u16 (Nat.le_refl _)
                      rw [if_pos (by omega), nI_clamp (by omega), nI_clamp (by omega)]
                      unfold rdR
                      rw [← hm9, ← hI9]
                      have hj9 : rdI N B u17 u18 u16 0 = j19 := (by rw [← hinv.2]; exact rdI_no (by omega))
                      rw [hj9, if_pos (by omega)]
                    obtain ⟨hP9, hD9⟩ := va_sub2 (ws' := (([(h0, .inr (10, [.ref rd, .ref wy, .ref tr, .ref im, .ref kp, .ref od, .ref ch, .ref cr, .ref le, .ref mk, .ref tl, .ref sh, .int tf, .int rf])), (wy, .inr (9, [.int (nI N), .int (nI B), .int (nI D), .ref a1, .ref a2, .ref a3, .ref a4, .ref a5, .ref a6])), (a3, .inl (G 0, 10, .inl f3)), (sh, .inr (6, [.ref la, .ref si, .ref ce, .int u15, .int (nI u16), .ref fi, .ref se])), (la, .inl (G 0, 4, .inl fl)), (si, .inl (G 0, 4, .inl fz)), (ce, .inl (G 4, 4, .inr (.inr (.inr (.inr (fun ir => if ir < 4 then some (rc ir) else none)))))), (fi, .inl (G 0, 20, .inl u17)), (se, .inl (G 0, 20, .inl u18))] : va_W) ++ ((((List.range 4).map (fun iq => (rc iq, .inl (G 0, 40, .inl (F iq))))) : va_W) ++ []))) hP hD [0, 1, 2, 3, 4, 5, 6, 7, 8, 9, 10, 11, 12] (by decide +kernel) rfl
                    refine W.widen (k := 0) (n := 0) (Nat.le_of_ble_eq_true rfl) (Nat.le_of_ble_eq_true rfl) ?_
                    exact W.iret (v := (-20) - (nI j19)) hx hb hr (fun t ht hW => ⟨⟨(-20) - (nI j19), (u15, (nI u16), u17, u18, f3, rf), rfl, ⟨hpost, (by clear hpost; have t_b5 := b5; have t_b10 := b10; have t_c11 := nltI c11; have t_c12 := leI c12; have t_hkk := hkk; have t_hnn := hnn; have t_hj22 := hj22; have t_n34 := n34; have t_b39 := b39; have t_b44 := b44; have tqz_ := qz12_; have tnb_ := nib6 tn2093_ tn2094_ tn2095_ tn2097_ tn2098_ tn2103_; have tqz_ := qz46_; have z4 : (-4 : Int32).toInt = -4 := (by decide); have z10 : (10 : Int32).toInt = 10 := qI_10; have hm9 := w14.1; have hI9 := rdI_cg (N := N) (B := B) (m := u16) w14.2.1 w14.2.2.1 u16 0 (by omega); have hO9 := rdO_cg (o := f3) (m := u16) w14.2.1 w14.2.2.1 u16 (Nat.le_refl _); rw [if_pos (by omega), nI_clamp (by omega), nI_clamp (by omega)]; unfold rdF; rw [← hm9, ← hI9]; first | (have hj9 : rdI N B u17 u18 u16 0 = j19 := (by rw [← hinv.2]; exact rdI_no (by omega)); rw [hj9, if_pos (by omega)]; done) | (rw [hall, if_neg (by omega)]; rfl))⟩, ⟨by rw [ht]; exact hP9, hD9⟩⟩, hS.F ht⟩) hS.2.2 dX10_read_100
          exact loop43_20 (u16 + 1) 0 (by omega) (by omega)  _ _ ⟨(fun q9 h9 => absurd h9 (Nat.not_lt_zero _)), rfl⟩ hP hD hS ls (lv_sub hl [0, 1, 2, 3, 4, 5] rfl)
        · skip
          refine lv_iconst (v := (-1)) hx hb dX10_read_26 rfl ?_
          have hpost : ((-1) : Int32) = if ((0 ≤ k.toInt ∧ k.toInt < 4) ∧ (0 ≤ lane.toInt ∧ lane.toInt ≤ 2) ∧ 0 ≤ n.toInt ∧ n.toInt ≤ 20) then rdR N B (fun q8 : Nat => F k.toNatClampNeg (x1.toInt + 2 * (q8 : Int) + 0).toNat) (fun q8 : Nat => F k.toNatClampNeg (x1.toInt + 2 * (q8 : Int) + 1).toNat) (tpK (fl k.toNatClampNeg) lane (fz k.toNatClampNeg).toInt x1.toInt n.toNatClampNeg) else -1 := by
            have t_b5 := b5
            have t_b10 := b10
            have t_c11 := nltI c11
            have t_c12 := nleI c12
            have : (0 : Int32).toInt = 0 := qI_0
            have : (20 : Int32).toInt = 20 := qI_20
            have t_n0 : (nI N).toInt = (N : Int) := tn2093_ ()
            have t_n1 : (nI B).toInt = (B : Int) := tn2094_ ()
            have t_n2 : (nI D).toInt = (D : Int) := tn2095_ ()
            have z0 : (0 : Int32).toInt = 0 := qI_0
            have z1 : (1 : Int32).toInt = 1 := qI_1
            have z2 : (2 : Int32).toInt = 2 := qI_2
            have z3 : (3 : Int32).toInt = 3 := qI_3
            have z5 : (5 : Int32).toInt = 5 := qI_5
            have z9 : (9 : Int32).toInt = 9 := qI_9
            have z20 : (20 : Int32).toInt = 20 := qI_20
            have z4 : (-4 : Int32).toInt = -4 := (by decide)
            have z10 : (10 : Int32).toInt = 10 := qI_10
            rw [if_neg (by omega)]
          obtain ⟨hP9, hD9⟩ := va_sub2 (ws' := (([(h0, .inr (10, [.ref rd, .ref wy, .ref tr, .ref im, .ref kp, .ref od, .ref ch, .ref cr, .ref le, .ref mk, .ref tl, .ref sh, .int tf, .int rf])), (wy, .inr (9, [.int (nI N), .int (nI B), .int (nI D), .ref a1, .ref a2, .ref a3, .ref a4, .ref a5, .ref a6])), (a3, .inl (G 0, 10, .inl f3)), (sh, .inr (6, [.ref la, .ref si, .ref ce, .int x8, .int x9, .ref fi, .ref se])), (la, .inl (G 0, 4, .inl fl)), (si, .inl (G 0, 4, .inl fz)), (ce, .inl (G 4, 4, .inr (.inr (.inr (.inr (fun ir => if ir < 4 then some (rc ir) else none)))))), (fi, .inl (G 0, 20, .inl f1)), (se, .inl (G 0, 20, .inl f2))] : va_W) ++ ((((List.range 4).map (fun iq => (rc iq, .inl (G 0, 40, .inl (F iq))))) : va_W) ++ []))) hP hD [0, 1, 2, 3, 4, 5, 6, 7, 8, 9, 10, 11, 12] (by decide +kernel) rfl
          refine W.widen (k := 0) (n := 0) (Nat.le_of_ble_eq_true rfl) (Nat.le_of_ble_eq_true rfl) ?_
          exact W.iret (v := (-1)) hx hb hr (fun t ht hW => ⟨⟨(-1), (x8, x9, f1, f2, f3, rf), rfl, ⟨hpost, (by have t_b5 := b5; have t_b10 := b10; have t_c11 := nltI c11; have t_c12 := nleI c12; have tqz_ := qz12_; have tnb_ := nib3 tn2093_ tn2094_ tn2095_; have tqz_ := qz46_; have z4 : (-4 : Int32).toInt = -4 := (by decide); have z10 : (10 : Int32).toInt = 10 := qI_10; rw [if_neg (by omega)])⟩, ⟨by rw [ht]; exact hP9, hD9⟩⟩, hS.F ht⟩) hS.2.2 dX10_read_27

set_option maxHeartbeats 1000000 in
set_option maxRecDepth 100000 in
theorem c_X11_putsO (l : Launch) (dC : Nat → ClassId) (dI : Nat → Nat → Nat) (G : Nat → ClassId) (sz : Nat) (h0 st N B rp tp T cu lt od th be ln S ma M ah bh ik la lg ce : Nat) (i v vrs vrb vhs vca vxs vxb vfa vbr vba vsp vhe vtk vva vto : Int32) (fst : Nat → Int32) (hN : N ≤ 10) (hB : B ≤ 6) (hT : T ≤ 320) (hS0 : S ≤ 8) (hM : M ≤ 6) (hst : OKS fst) : Met l yX11_puts (Cond.code yX11_puts cX11_puts 3 (some .int) :: GT) ({ frames := 2, cells := 0, slots := 0, locals := 46 } : Room) (PcW [.ref h0, .int i, .int v] dC dI G [(h0, .inr (11, [.ref st, .int (nI N), .int (nI B), .ref rp, .int vrs, .int vrb, .int vhs, .int vca, .int vxs, .int vxb, .ref tp, .int (nI T), .int vfa, .int vbr, .int vba, .int vsp, .int vhe, .int vtk, .int vva, .ref cu, .ref lt, .ref od, .ref th, .ref be, .ref ln, .int (nI S), .ref ma, .int (nI M), .ref ah, .ref bh, .ref ik, .ref la, .ref lg, .ref ce, .int vto])), (st, .inl (G 0, 196, .inl fst))] sz) (va_Qi (fun (r : Int32) (u : (Nat → Int32)) => match u with | ost => (r = if ((0 ≤ i.toInt ∧ i.toInt < ((N : Nat) : Int)) ∧ (0 ≤ v.toInt ∧ v.toInt < ((B : Nat) : Int))) then fst (38 + i.toNatClampNeg) else -1) ∧ OKS ost ∧ ost = (if ((0 ≤ i.toInt ∧ i.toInt < ((N : Nat) : Int)) ∧ (0 ≤ v.toInt ∧ v.toInt < ((B : Nat) : Int))) then upd fst (38 + i.toNatClampNeg) v else fst)) (fun (u : (Nat → Int32)) (t : State) => match u with | ost => va_P (dC, dI) vwCl [(h0, .inr (11, [.ref st, .int (nI N), .int (nI B), .ref rp, .int vrs, .int vrb, .int vhs, .int vca, .int vxs, .int vxb, .ref tp, .int (nI T), .int vfa, .int vbr, .int vba, .int vsp, .int vhe, .int vtk, .int vva, .ref cu, .ref lt, .ref od, .ref th, .ref be, .ref ln, .int (nI S), .ref ma, .int (nI M), .ref ah, .ref bh, .ref ik, .ref la, .ref lg, .ref ce, .int vto])), (st, .inl (G 0, 196, .inl ost))] t.heap ∧ va_D (va_A [(h0, .inr (11, [.ref st, .int (nI N), .int (nI B), .ref rp, .int vrs, .int vrb, .int vhs, .int vca, .int vxs, .int vxb, .ref tp, .int (nI T), .int vfa, .int vbr, .int vba, .int vsp, .int vhe, .int vtk, .int vva, .ref cu, .ref lt, .ref od, .ref th, .ref be, .ref ln, .int (nI S), .ref ma, .int (nI M), .ref ah, .ref bh, .ref ik, .ref la, .ref lg, .ref ce, .int vto])), (st, .inl (G 0, 196, .inl fst))] sz) [(h0, .inr (11, [.ref st, .int (nI N), .int (nI B), .ref rp, .int vrs, .int vrb, .int vhs, .int vca, .int vxs, .int vxb, .ref tp, .int (nI T), .int vfa, .int vbr, .int vba, .int vsp, .int vhe, .int vtk, .int vva, .ref cu, .ref lt, .ref od, .ref th, .ref be, .ref ln, .int (nI S), .ref ma, .int (nI M), .ref ah, .ref bh, .ref ik, .ref la, .ref lg, .ref ce, .int vto])), (st, .inl (G 0, 196, .inl ost))]) (va_A [(h0, .inr (11, [.ref st, .int (nI N), .int (nI B), .ref rp, .int vrs, .int vrb, .int vhs, .int vca, .int vxs, .int vxb, .ref tp, .int (nI T), .int vfa, .int vbr, .int vba, .int vsp, .int vhe, .int vtk, .int vva, .ref cu, .ref lt, .ref od, .ref th, .ref be, .ref ln, .int (nI S), .ref ma, .int (nI M), .ref ah, .ref bh, .ref ik, .ref la, .ref lg, .ref ce, .int vto])), (st, .inl (G 0, 196, .inl fst))] sz)) 0 0 (va_A [(h0, .inr (11, [.ref st, .int (nI N), .int (nI B), .ref rp, .int vrs, .int vrb, .int vhs, .int vca, .int vxs, .int vxb, .ref tp, .int (nI T), .int vfa, .int vbr, .int vba, .int vsp, .int vhe, .int vtk, .int vva, .ref cu, .ref lt, .ref od, .ref th, .ref be, .ref ln, .int (nI S), .ref ma, .int (nI M), .ref ah, .ref bh, .ref ik, .ref la, .ref lg, .ref ce, .int vto])), (st, .inl (G 0, 196, .inl fst))] sz) := by
  have hB_ := hB
  have hM_ := hM
  have hT_ := hT
  have tn2105_ : nIT N := fun _ => nI_toInt (by omega)
  have tn2106_ : nIT B := fun _ => nI_toInt (by omega)
  have tn2107_ : nIT T := fun _ => nI_toInt (by omega)
  have tn2108_ : nIT S := fun _ => nI_toInt (by omega)
  have tn2109_ : nIT M := fun _ => nI_toInt (by omega)
  refine Met.ofW (cc := cX11_puts) (maxL := 3) (ret := (some .int)) (by decide) rfl ?_
  intro p e s m args below meth c s₁ Bd hml hv
  obtain ⟨rfl, hsz, hP, hK, hD0⟩ := hv
  have hx := Bd.exec
  have hb := Bd.bytes
  have hr := Bd.returns
  have hg : ∀ w ∈ GT, w.before ([.ref h0, .int i, .int v] : List Value).toArray s = true := fun w h => atoms_spec (ws := Cond.code yX11_puts cX11_puts 3 (some .int) :: GT) Bd.pre w (List.mem_cons_of_mem _ h)
  have hown : s.vm.findClass RX11 = some m.cls := findClass_of_methodNamed Bd.named
  have hlocks := Bd.notSynchronized
  subst hsz
  have hD := hD0.self (sz := s.heap.size)
  generalize hAe : va_A [(h0, .inr (11, [.ref st, .int (nI N), .int (nI B), .ref rp, .int vrs, .int vrb, .int vhs, .int vca, .int vxs, .int vxb, .ref tp, .int (nI T), .int vfa, .int vbr, .int vba, .int vsp, .int vhe, .int vtk, .int vva, .ref cu, .ref lt, .ref od, .ref th, .ref be, .ref ln, .int (nI S), .ref ma, .int (nI M), .ref ah, .ref bh, .ref ik, .ref la, .ref lg, .ref ce, .int vto])), (st, .inl (G 0, 196, .inl fst))] s.heap.size = A at hD ⊢
  have hA : ∀ q : Nat, s.heap.size ≤ q → A q := fun q h => by rw [← hAe]; exact Or.inr h
  have hS : va_S A s.heap s.heap [] := va_S.rf
  have hl := lv_entry ([.ref h0, .int i, .int v]) (n := 3) (Nat.le_of_ble_eq_true rfl)
  rw [lg_entry_eq]
  generalize (lg_sl ([.ref h0, .int i, .int v]) ++ List.replicate (3 - (lg_sl ([.ref h0, .int i, .int v])).length) Slot.unset).toArray = ls at hl ⊢
  have hl : lv_has ls 3 [(0, .ref h0), (1, .int i), (2, .int v)] := hl
  refine lv_aload_n hx hb dX11_puts_0 rfl (lv_at hl 0 rfl) ?_
  refine lv_aload_n hx hb dX11_puts_1 rfl (lv_at hl 0 rfl) ?_
  refine lv_iload_n hx hb dX11_puts_2 rfl (lv_at hl 1 rfl) ?_
  have hPc := hP.sub (ws' := [(h0, .inr (11, [.ref st, .int (nI N), .int (nI B), .ref rp, .int vrs, .int vrb, .int vhs, .int vca, .int vxs, .int vxb, .ref tp, .int (nI T), .int vfa, .int vbr, .int vba, .int vsp, .int vhe, .int vtk, .int vva, .ref cu, .ref lt, .ref od, .ref th, .ref be, .ref ln, .int (nI S), .ref ma, .int (nI M), .ref ah, .ref bh, .ref ik, .ref la, .ref lg, .ref ce, .int vto]))]) [0] rfl
  refine va_calli (va_runV (As := [.int i]) (rest := [.ref h0]) ⟨hx, hb, hml, hown, hg⟩ (c_X11_isStretch l dC dI G _ h0 st N B rp tp T cu lt od th be ln S ma M ah bh ik la lg ce i vrs vrb vhs vca vxs vxb vfa vbr vba vsp vhe vtk vva vto hN hB_ hT_ hS0 hM_) (kwV hg mfX11_isStretch wt_1052 ⟨Nat.le_of_ble_eq_true rfl, Nat.le_of_ble_eq_true rfl⟩) (preVR hK hPc (ci := 11) (r := (RX11, TX11, 35)) rfl rfl) rfl rfl hl.1 rfl (lv_room (Nat.le_of_ble_eq_true rfl)) dX11_puts_3 ⟨Nat.le_of_ble_eq_true rfl, Nat.le_of_ble_eq_true rfl⟩) hS (fun q h1 h2 => absurd h2 (Nat.not_le.mpr h1)) (fun q h => hA q (Nat.le_trans hS.1 h)) (fun r1 ur1 t H1 locs ht hvm w2 hB hz1 hk1 hS => ?_)
  have hP := keepR hP hk1
  obtain ⟨w2, w2x⟩ := w2
  try simp only [l_ii, show (0 : Int32).toInt = 0 from by decide] at w2
  try rw [show (nI (N)).toInt = ((N : Nat) : Int) from tn2105_ ()] at w2
  subst w2
  refine lv_if_eq (tgt := 21) hx hb dX11_puts_6 rfl (fun c3 => ?_) (fun c3 => ?_)
  · skip
    have b4 := if10_n c3
    refine lv_iconst (v := 0) hx hb dX11_puts_21 rfl ?_
    refine lv_bipush (v := 38) hx hb dX11_puts_22 rfl ?_
    refine lv_iload_n hx hb dX11_puts_24 rfl (lv_at hl 1 rfl) ?_
    refine lv_iadd hx hb dX11_puts_25 ?_
    refine lv_iload_n hx hb dX11_puts_26 rfl (lv_at hl 2 rfl) ?_
    obtain ⟨hPc, hDc, hFc⟩ := va_sub3 (ws' := [(h0, .inr (11, [.ref st, .int (nI N), .int (nI B), .ref rp, .int vrs, .int vrb, .int vhs, .int vca, .int vxs, .int vxb, .ref tp, .int (nI T), .int vfa, .int vbr, .int vba, .int vsp, .int vhe, .int vtk, .int vva, .ref cu, .ref lt, .ref od, .ref th, .ref be, .ref ln, .int (nI S), .ref ma, .int (nI M), .ref ah, .ref bh, .ref ik, .ref la, .ref lg, .ref ce, .int vto])), (st, .inl (G 0, 196, .inl fst))]) hP hD hS hA [0, 1] (by decide +kernel) rfl
    refine va_calli (va_runV (As := [.int 0, .int (38 + i), .int v]) (rest := []) ⟨hx, hb, hml, hown, hg⟩ (c_X11_sets0E l dC dI G _ h0 st N B rp tp T cu lt od th be ln S ma M ah bh ik la lg ce (38 + i) v vrs vrb vhs vca vxs vxb vfa vbr vba vsp vhe vtk vva vto fst hN hB_ hT_ hS0 hM_ hst) (kwV hg mfX11_sets wt_1070 ⟨Nat.le_of_ble_eq_true rfl, Nat.le_of_ble_eq_true rfl⟩) (preVW hK hPc hDc (ci := 11) (r := (RX11, TX11, 35)) rfl rfl) rfl rfl hl.1 rfl (lv_room (Nat.le_of_ble_eq_true rfl)) dX11_puts_27 ⟨Nat.le_of_ble_eq_true rfl, Nat.le_of_ble_eq_true rfl⟩) hS (fun q _ h => hFc q h) hFc (fun r5 ur5 t H1 locs ht hvm w6 hB hz1 hk1 hS => ?_)
    obtain ⟨u7, rfl⟩ : ∃ z, z = ur5 := ⟨_, rfl⟩
    obtain ⟨hP1, hD1⟩ := hB
    rw [ht] at hP1
    obtain ⟨hP, hD⟩ := va_join (wr := []) (w1 := [(h0, .inr (11, [.ref st, .int (nI N), .int (nI B), .ref rp, .int vrs, .int vrb, .int vhs, .int vca, .int vxs, .int vxb, .ref tp, .int (nI T), .int vfa, .int vbr, .int vba, .int vsp, .int vhe, .int vtk, .int vva, .ref cu, .ref lt, .ref od, .ref th, .ref be, .ref ln, .int (nI S), .ref ma, .int (nI M), .ref ah, .ref bh, .ref ik, .ref la, .ref lg, .ref ce, .int vto])), (st, .inl (G 0, 196, .inl u7))]) hP hD [0, 1] [] rfl rfl (by decide +kernel) (by decide +kernel) hk1 hFc hP1 hD1
    generalize H1 = H at hP hS ⊢
    obtain ⟨w6, w6x⟩ := w6
    have hpost : (r5 : Int32) = if ((0 ≤ i.toInt ∧ i.toInt < ((N : Nat) : Int)) ∧ (0 ≤ v.toInt ∧ v.toInt < ((B : Nat) : Int))) then fst (38 + i.toNatClampNeg) else -1 := by
      have t_b4 := b4
      have t_n0 : (nI N).toInt = (N : Int) := tn2105_ ()
      have t_n1 : (nI B).toInt = (B : Int) := tn2106_ ()
      have t_n2 : (nI T).toInt = (T : Int) := tn2107_ ()
      have t_n3 : (nI S).toInt = (S : Int) := tn2108_ ()
      have t_n4 : (nI M).toInt = (M : Int) := tn2109_ ()
      have z0 : (0 : Int32).toInt = 0 := qI_0
      have z1 : (1 : Int32).toInt = 1 := qI_1
      have z2 : (2 : Int32).toInt = 2 := qI_2
      have z3 : (3 : Int32).toInt = 3 := qI_3
      have z5 : (5 : Int32).toInt = 5 := qI_5
      have z9 : (9 : Int32).toInt = 9 := qI_9
      have z20 : (20 : Int32).toInt = 20 := qI_20
      have z4 : (-4 : Int32).toInt = -4 := (by decide)
      have z10 : (10 : Int32).toInt = 10 := qI_10
      rw [if_neg (by omega)]
      exact w6
    obtain ⟨hP9, hD9⟩ := va_sub2 (ws' := [(h0, .inr (11, [.ref st, .int (nI N), .int (nI B), .ref rp, .int vrs, .int vrb, .int vhs, .int vca, .int vxs, .int vxb, .ref tp, .int (nI T), .int vfa, .int vbr, .int vba, .int vsp, .int vhe, .int vtk, .int vva, .ref cu, .ref lt, .ref od, .ref th, .ref be, .ref ln, .int (nI S), .ref ma, .int (nI M), .ref ah, .ref bh, .ref ik, .ref la, .ref lg, .ref ce, .int vto])), (st, .inl (G 0, 196, .inl u7))]) hP hD [0, 1] (by decide +kernel) rfl
    refine W.widen (k := 0) (n := 0) (Nat.le_of_ble_eq_true rfl) (Nat.le_of_ble_eq_true rfl) ?_
    exact W.iret (v := r5) hx hb hr (fun t ht hW => ⟨⟨r5, u7, rfl, ⟨hpost, ⟨w6x.1, (by have t_b4 := b4; have tnb_ := nib5 tn2105_ tn2106_ tn2107_ tn2108_ tn2109_; have tqz_ := qz46_; have z4 : (-4 : Int32).toInt = -4 := (by decide); have z10 : (10 : Int32).toInt = 10 := qI_10; rw [if_neg (by omega)]; exact w6x.2)⟩⟩, ⟨by rw [ht]; exact hP9, hD9⟩⟩, hS.F ht⟩) hS.2.2 dX11_puts_30
  · skip
    have b8 := if10_p c3
    refine lv_aload_n hx hb dX11_puts_9 rfl (lv_at hl 0 rfl) ?_
    refine lv_iload_n hx hb dX11_puts_10 rfl (lv_at hl 2 rfl) ?_
    have hPc := hP.sub (ws' := [(h0, .inr (11, [.ref st, .int (nI N), .int (nI B), .ref rp, .int vrs, .int vrb, .int vhs, .int vca, .int vxs, .int vxb, .ref tp, .int (nI T), .int vfa, .int vbr, .int vba, .int vsp, .int vhe, .int vtk, .int vva, .ref cu, .ref lt, .ref od, .ref th, .ref be, .ref ln, .int (nI S), .ref ma, .int (nI M), .ref ah, .ref bh, .ref ik, .ref la, .ref lg, .ref ce, .int vto]))]) [0] rfl
    refine va_calli (va_runV (As := [.int v]) (rest := [.ref h0]) ⟨hx, hb, hml, hown, hg⟩ (c_X11_isBearer l dC dI G _ h0 st N B rp tp T cu lt od th be ln S ma M ah bh ik la lg ce v vrs vrb vhs vca vxs vxb vfa vbr vba vsp vhe vtk vva vto hN hB_ hT_ hS0 hM_) (kwV hg mfX11_isBearer wt_1061 ⟨Nat.le_of_ble_eq_true rfl, Nat.le_of_ble_eq_true rfl⟩) (preVR hK hPc (ci := 11) (r := (RX11, TX11, 35)) rfl rfl) rfl rfl hl.1 rfl (lv_room (Nat.le_of_ble_eq_true rfl)) dX11_puts_11 ⟨Nat.le_of_ble_eq_true rfl, Nat.le_of_ble_eq_true rfl⟩) hS (fun q h1 h2 => absurd h2 (Nat.not_le.mpr h1)) (fun q h => hA q (Nat.le_trans hS.1 h)) (fun r9 ur9 t H1 locs ht hvm w10 hB hz1 hk1 hS => ?_)
    have hP := keepR hP hk1
    obtain ⟨w10, w10x⟩ := w10
    try simp only [l_ii, show (0 : Int32).toInt = 0 from by decide] at w10
    try rw [show (nI (B)).toInt = ((B : Nat) : Int) from tn2106_ ()] at w10
    subst w10
    refine lv_if_eq (tgt := 21) hx hb dX11_puts_14 rfl (fun c11 => ?_) (fun c11 => ?_)
    · skip
      have b12 := if10_n c11
      refine lv_iconst (v := 0) hx hb dX11_puts_21 rfl ?_
      refine lv_bipush (v := 38) hx hb dX11_puts_22 rfl ?_
      refine lv_iload_n hx hb dX11_puts_24 rfl (lv_at hl 1 rfl) ?_
      refine lv_iadd hx hb dX11_puts_25 ?_
      refine lv_iload_n hx hb dX11_puts_26 rfl (lv_at hl 2 rfl) ?_
      obtain ⟨hPc, hDc, hFc⟩ := va_sub3 (ws' := [(h0, .inr (11, [.ref st, .int (nI N), .int (nI B), .ref rp, .int vrs, .int vrb, .int vhs, .int vca, .int vxs, .int vxb, .ref tp, .int (nI T), .int vfa, .int vbr, .int vba, .int vsp, .int vhe, .int vtk, .int vva, .ref cu, .ref lt, .ref od, .ref th, .ref be, .ref ln, .int (nI S), .ref ma, .int (nI M), .ref ah, .ref bh, .ref ik, .ref la, .ref lg, .ref ce, .int vto])), (st, .inl (G 0, 196, .inl fst))]) hP hD hS hA [0, 1] (by decide +kernel) rfl
      refine va_calli (va_runV (As := [.int 0, .int (38 + i), .int v]) (rest := []) ⟨hx, hb, hml, hown, hg⟩ (c_X11_sets0E l dC dI G _ h0 st N B rp tp T cu lt od th be ln S ma M ah bh ik la lg ce (38 + i) v vrs vrb vhs vca vxs vxb vfa vbr vba vsp vhe vtk vva vto fst hN hB_ hT_ hS0 hM_ hst) (kwV hg mfX11_sets wt_1070 ⟨Nat.le_of_ble_eq_true rfl, Nat.le_of_ble_eq_true rfl⟩) (preVW hK hPc hDc (ci := 11) (r := (RX11, TX11, 35)) rfl rfl) rfl rfl hl.1 rfl (lv_room (Nat.le_of_ble_eq_true rfl)) dX11_puts_27 ⟨Nat.le_of_ble_eq_true rfl, Nat.le_of_ble_eq_true rfl⟩) hS (fun q _ h => hFc q h) hFc (fun r13 ur13 t H1 locs ht hvm w14 hB hz1 hk1 hS => ?_)
      obtain ⟨u15, rfl⟩ : ∃ z, z = ur13 := ⟨_, rfl⟩
      obtain ⟨hP1, hD1⟩ := hB
      rw [ht] at hP1
      obtain ⟨hP, hD⟩ := va_join (wr := []) (w1 := [(h0, .inr (11, [.ref st, .int (nI N), .int (nI B), .ref rp, .int vrs, .int vrb, .int vhs, .int vca, .int vxs, .int vxb, .ref tp, .int (nI T), .int vfa, .int vbr, .int vba, .int vsp, .int vhe, .int vtk, .int vva, .ref cu, .ref lt, .ref od, .ref th, .ref be, .ref ln, .int (nI S), .ref ma, .int (nI M), .ref ah, .ref bh, .ref ik, .ref la, .ref lg, .ref ce, .int vto])), (st, .inl (G 0, 196, .inl u15))]) hP hD [0, 1] [] rfl rfl (by decide +kernel) (by decide +kernel) hk1 hFc hP1 hD1
      generalize H1 = H at hP hS ⊢
      obtain ⟨w14, w14x⟩ := w14
      have hpost : (r13 : Int32) = if ((0 ≤ i.toInt ∧ i.toInt < ((N : Nat) : Int)) ∧ (0 ≤ v.toInt ∧ v.toInt < ((B : Nat) : Int))) then fst (38 + i.toNatClampNeg) else -1 := by
        have t_b8 := b8
        have t_b12 := b12
        have t_n0 : (nI N).toInt = (N : Int) := tn2105_ ()
        have t_n1 : (nI B).toInt = (B : Int) := tn2106_ ()
        have t_n2 : (nI T).toInt = (T : Int) := tn2107_ ()
        have t_n3 : (nI S).toInt = (S : Int) := tn2108_ ()
        have t_n4 : (nI M).toInt = (M : Int) := tn2109_ ()
        have z0 : (0 : Int32).toInt = 0 := qI_0
        have z1 : (1 : Int32).toInt = 1 := qI_1
        have z2 : (2 : Int32).toInt = 2 := qI_2
        have z3 : (3 : Int32).toInt = 3 := qI_3
        have z5 : (5 : Int32).toInt = 5 := qI_5
        have z9 : (9 : Int32).toInt = 9 := qI_9
        have z20 : (20 : Int32).toInt = 20 := qI_20
        have z4 : (-4 : Int32).toInt = -4 := (by decide)
        have z10 : (10 : Int32).toInt = 10 := qI_10
        rw [if_neg (by omega)]
        exact w14
      obtain ⟨hP9, hD9⟩ := va_sub2 (ws' := [(h0, .inr (11, [.ref st, .int (nI N), .int (nI B), .ref rp, .int vrs, .int vrb, .int vhs, .int vca, .int vxs, .int vxb, .ref tp, .int (nI T), .int vfa, .int vbr, .int vba, .int vsp, .int vhe, .int vtk, .int vva, .ref cu, .ref lt, .ref od, .ref th, .ref be, .ref ln, .int (nI S), .ref ma, .int (nI M), .ref ah, .ref bh, .ref ik, .ref la, .ref lg, .ref ce, .int vto])), (st, .inl (G 0, 196, .inl u15))]) hP hD [0, 1] (by decide +kernel) rfl
      refine W.widen (k := 0) (n := 0) (Nat.le_of_ble_eq_true rfl) (Nat.le_of_ble_eq_true rfl) ?_
      exact W.iret (v := r13) hx hb hr (fun t ht hW => ⟨⟨r13, u15, rfl, ⟨hpost, ⟨w14x.1, (by have t_b8 := b8; have t_b12 := b12; have tnb_ := nib5 tn2105_ tn2106_ tn2107_ tn2108_ tn2109_; have tqz_ := qz46_; have z4 : (-4 : Int32).toInt = -4 := (by decide); have z10 : (10 : Int32).toInt = 10 := qI_10; rw [if_neg (by omega)]; exact w14x.2)⟩⟩, ⟨by rw [ht]; exact hP9, hD9⟩⟩, hS.F ht⟩) hS.2.2 dX11_puts_30
    · skip
      have b16 := if10_p c11
      obtain ⟨ii, hii, rfl⟩ : ∃ j : Nat, j < 10 ∧ i = nI j := by
        have t_b8 := b8
        have t_b16 := b16
        have t_n0 : (nI N).toInt = (N : Int) := tn2105_ ()
        have t_n1 : (nI B).toInt = (B : Int) := tn2106_ ()
        have t_n2 : (nI T).toInt = (T : Int) := tn2107_ ()
        have t_n3 : (nI S).toInt = (S : Int) := tn2108_ ()
        have t_n4 : (nI M).toInt = (M : Int) := tn2109_ ()
        exact i32_nat (by omega) (by omega)
      refine lv_iconst (v := 1) hx hb dX11_puts_17 rfl ?_
      refine lv_goto (tgt := 22) hx hb dX11_puts_18 rfl ?_
      refine lv_bipush (v := 38) hx hb dX11_puts_22 rfl ?_
      refine lv_iload_n hx hb dX11_puts_24 rfl (lv_at hl 1 rfl) ?_
      refine lv_iadd hx hb dX11_puts_25 ?_
      refine lv_cg (y := nI (38 + ii)) (by rw [show (38 : Int32) = nI 38 from rfl]; exact nI_add _ _) ?_
      refine lv_iload_n hx hb dX11_puts_26 rfl (lv_at hl 2 rfl) ?_
      obtain ⟨hPc, hDc, hFc⟩ := va_sub3 (ws' := [(h0, .inr (11, [.ref st, .int (nI N), .int (nI B), .ref rp, .int vrs, .int vrb, .int vhs, .int vca, .int vxs, .int vxb, .ref tp, .int (nI T), .int vfa, .int vbr, .int vba, .int vsp, .int vhe, .int vtk, .int vva, .ref cu, .ref lt, .ref od, .ref th, .ref be, .ref ln, .int (nI S), .ref ma, .int (nI M), .ref ah, .ref bh, .ref ik, .ref la, .ref lg, .ref ce, .int vto])), (st, .inl (G 0, 196, .inl fst))]) hP hD hS hA [0, 1] (by decide +kernel) rfl
      have tn2110_ : nIT ii := fun _ => nI_toInt (by first | omega | (have t_b8 := b8; have t_b16 := b16; have t_hii := hii; omega))
      refine va_calli (va_runV (As := [.int 1, .int (nI (38 + ii)), .int v]) (rest := []) ⟨hx, hb, hml, hown, hg⟩ (c_X11_sets1E l dC dI G _ h0 (38 + ii) st N B rp tp T cu lt od th be ln S ma M ah bh ik la lg ce v vrs vrb vhs vca vxs vxb vfa vbr vba vsp vhe vtk vva vto fst hN hB_ hT_ hS0 hM_ hst (by first | omega | (have t_b8 := b8; have t_b16 := b16; have t_hii := hii; have tnb_ := nib6 tn2105_ tn2106_ tn2107_ tn2108_ tn2109_ tn2110_; omega)) (okS_or (by have t_b8 := b8; have t_b16 := b16; have t_hii := hii; have tnb_ := nib6 tn2105_ tn2106_ tn2107_ tn2108_ tn2109_ tn2110_; omega) (by have t_b8 := b8; have t_b16 := b16; have t_hii := hii; have tnb_ := nib6 tn2105_ tn2106_ tn2107_ tn2108_ tn2109_ tn2110_; omega) (by have t_b8 := b8; have t_b16 := b16; have t_hii := hii; have tnb_ := nib6 tn2105_ tn2106_ tn2107_ tn2108_ tn2109_ tn2110_; omega) (by have t_b8 := b8; have t_b16 := b16; have t_hii := hii; have tnb_ := nib6 tn2105_ tn2106_ tn2107_ tn2108_ tn2109_ tn2110_; omega))) (kwV hg mfX11_sets wt_1070 ⟨Nat.le_of_ble_eq_true rfl, Nat.le_of_ble_eq_true rfl⟩) (preVW hK hPc hDc (ci := 11) (r := (RX11, TX11, 35)) rfl rfl) rfl rfl hl.1 rfl (lv_room (Nat.le_of_ble_eq_true rfl)) dX11_puts_27 ⟨Nat.le_of_ble_eq_true rfl, Nat.le_of_ble_eq_true rfl⟩) hS (fun q _ h => hFc q h) hFc (fun r17 ur17 t H1 locs ht hvm w18 hB hz1 hk1 hS => ?_)
      obtain ⟨u19, rfl⟩ : ∃ z, z = ur17 := ⟨_, rfl⟩
      obtain ⟨hP1, hD1⟩ := hB
      rw [ht] at hP1
      obtain ⟨hP, hD⟩ := va_join (wr := []) (w1 := [(h0, .inr (11, [.ref st, .int (nI N), .int (nI B), .ref rp, .int vrs, .int vrb, .int vhs, .int vca, .int vxs, .int vxb, .ref tp, .int (nI T), .int vfa, .int vbr, .int vba, .int vsp, .int vhe, .int vtk, .int vva, .ref cu, .ref lt, .ref od, .ref th, .ref be, .ref ln, .int (nI S), .ref ma, .int (nI M), .ref ah, .ref bh, .ref ik, .ref la, .ref lg, .ref ce, .int vto])), (st, .inl (G 0, 196, .inl u19))]) hP hD [0, 1] [] rfl rfl (by decide +kernel) (by decide +kernel) hk1 hFc hP1 hD1
      generalize H1 = H at hP hS ⊢
      obtain ⟨w18, w18x⟩ := w18
      have hpost : (r17 : Int32) = if ((0 ≤ (nI ii).toInt ∧ (nI ii).toInt < ((N : Nat) : Int)) ∧ (0 ≤ v.toInt ∧ v.toInt < ((B : Nat) : Int))) then fst (38 + (nI ii).toNatClampNeg) else -1 := by
        have t_b8 := b8
        have t_b16 := b16
        have t_hii := hii
        have t_n0 : (nI N).toInt = (N : Int) := tn2105_ ()
        have t_n1 : (nI B).toInt = (B : Int) := tn2106_ ()
        have t_n2 : (nI T).toInt = (T : Int) := tn2107_ ()
        have t_n3 : (nI S).toInt = (S : Int) := tn2108_ ()
        have t_n4 : (nI M).toInt = (M : Int) := tn2109_ ()
        have t_n5 : (nI ii).toInt = (ii : Int) := tn2110_ ()
        have z0 : (0 : Int32).toInt = 0 := qI_0
        have z1 : (1 : Int32).toInt = 1 := qI_1
        have z2 : (2 : Int32).toInt = 2 := qI_2
        have z3 : (3 : Int32).toInt = 3 := qI_3
        have z5 : (5 : Int32).toInt = 5 := qI_5
        have z9 : (9 : Int32).toInt = 9 := qI_9
        have z20 : (20 : Int32).toInt = 20 := qI_20
        have z4 : (-4 : Int32).toInt = -4 := (by decide)
        have z10 : (10 : Int32).toInt = 10 := qI_10
        rw [if_pos (by omega)]
        (try rw [nI_clamp (by omega)])
        exact w18
      obtain ⟨hP9, hD9⟩ := va_sub2 (ws' := [(h0, .inr (11, [.ref st, .int (nI N), .int (nI B), .ref rp, .int vrs, .int vrb, .int vhs, .int vca, .int vxs, .int vxb, .ref tp, .int (nI T), .int vfa, .int vbr, .int vba, .int vsp, .int vhe, .int vtk, .int vva, .ref cu, .ref lt, .ref od, .ref th, .ref be, .ref ln, .int (nI S), .ref ma, .int (nI M), .ref ah, .ref bh, .ref ik, .ref la, .ref lg, .ref ce, .int vto])), (st, .inl (G 0, 196, .inl u19))]) hP hD [0, 1] (by decide +kernel) rfl
      refine W.widen (k := 0) (n := 0) (Nat.le_of_ble_eq_true rfl) (Nat.le_of_ble_eq_true rfl) ?_
      exact W.iret (v := r17) hx hb hr (fun t ht hW => ⟨⟨r17, u19, rfl, ⟨hpost, ⟨w18x.1, (by have t_b8 := b8; have t_b16 := b16; have t_hii := hii; have tnb_ := nib6 tn2105_ tn2106_ tn2107_ tn2108_ tn2109_ tn2110_; have tqz_ := qz46_; have z4 : (-4 : Int32).toInt = -4 := (by decide); have z10 : (10 : Int32).toInt = 10 := qI_10; rw [if_pos (by omega)]; (try rw [nI_clamp (by omega)]); exact w18x.2)⟩⟩, ⟨by rw [ht]; exact hP9, hD9⟩⟩, hS.F ht⟩) hS.2.2 dX11_puts_30

set_option maxHeartbeats 1000000 in
set_option maxRecDepth 100000 in
theorem c_X11_putO (l : Launch) (dC : Nat → ClassId) (dI : Nat → Nat → Nat) (G : Nat → ClassId) (sz : Nat) (h0 st N B rp tp T cu lt od th be ln S ma M ah bh ik la lg ce : Nat) (i k vrs vrb vhs vca vxs vxb vfa vbr vba vsp vhe vtk vva vto : Int32) (fst : Nat → Int32) (hN : N ≤ 10) (hB : B ≤ 6) (hT : T ≤ 320) (hS0 : S ≤ 8) (hM : M ≤ 6) (hst : OKS fst) : Met l yX11_put (Cond.code yX11_put cX11_put 3 (some .int) :: GT) ({ frames := 3, cells := 0, slots := 0, locals := 68 } : Room) (PcW [.ref h0, .int i, .int k] dC dI G [(h0, .inr (11, [.ref st, .int (nI N), .int (nI B), .ref rp, .int vrs, .int vrb, .int vhs, .int vca, .int vxs, .int vxb, .ref tp, .int (nI T), .int vfa, .int vbr, .int vba, .int vsp, .int vhe, .int vtk, .int vva, .ref cu, .ref lt, .ref od, .ref th, .ref be, .ref ln, .int (nI S), .ref ma, .int (nI M), .ref ah, .ref bh, .ref ik, .ref la, .ref lg, .ref ce, .int vto])), (st, .inl (G 0, 196, .inl fst))] sz) (va_Qi (fun (r : Int32) (u : (Nat → Int32)) => match u with | ost => (r = if ((0 ≤ i.toInt ∧ i.toInt < ((N : Nat) : Int)) ∧ (0 ≤ k.toInt ∧ k.toInt < ((B : Nat) : Int))) then fst (38 + i.toNatClampNeg) else -1) ∧ OKS ost ∧ ost = (if ((0 ≤ i.toInt ∧ i.toInt < ((N : Nat) : Int)) ∧ (0 ≤ k.toInt ∧ k.toInt < ((B : Nat) : Int))) then upd fst (38 + i.toNatClampNeg) k else fst)) (fun (u : (Nat → Int32)) (t : State) => match u with | ost => va_P (dC, dI) vwCl [(h0, .inr (11, [.ref st, .int (nI N), .int (nI B), .ref rp, .int vrs, .int vrb, .int vhs, .int vca, .int vxs, .int vxb, .ref tp, .int (nI T), .int vfa, .int vbr, .int vba, .int vsp, .int vhe, .int vtk, .int vva, .ref cu, .ref lt, .ref od, .ref th, .ref be, .ref ln, .int (nI S), .ref ma, .int (nI M), .ref ah, .ref bh, .ref ik, .ref la, .ref lg, .ref ce, .int vto])), (st, .inl (G 0, 196, .inl ost))] t.heap ∧ va_D (va_A [(h0, .inr (11, [.ref st, .int (nI N), .int (nI B), .ref rp, .int vrs, .int vrb, .int vhs, .int vca, .int vxs, .int vxb, .ref tp, .int (nI T), .int vfa, .int vbr, .int vba, .int vsp, .int vhe, .int vtk, .int vva, .ref cu, .ref lt, .ref od, .ref th, .ref be, .ref ln, .int (nI S), .ref ma, .int (nI M), .ref ah, .ref bh, .ref ik, .ref la, .ref lg, .ref ce, .int vto])), (st, .inl (G 0, 196, .inl fst))] sz) [(h0, .inr (11, [.ref st, .int (nI N), .int (nI B), .ref rp, .int vrs, .int vrb, .int vhs, .int vca, .int vxs, .int vxb, .ref tp, .int (nI T), .int vfa, .int vbr, .int vba, .int vsp, .int vhe, .int vtk, .int vva, .ref cu, .ref lt, .ref od, .ref th, .ref be, .ref ln, .int (nI S), .ref ma, .int (nI M), .ref ah, .ref bh, .ref ik, .ref la, .ref lg, .ref ce, .int vto])), (st, .inl (G 0, 196, .inl ost))]) (va_A [(h0, .inr (11, [.ref st, .int (nI N), .int (nI B), .ref rp, .int vrs, .int vrb, .int vhs, .int vca, .int vxs, .int vxb, .ref tp, .int (nI T), .int vfa, .int vbr, .int vba, .int vsp, .int vhe, .int vtk, .int vva, .ref cu, .ref lt, .ref od, .ref th, .ref be, .ref ln, .int (nI S), .ref ma, .int (nI M), .ref ah, .ref bh, .ref ik, .ref la, .ref lg, .ref ce, .int vto])), (st, .inl (G 0, 196, .inl fst))] sz)) 0 0 (va_A [(h0, .inr (11, [.ref st, .int (nI N), .int (nI B), .ref rp, .int vrs, .int vrb, .int vhs, .int vca, .int vxs, .int vxb, .ref tp, .int (nI T), .int vfa, .int vbr, .int vba, .int vsp, .int vhe, .int vtk, .int vva, .ref cu, .ref lt, .ref od, .ref th, .ref be, .ref ln, .int (nI S), .ref ma, .int (nI M), .ref ah, .ref bh, .ref ik, .ref la, .ref lg, .ref ce, .int vto])), (st, .inl (G 0, 196, .inl fst))] sz) := by
  have hB_ := hB
  have hM_ := hM
  have hT_ := hT
  have tn2111_ : nIT N := fun _ => nI_toInt (by omega)
  have tn2112_ : nIT B := fun _ => nI_toInt (by omega)
  have tn2113_ : nIT T := fun _ => nI_toInt (by omega)
  have tn2114_ : nIT S := fun _ => nI_toInt (by omega)
  have tn2115_ : nIT M := fun _ => nI_toInt (by omega)
  refine Met.ofW (cc := cX11_put) (maxL := 3) (ret := (some .int)) (by decide) rfl ?_
  intro p e s m args below meth c s₁ Bd hml hv
  obtain ⟨rfl, hsz, hP, hK, hD0⟩ := hv
  have hx := Bd.exec
  have hb := Bd.bytes
  have hr := Bd.returns
  have hg : ∀ w ∈ GT, w.before ([.ref h0, .int i, .int k] : List Value).toArray s = true := fun w h => atoms_spec (ws := Cond.code yX11_put cX11_put 3 (some .int) :: GT) Bd.pre w (List.mem_cons_of_mem _ h)
  have hown : s.vm.findClass RX11 = some m.cls := findClass_of_methodNamed Bd.named
  have hlocks := Bd.notSynchronized
  subst hsz
  have hD := hD0.self (sz := s.heap.size)
  generalize hAe : va_A [(h0, .inr (11, [.ref st, .int (nI N), .int (nI B), .ref rp, .int vrs, .int vrb, .int vhs, .int vca, .int vxs, .int vxb, .ref tp, .int (nI T), .int vfa, .int vbr, .int vba, .int vsp, .int vhe, .int vtk, .int vva, .ref cu, .ref lt, .ref od, .ref th, .ref be, .ref ln, .int (nI S), .ref ma, .int (nI M), .ref ah, .ref bh, .ref ik, .ref la, .ref lg, .ref ce, .int vto])), (st, .inl (G 0, 196, .inl fst))] s.heap.size = A at hD ⊢
  have hA : ∀ q : Nat, s.heap.size ≤ q → A q := fun q h => by rw [← hAe]; exact Or.inr h
  have hS : va_S A s.heap s.heap [] := va_S.rf
  have hl := lv_entry ([.ref h0, .int i, .int k]) (n := 3) (Nat.le_of_ble_eq_true rfl)
  rw [lg_entry_eq]
  generalize (lg_sl ([.ref h0, .int i, .int k]) ++ List.replicate (3 - (lg_sl ([.ref h0, .int i, .int k])).length) Slot.unset).toArray = ls at hl ⊢
  have hl : lv_has ls 3 [(0, .ref h0), (1, .int i), (2, .int k)] := hl
  refine lv_aload_n hx hb dX11_put_0 rfl (lv_at hl 0 rfl) ?_
  refine lv_iload_n hx hb dX11_put_1 rfl (lv_at hl 1 rfl) ?_
  refine lv_iload_n hx hb dX11_put_2 rfl (lv_at hl 2 rfl) ?_
  obtain ⟨hPc, hDc, hFc⟩ := va_sub3 (ws' := [(h0, .inr (11, [.ref st, .int (nI N), .int (nI B), .ref rp, .int vrs, .int vrb, .int vhs, .int vca, .int vxs, .int vxb, .ref tp, .int (nI T), .int vfa, .int vbr, .int vba, .int vsp, .int vhe, .int vtk, .int vva, .ref cu, .ref lt, .ref od, .ref th, .ref be, .ref ln, .int (nI S), .ref ma, .int (nI M), .ref ah, .ref bh, .ref ik, .ref la, .ref lg, .ref ce, .int vto])), (st, .inl (G 0, 196, .inl fst))]) hP hD hS hA [0, 1] (by decide +kernel) rfl
  refine va_calli (va_runV (As := [.int i, .int k]) (rest := []) ⟨hx, hb, hml, hown, hg⟩ (c_X11_putsO l dC dI G _ h0 st N B rp tp T cu lt od th be ln S ma M ah bh ik la lg ce i k vrs vrb vhs vca vxs vxb vfa vbr vba vsp vhe vtk vva vto fst hN hB_ hT_ hS0 hM_ hst) (kwV hg mfX11_puts wt_1094 ⟨Nat.le_of_ble_eq_true rfl, Nat.le_of_ble_eq_true rfl⟩) (preVW hK hPc hDc (ci := 11) (r := (RX11, TX11, 35)) rfl rfl) rfl rfl hl.1 rfl (lv_room (Nat.le_of_ble_eq_true rfl)) dX11_put_3 ⟨Nat.le_of_ble_eq_true rfl, Nat.le_of_ble_eq_true rfl⟩) hS (fun q _ h => hFc q h) hFc (fun r1 ur1 t H1 locs ht hvm w2 hB hz1 hk1 hS => ?_)
  obtain ⟨u3, rfl⟩ : ∃ z, z = ur1 := ⟨_, rfl⟩
  obtain ⟨hP1, hD1⟩ := hB
  rw [ht] at hP1
  obtain ⟨hP, hD⟩ := va_join (wr := []) (w1 := [(h0, .inr (11, [.ref st, .int (nI N), .int (nI B), .ref rp, .int vrs, .int vrb, .int vhs, .int vca, .int vxs, .int vxb, .ref tp, .int (nI T), .int vfa, .int vbr, .int vba, .int vsp, .int vhe, .int vtk, .int vva, .ref cu, .ref lt, .ref od, .ref th, .ref be, .ref ln, .int (nI S), .ref ma, .int (nI M), .ref ah, .ref bh, .ref ik, .ref la, .ref lg, .ref ce, .int vto])), (st, .inl (G 0, 196, .inl u3))]) hP hD [0, 1] [] rfl rfl (by decide +kernel) (by decide +kernel) hk1 hFc hP1 hD1
  generalize H1 = H at hP hS ⊢
  obtain ⟨w2, w2x⟩ := w2
  have hpost : (r1 : Int32) = if ((0 ≤ i.toInt ∧ i.toInt < ((N : Nat) : Int)) ∧ (0 ≤ k.toInt ∧ k.toInt < ((B : Nat) : Int))) then fst (38 + i.toNatClampNeg) else -1 := by
    exact w2
  obtain ⟨hP9, hD9⟩ := va_sub2 (ws' := [(h0, .inr (11, [.ref st, .int (nI N), .int (nI B), .ref rp, .int vrs, .int vrb, .int vhs, .int vca, .int vxs, .int vxb, .ref tp, .int (nI T), .int vfa, .int vbr, .int vba, .int vsp, .int vhe, .int vtk, .int vva, .ref cu, .ref lt, .ref od, .ref th, .ref be, .ref ln, .int (nI S), .ref ma, .int (nI M), .ref ah, .ref bh, .ref ik, .ref la, .ref lg, .ref ce, .int vto])), (st, .inl (G 0, 196, .inl u3))]) hP hD [0, 1] (by decide +kernel) rfl
  refine W.widen (k := 0) (n := 0) (Nat.le_of_ble_eq_true rfl) (Nat.le_of_ble_eq_true rfl) ?_
  exact W.iret (v := r1) hx hb hr (fun t ht hW => ⟨⟨r1, u3, rfl, ⟨hpost, w2x⟩, ⟨by rw [ht]; exact hP9, hD9⟩⟩, hS.F ht⟩) hS.2.2 dX11_put_6


set_option maxHeartbeats 8000000 in
set_option maxRecDepth 100000 in
theorem c_X11_readO (l : Launch) (dC : Nat → ClassId) (dI : Nat → Nat → Nat) (G : Nat → ClassId) (sz : Nat) (h0 st N B rp tp T cu lt od th be ln S ma M ah bh ik la lg ce : Nat) (k lane x1 n vrs vrb vhs vca vxs vxb vfa vbr vba vsp vhe vtk vva vto : Int32) (fst : Nat → Int32) (fla : Nat → Int32) (flg : Nat → Int32) (fce : Nat → Int32) (hN : N ≤ 10) (hB : B ≤ 6) (hT : T ≤ 320) (hS0 : S ≤ 8) (hM : M ≤ 6) (hst : OKS fst) (hz : ∀ q : Nat, q < 4 → 0 ≤ (flg q).toInt ∧ (flg q).toInt ≤ 40) : Met l yX11_read (Cond.code yX11_read cX11_read 9 (some .int) :: GT) ({ frames := 3, cells := 0, slots := 0, locals := 68 } : Room) (PcW [.ref h0, .int k, .int lane, .int x1, .int n] dC dI G [(h0, .inr (11, [.ref st, .int (nI N), .int (nI B), .ref rp, .int vrs, .int vrb, .int vhs, .int vca, .int vxs, .int vxb, .ref tp, .int (nI T), .int vfa, .int vbr, .int vba, .int vsp, .int vhe, .int vtk, .int vva, .ref cu, .ref lt, .ref od, .ref th, .ref be, .ref ln, .int (nI S), .ref ma, .int (nI M), .ref ah, .ref bh, .ref ik, .ref la, .ref lg, .ref ce, .int vto])), (st, .inl (G 0, 196, .inl fst)), (la, .inl (G 0, 4, .inl fla)), (lg, .inl (G 0, 4, .inl flg)), (ce, .inl (G 0, 160, .inl fce))] sz) (va_Qi (fun (r : Int32) (u : (Nat → Int32) × Int32) => match u with | (ost, oto) => (r = if ((0 ≤ k.toInt ∧ k.toInt < 4) ∧ (0 ≤ lane.toInt ∧ lane.toInt ≤ 2) ∧ 0 ≤ n.toInt ∧ n.toInt ≤ 20) then rdR N B (fun q8 : Nat => fce (40 * k.toNatClampNeg + (x1.toInt + 2 * (q8 : Int) + 0).toNat)) (fun q8 : Nat => fce (40 * k.toNatClampNeg + (x1.toInt + 2 * (q8 : Int) + 1).toNat)) (tpK (fla k.toNatClampNeg) lane (flg k.toNatClampNeg).toInt x1.toInt n.toNatClampNeg) else -1) ∧ OKS ost ∧ NO3 fst ost ∧ ∀ x9 : Nat, x9 < 10 → ost (38 + x9) = (if ((0 ≤ k.toInt ∧ k.toInt < 4) ∧ (0 ≤ lane.toInt ∧ lane.toInt ≤ 2) ∧ 0 ≤ n.toInt ∧ n.toInt ≤ 20) then rdF N B (fun q8 : Nat => fce (40 * k.toNatClampNeg + (x1.toInt + 2 * (q8 : Int) + 0).toNat)) (fun q8 : Nat => fce (40 * k.toNatClampNeg + (x1.toInt + 2 * (q8 : Int) + 1).toNat)) (tpK (fla k.toNatClampNeg) lane (flg k.toNatClampNeg).toInt x1.toInt n.toNatClampNeg) (fun i9 => fst (38 + i9)) else (fun i9 => fst (38 + i9))) x9) (fun (u : (Nat → Int32) × Int32) (t : State) => match u with | (ost, oto) => va_P (dC, dI) vwCl [(h0, .inr (11, [.ref st, .int (nI N), .int (nI B), .ref rp, .int vrs, .int vrb, .int vhs, .int vca, .int vxs, .int vxb, .ref tp, .int (nI T), .int vfa, .int vbr, .int vba, .int vsp, .int vhe, .int vtk, .int vva, .ref cu, .ref lt, .ref od, .ref th, .ref be, .ref ln, .int (nI S), .ref ma, .int (nI M), .ref ah, .ref bh, .ref ik, .ref la, .ref lg, .ref ce, .int oto])), (st, .inl (G 0, 196, .inl ost)), (la, .inl (G 0, 4, .inl fla)), (lg, .inl (G 0, 4, .inl flg)), (ce, .inl (G 0, 160, .inl fce))] t.heap ∧ va_D (va_A [(h0, .inr (11, [.ref st, .int (nI N), .int (nI B), .ref rp, .int vrs, .int vrb, .int vhs, .int vca, .int vxs, .int vxb, .ref tp, .int (nI T), .int vfa, .int vbr, .int vba, .int vsp, .int vhe, .int vtk, .int vva, .ref cu, .ref lt, .ref od, .ref th, .ref be, .ref ln, .int (nI S), .ref ma, .int (nI M), .ref ah, .ref bh, .ref ik, .ref la, .ref lg, .ref ce, .int vto])), (st, .inl (G 0, 196, .inl fst)), (la, .inl (G 0, 4, .inl fla)), (lg, .inl (G 0, 4, .inl flg)), (ce, .inl (G 0, 160, .inl fce))] sz) [(h0, .inr (11, [.ref st, .int (nI N), .int (nI B), .ref rp, .int vrs, .int vrb, .int vhs, .int vca, .int vxs, .int vxb, .ref tp, .int (nI T), .int vfa, .int vbr, .int vba, .int vsp, .int vhe, .int vtk, .int vva, .ref cu, .ref lt, .ref od, .ref th, .ref be, .ref ln, .int (nI S), .ref ma, .int (nI M), .ref ah, .ref bh, .ref ik, .ref la, .ref lg, .ref ce, .int oto])), (st, .inl (G 0, 196, .inl ost)), (la, .inl (G 0, 4, .inl fla)), (lg, .inl (G 0, 4, .inl flg)), (ce, .inl (G 0, 160, .inl fce))]) (va_A [(h0, .inr (11, [.ref st, .int (nI N), .int (nI B), .ref rp, .int vrs, .int vrb, .int vhs, .int vca, .int vxs, .int vxb, .ref tp, .int (nI T), .int vfa, .int vbr, .int vba, .int vsp, .int vhe, .int vtk, .int vva, .ref cu, .ref lt, .ref od, .ref th, .ref be, .ref ln, .int (nI S), .ref ma, .int (nI M), .ref ah, .ref bh, .ref ik, .ref la, .ref lg, .ref ce, .int vto])), (st, .inl (G 0, 196, .inl fst)), (la, .inl (G 0, 4, .inl fla)), (lg, .inl (G 0, 4, .inl flg)), (ce, .inl (G 0, 160, .inl fce))] sz)) 0 0 (va_A [(h0, .inr (11, [.ref st, .int (nI N), .int (nI B), .ref rp, .int vrs, .int vrb, .int vhs, .int vca, .int vxs, .int vxb, .ref tp, .int (nI T), .int vfa, .int vbr, .int vba, .int vsp, .int vhe, .int vtk, .int vva, .ref cu, .ref lt, .ref od, .ref th, .ref be, .ref ln, .int (nI S), .ref ma, .int (nI M), .ref ah, .ref bh, .ref ik, .ref la, .ref lg, .ref ce, .int vto])), (st, .inl (G 0, 196, .inl fst)), (la, .inl (G 0, 4, .inl fla)), (lg, .inl (G 0, 4, .inl flg)), (ce, .inl (G 0, 160, .inl fce))] sz) := by
  have hB_ := hB
  have hM_ := hM
  have hT_ := hT
  have tn2126_ : nIT N := fun _ => nI_toInt (by omega)
  have tn2127_ : nIT B := fun _ => nI_toInt (by omega)
  have tn2128_ : nIT T := fun _ => nI_toInt (by omega)
  have tn2129_ : nIT S := fun _ => nI_toInt (by omega)
  have tn2130_ : nIT M := fun _ => nI_toInt (by omega)
  refine Met.ofW (cc := cX11_read) (maxL := 9) (ret := (some .int)) (by decide) rfl ?_
  intro p e s m args below meth c s₁ Bd hml hv
  obtain ⟨rfl, hsz, hP, hK, hD0⟩ := hv
  have hx := Bd.exec
  have hb := Bd.bytes
  have hr := Bd.returns
  have hg : ∀ w ∈ GT, w.before ([.ref h0, .int k, .int lane, .int x1, .int n] : List Value).toArray s = true := fun w h => atoms_spec (ws := Cond.code yX11_read cX11_read 9 (some .int) :: GT) Bd.pre w (List.mem_cons_of_mem _ h)
  have hown : s.vm.findClass RX11 = some m.cls := findClass_of_methodNamed Bd.named
  have hlocks := Bd.notSynchronized
  subst hsz
  have hD := hD0.self (sz := s.heap.size)
  generalize hAe : va_A [(h0, .inr (11, [.ref st, .int (nI N), .int (nI B), .ref rp, .int vrs, .int vrb, .int vhs, .int vca, .int vxs, .int vxb, .ref tp, .int (nI T), .int vfa, .int vbr, .int vba, .int vsp, .int vhe, .int vtk, .int vva, .ref cu, .ref lt, .ref od, .ref th, .ref be, .ref ln, .int (nI S), .ref ma, .int (nI M), .ref ah, .ref bh, .ref ik, .ref la, .ref lg, .ref ce, .int vto])), (st, .inl (G 0, 196, .inl fst)), (la, .inl (G 0, 4, .inl fla)), (lg, .inl (G 0, 4, .inl flg)), (ce, .inl (G 0, 160, .inl fce))] s.heap.size = A at hD ⊢
  have hA : ∀ q : Nat, s.heap.size ≤ q → A q := fun q h => by rw [← hAe]; exact Or.inr h
  have hS : va_S A s.heap s.heap [] := va_S.rf
  have hl := lv_entry ([.ref h0, .int k, .int lane, .int x1, .int n]) (n := 9) (Nat.le_of_ble_eq_true rfl)
  rw [lg_entry_eq]
  generalize (lg_sl ([.ref h0, .int k, .int lane, .int x1, .int n]) ++ List.replicate (9 - (lg_sl ([.ref h0, .int k, .int lane, .int x1, .int n])).length) Slot.unset).toArray = ls at hl ⊢
  have hl : lv_has ls 9 [(0, .ref h0), (1, .int k), (2, .int lane), (3, .int x1), (4, .int n)] := hl
  refine lv_iload_n hx hb dX11_read_0 rfl (lv_at hl 1 rfl) ?_
  refine lv_i2l (v := k.toInt64) hx hb dX11_read_1 rfl ?_
  refine lv_lconst (v := 0) hx hb dX11_read_2 (by decide) ?_
  refine lv_ldc2 (v := 3) hx hb hown (hg _ wt_1023) dX11_read_3 ?_
  have hPc := hP.sub (ws' := []) [] rfl
  refine va_calli (va_runS (As := [.long k.toInt64, .long 0, .long 3]) (rest := []) ⟨hx, hb, hml, hown, hg⟩ (c_X11_in l dC dI G _ k.toInt64 0 3) (kwS hg mfX11_in wt_992 ⟨Nat.le_of_ble_eq_true rfl, Nat.le_of_ble_eq_true rfl⟩) (preSR hK hPc) rfl rfl hl.1 rfl (lv_room (Nat.le_of_ble_eq_true rfl)) dX11_read_6 ⟨Nat.le_of_ble_eq_true rfl, Nat.le_of_ble_eq_true rfl⟩) hS (fun q h1 h2 => absurd h2 (Nat.not_le.mpr h1)) (fun q h => hA q (Nat.le_trans hS.1 h)) (fun r1 ur1 t H1 locs ht hvm w2 hB hz1 hk1 hS => ?_)
  have hP := keepR hP hk1
  obtain ⟨w2, w2x⟩ := w2
  try simp only [l_ii, show (0 : Int64).toInt = 0 from by decide, show (3 : Int64).toInt = 3 from by decide] at w2
  subst w2
  refine lv_if_eq (tgt := 37) hx hb dX11_read_9 rfl (fun c3 => ?_) (fun c3 => ?_)
  · skip
    have b4 := if10_n c3
    refine lv_iconst (v := (-1)) hx hb dX11_read_37 rfl ?_
    have hpost : ((-1) : Int32) = if ((0 ≤ k.toInt ∧ k.toInt < 4) ∧ (0 ≤ lane.toInt ∧ lane.toInt ≤ 2) ∧ 0 ≤ n.toInt ∧ n.toInt ≤ 20) then rdR N B (fun q8 : Nat => fce (40 * k.toNatClampNeg + (x1.toInt + 2 * (q8 : Int) + 0).toNat)) (fun q8 : Nat => fce (40 * k.toNatClampNeg + (x1.toInt + 2 * (q8 : Int) + 1).toNat)) (tpK (fla k.toNatClampNeg) lane (flg k.toNatClampNeg).toInt x1.toInt n.toNatClampNeg) else -1 := by
      have t_b4 := b4
      have t_n0 : (nI N).toInt = (N : Int) := tn2126_ ()
      have t_n1 : (nI B).toInt = (B : Int) := tn2127_ ()
      have t_n2 : (nI T).toInt = (T : Int) := tn2128_ ()
      have t_n3 : (nI S).toInt = (S : Int) := tn2129_ ()
      have t_n4 : (nI M).toInt = (M : Int) := tn2130_ ()
      have z0 : (0 : Int32).toInt = 0 := qI_0
      have z1 : (1 : Int32).toInt = 1 := qI_1
      have z2 : (2 : Int32).toInt = 2 := qI_2
      have z3 : (3 : Int32).toInt = 3 := qI_3
      have z5 : (5 : Int32).toInt = 5 := qI_5
      have z9 : (9 : Int32).toInt = 9 := qI_9
      have z20 : (20 : Int32).toInt = 20 := qI_20
      have z4 : (-4 : Int32).toInt = -4 := (by decide)
      have z10 : (10 : Int32).toInt = 10 := qI_10
      rw [if_neg (by omega)]
    obtain ⟨hP9, hD9⟩ := va_sub2 (ws' := [(h0, .inr (11, [.ref st, .int (nI N), .int (nI B), .ref rp, .int vrs, .int vrb, .int vhs, .int vca, .int vxs, .int vxb, .ref tp, .int (nI T), .int vfa, .int vbr, .int vba, .int vsp, .int vhe, .int vtk, .int vva, .ref cu, .ref lt, .ref od, .ref th, .ref be, .ref ln, .int (nI S), .ref ma, .int (nI M), .ref ah, .ref bh, .ref ik, .ref la, .ref lg, .ref ce, .int vto])), (st, .inl (G 0, 196, .inl fst)), (la, .inl (G 0, 4, .inl fla)), (lg, .inl (G 0, 4, .inl flg)), (ce, .inl (G 0, 160, .inl fce))]) hP hD [0, 1, 2, 3, 4] (by decide +kernel) rfl
    refine W.widen (k := 0) (n := 0) (Nat.le_of_ble_eq_true rfl) (Nat.le_of_ble_eq_true rfl) ?_
    exact W.iret (v := (-1)) hx hb hr (fun t ht hW => ⟨⟨(-1), (fst, vto), rfl, ⟨hpost, ⟨hst, NO.rf.n3, (by have t_b4 := b4; have tnb_ := nib5 tn2126_ tn2127_ tn2128_ tn2129_ tn2130_; have tqz_ := qz46_; have z4 : (-4 : Int32).toInt = -4 := (by decide); have z10 : (10 : Int32).toInt = 10 := qI_10; intro x9 h9; rw [if_neg (by omega)])⟩⟩, ⟨by rw [ht]; exact hP9, hD9⟩⟩, hS.F ht⟩) hS.2.2 dX11_read_38
  · skip
    have b5 := if10_p c3
    refine lv_iload_n hx hb dX11_read_12 rfl (lv_at hl 2 rfl) ?_
    refine lv_i2l (v := lane.toInt64) hx hb dX11_read_13 rfl ?_
    refine lv_lconst (v := 0) hx hb dX11_read_14 (by decide) ?_
    refine lv_ldc2 (v := 2) hx hb hown (hg _ wt_1056) dX11_read_15 ?_
    have hPc := hP.sub (ws' := []) [] rfl
    refine va_calli (va_runS (As := [.long lane.toInt64, .long 0, .long 2]) (rest := []) ⟨hx, hb, hml, hown, hg⟩ (c_X11_in l dC dI G _ lane.toInt64 0 2) (kwS hg mfX11_in wt_992 ⟨Nat.le_of_ble_eq_true rfl, Nat.le_of_ble_eq_true rfl⟩) (preSR hK hPc) rfl rfl hl.1 rfl (lv_room (Nat.le_of_ble_eq_true rfl)) dX11_read_18 ⟨Nat.le_of_ble_eq_true rfl, Nat.le_of_ble_eq_true rfl⟩) hS (fun q h1 h2 => absurd h2 (Nat.not_le.mpr h1)) (fun q h => hA q (Nat.le_trans hS.1 h)) (fun r6 ur6 t H1 locs ht hvm w7 hB hz1 hk1 hS => ?_)
    have hP := keepR hP hk1
    obtain ⟨w7, w7x⟩ := w7
    try simp only [l_ii, show (0 : Int64).toInt = 0 from by decide, show (2 : Int64).toInt = 2 from by decide] at w7
    subst w7
    refine lv_if_eq (tgt := 37) hx hb dX11_read_21 rfl (fun c8 => ?_) (fun c8 => ?_)
    · skip
      have b9 := if10_n c8
      refine lv_iconst (v := (-1)) hx hb dX11_read_37 rfl ?_
      have hpost : ((-1) : Int32) = if ((0 ≤ k.toInt ∧ k.toInt < 4) ∧ (0 ≤ lane.toInt ∧ lane.toInt ≤ 2) ∧ 0 ≤ n.toInt ∧ n.toInt ≤ 20) then rdR N B (fun q8 : Nat => fce (40 * k.toNatClampNeg + (x1.toInt + 2 * (q8 : Int) + 0).toNat)) (fun q8 : Nat => fce (40 * k.toNatClampNeg + (x1.toInt + 2 * (q8 : Int) + 1).toNat)) (tpK (fla k.toNatClampNeg) lane (flg k.toNatClampNeg).toInt x1.toInt n.toNatClampNeg) else -1 := by
        have t_b5 := b5
        have t_b9 := b9
        have t_n0 : (nI N).toInt = (N : Int) := tn2126_ ()
        have t_n1 : (nI B).toInt = (B : Int) := tn2127_ ()
        have t_n2 : (nI T).toInt = (T : Int) := tn2128_ ()
        have t_n3 : (nI S).toInt = (S : Int) := tn2129_ ()
        have t_n4 : (nI M).toInt = (M : Int) := tn2130_ ()
        have z0 : (0 : Int32).toInt = 0 := qI_0
        have z1 : (1 : Int32).toInt = 1 := qI_1
        have z2 : (2 : Int32).toInt = 2 := qI_2
        have z3 : (3 : Int32).toInt = 3 := qI_3
        have z5 : (5 : Int32).toInt = 5 := qI_5
        have z9 : (9 : Int32).toInt = 9 := qI_9
        have z20 : (20 : Int32).toInt = 20 := qI_20
        have z4 : (-4 : Int32).toInt = -4 := (by decide)
        have z10 : (10 : Int32).toInt = 10 := qI_10
        rw [if_neg (by omega)]
      obtain ⟨hP9, hD9⟩ := va_sub2 (ws' := [(h0, .inr (11, [.ref st, .int (nI N), .int (nI B), .ref rp, .int vrs, .int vrb, .int vhs, .int vca, .int vxs, .int vxb, .ref tp, .int (nI T), .int vfa, .int vbr, .int vba, .int vsp, .int vhe, .int vtk, .int vva, .ref cu, .ref lt, .ref od, .ref th, .ref be, .ref ln, .int (nI S), .ref ma, .int (nI M), .ref ah, .ref bh, .ref ik, .ref la, .ref lg, .ref ce, .int vto])), (st, .inl (G 0, 196, .inl fst)), (la, .inl (G 0, 4, .inl fla)), (lg, .inl (G 0, 4, .inl flg)), (ce, .inl (G 0, 160, .inl fce))]) hP hD [0, 1, 2, 3, 4] (by decide +kernel) rfl
      refine W.widen (k := 0) (n := 0) (Nat.le_of_ble_eq_true rfl) (Nat.le_of_ble_eq_true rfl) ?_
      exact W.iret (v := (-1)) hx hb hr (fun t ht hW => ⟨⟨(-1), (fst, vto), rfl, ⟨hpost, ⟨hst, NO.rf.n3, (by have t_b5 := b5; have t_b9 := b9; have tnb_ := nib5 tn2126_ tn2127_ tn2128_ tn2129_ tn2130_; have tqz_ := qz46_; have z4 : (-4 : Int32).toInt = -4 := (by decide); have z10 : (10 : Int32).toInt = 10 := qI_10; intro x9 h9; rw [if_neg (by omega)])⟩⟩, ⟨by rw [ht]; exact hP9, hD9⟩⟩, hS.F ht⟩) hS.2.2 dX11_read_38
    · skip
      have b10 := if10_p c8
      refine lv_iload hx hb dX11_read_24 (lv_at hl 4 rfl) ?_
      refine lv_i2l (v := n.toInt64) hx hb dX11_read_26 rfl ?_
      refine lv_lconst (v := 0) hx hb dX11_read_27 (by decide) ?_
      refine lv_ldc2 (v := 20) hx hb hown (hg _ wt_1127) dX11_read_28 ?_
      have hPc := hP.sub (ws' := []) [] rfl
      refine va_calli (va_runS (As := [.long n.toInt64, .long 0, .long 20]) (rest := []) ⟨hx, hb, hml, hown, hg⟩ (c_X11_in l dC dI G _ n.toInt64 0 20) (kwS hg mfX11_in wt_992 ⟨Nat.le_of_ble_eq_true rfl, Nat.le_of_ble_eq_true rfl⟩) (preSR hK hPc) rfl rfl hl.1 rfl (lv_room (Nat.le_of_ble_eq_true rfl)) dX11_read_31 ⟨Nat.le_of_ble_eq_true rfl, Nat.le_of_ble_eq_true rfl⟩) hS (fun q h1 h2 => absurd h2 (Nat.not_le.mpr h1)) (fun q h => hA q (Nat.le_trans hS.1 h)) (fun r11 ur11 t H1 locs ht hvm w12 hB hz1 hk1 hS => ?_)
      have hP := keepR hP hk1
      obtain ⟨w12, w12x⟩ := w12
      try simp only [l_ii, show (0 : Int64).toInt = 0 from by decide, show (20 : Int64).toInt = 20 from by decide] at w12
      subst w12
      refine lv_if_ne (tgt := 39) hx hb dX11_read_34 rfl (fun c13 => ?_) (fun c13 => ?_)
      · skip
        have b14 := if10_p c13
        obtain ⟨kk, hkk, rfl⟩ : ∃ j : Nat, j < 4 ∧ k = nI j := by
          have t_b5 := b5
          have t_b10 := b10
          have t_b14 := b14
          have t_n0 : (nI N).toInt = (N : Int) := tn2126_ ()
          have t_n1 : (nI B).toInt = (B : Int) := tn2127_ ()
          have t_n2 : (nI T).toInt = (T : Int) := tn2128_ ()
          have t_n3 : (nI S).toInt = (S : Int) := tn2129_ ()
          have t_n4 : (nI M).toInt = (M : Int) := tn2130_ ()
          exact i32_nat (by omega) (by omega)
        obtain ⟨nn, hnn, rfl⟩ : ∃ j : Nat, j < 21 ∧ n = nI j := by
          have t_b5 := b5
          have t_b10 := b10
          have t_b14 := b14
          have t_hkk := hkk
          have t_n0 : (nI N).toInt = (N : Int) := tn2126_ ()
          have t_n1 : (nI B).toInt = (B : Int) := tn2127_ ()
          have t_n2 : (nI T).toInt = (T : Int) := tn2128_ ()
          have t_n3 : (nI S).toInt = (S : Int) := tn2129_ ()
          have t_n4 : (nI M).toInt = (M : Int) := tn2130_ ()
          have tn2131_ : nIT kk := fun _ => nI_toInt (by omega)
          have t_n5 : (nI kk).toInt = (kk : Int) := tn2131_ ()
          exact i32_nat (by omega) (by omega)
        refine lv_aload_n hx hb dX11_read_39 rfl (lv_at hl 0 rfl) ?_
        refine lv_iconst (v := 0) hx hb dX11_read_40 rfl ?_
        refine lv_sipush (v := 147) hx hb dX11_read_41 rfl ?_
        obtain ⟨hPc, hDc, hFc⟩ := va_sub3 (ws' := [(h0, .inr (11, [.ref st, .int (nI N), .int (nI B), .ref rp, .int vrs, .int vrb, .int vhs, .int vca, .int vxs, .int vxb, .ref tp, .int (nI T), .int vfa, .int vbr, .int vba, .int vsp, .int vhe, .int vtk, .int vva, .ref cu, .ref lt, .ref od, .ref th, .ref be, .ref ln, .int (nI S), .ref ma, .int (nI M), .ref ah, .ref bh, .ref ik, .ref la, .ref lg, .ref ce, .int vto])), (st, .inl (G 0, 196, .inl fst))]) hP hD hS hA [0, 1] (by decide +kernel) rfl
        have tn2132_ : nIT kk := fun _ => nI_toInt (by first | omega | (have t_b5 := b5; have t_b10 := b10; have t_b14 := b14; have t_hkk := hkk; have t_hnn := hnn; omega))
        have tn2133_ : nIT nn := fun _ => nI_toInt (by first | omega | (have t_b5 := b5; have t_b10 := b10; have t_b14 := b14; have t_hkk := hkk; have t_hnn := hnn; omega))
        refine va_callv (va_runV (As := [.int 0, .int 147]) (rest := []) ⟨hx, hb, hml, hown, hg⟩ (c_X11_copiesW l dC dI G _ h0 0 147 st N B rp tp T cu lt od th be ln S ma M ah bh ik la lg ce vrs vrb vhs vca vxs vxb vfa vbr vba vsp vhe vtk vva vto fst hN hB_ hT_ hS0 hM_ hst (by first | omega | (have t_b5 := b5; have t_b10 := b10; have t_b14 := b14; have t_hkk := hkk; have t_hnn := hnn; have tnb_ := nib7 tn2126_ tn2127_ tn2128_ tn2129_ tn2130_ tn2132_ tn2133_; omega)) (by first | omega | (have t_b5 := b5; have t_b10 := b10; have t_b14 := b14; have t_hkk := hkk; have t_hnn := hnn; have tnb_ := nib7 tn2126_ tn2127_ tn2128_ tn2129_ tn2130_ tn2132_ tn2133_; omega)) (by first | omega | (have t_b5 := b5; have t_b10 := b10; have t_b14 := b14; have t_hkk := hkk; have t_hnn := hnn; have tnb_ := nib7 tn2126_ tn2127_ tn2128_ tn2129_ tn2130_ tn2132_ tn2133_; omega))) (kwV hg mfX11_copies wt_1248 ⟨Nat.le_of_ble_eq_true rfl, Nat.le_of_ble_eq_true rfl⟩) (preVW hK hPc hDc (ci := 11) (r := (RX11, TX11, 35)) rfl rfl) rfl rfl hl.1 rfl (lv_room (Nat.le_of_ble_eq_true rfl)) dX11_read_44 ⟨Nat.le_of_ble_eq_true rfl, Nat.le_of_ble_eq_true rfl⟩) hS (fun q _ h => hFc q h) hFc (fun ur15 t H1 locs ht hvm w16 hB hz1 hk1 hS => ?_)
        obtain ⟨u17, rfl⟩ : ∃ z, z = ur15 := ⟨_, rfl⟩
        obtain ⟨hP1, hD1⟩ := hB
        rw [ht] at hP1
        obtain ⟨hP, hD⟩ := va_join (wr := [(la, .inl (G 0, 4, .inl fla)), (lg, .inl (G 0, 4, .inl flg)), (ce, .inl (G 0, 160, .inl fce))]) (w1 := [(h0, .inr (11, [.ref st, .int (nI N), .int (nI B), .ref rp, .int vrs, .int vrb, .int vhs, .int vca, .int vxs, .int vxb, .ref tp, .int (nI T), .int vfa, .int vbr, .int vba, .int vsp, .int vhe, .int vtk, .int vva, .ref cu, .ref lt, .ref od, .ref th, .ref be, .ref ln, .int (nI S), .ref ma, .int (nI M), .ref ah, .ref bh, .ref ik, .ref la, .ref lg, .ref ce, .int vto])), (st, .inl (G 0, 196, .inl u17))]) hP hD [0, 1] [2, 3, 4] rfl rfl (by decide +kernel) (by decide +kernel) hk1 hFc hP1 hD1
        have w16 : OKS u17 ∧ u17 = cpj 0 147 49 fst := w16
        generalize H1 = H at hP hS ⊢
        refine lv_iconst (v := 0) hx hb dX11_read_47 rfl ?_
        refine lv_istore (lv' := [(5, .int 0), (0, .ref h0), (1, .int (nI kk)), (2, .int lane), (3, .int x1), (4, .int (nI nn))]) hx hb dX11_read_48 hl (by decide) rfl (fun ls hl => ?_)
        refine lv_iconst (v := 0) hx hb dX11_read_50 rfl ?_
        refine lv_istore (lv' := [(6, .int 0), (5, .int 0), (0, .ref h0), (1, .int (nI kk)), (2, .int lane), (3, .int x1), (4, .int (nI nn))]) hx hb dX11_read_51 hl (by decide) rfl (fun ls hl => ?_)
        refine lv_iconst (v := 0) hx hb dX11_read_53 rfl ?_
        refine lv_istore (lv' := [(7, .int 0), (6, .int 0), (5, .int 0), (0, .ref h0), (1, .int (nI kk)), (2, .int lane), (3, .int x1), (4, .int (nI nn))]) hx hb dX11_read_54 hl (by decide) rfl (fun ls hl => ?_)
        have loop56_22 : ∀ (nf j18 : Nat), (2 * nn) + 1 ≤ j18 + nf → j18 ≤ (2 * nn) → ∀ (y19 : Int32) (y20 : Int32) (g21 : Nat → Int32) (H : Heap) (locs : List Loc), ((y20.toInt = 0 ∧ y19 = nI (j18 / 2) ∧ (j18 = 0 ∨ (fla kk = lane ∧ 0 ≤ x1.toInt ∧ x1.toInt + (j18 : Int) ≤ (flg kk).toInt)) ∧ (∀ q9 : Nat, q9 < (j18 / 2) → (0 ≤ ((fun q8 : Nat => fce (40 * kk + (x1.toInt + 2 * (q8 : Int) + 0).toNat)) q9).toInt ∧ ((fun q8 : Nat => fce (40 * kk + (x1.toInt + 2 * (q8 : Int) + 0).toNat)) q9).toInt < ((N : Nat) : Int)) ∧ (0 ≤ ((fun q8 : Nat => fce (40 * kk + (x1.toInt + 2 * (q8 : Int) + 1).toNat)) q9).toInt ∧ ((fun q8 : Nat => fce (40 * kk + (x1.toInt + 2 * (q8 : Int) + 1).toNat)) q9).toInt < ((B : Nat) : Int))) ∧ OKS g21 ∧ RDJ fst g21 (fun q8 : Nat => fce (40 * kk + (x1.toInt + 2 * (q8 : Int) + 0).toNat)) (fun q8 : Nat => fce (40 * kk + (x1.toInt + 2 * (q8 : Int) + 1).toNat)) (j18 / 2)) ∨ (y20.toInt ≠ 0 ∧ y19 = nI (tpK (fla kk) lane (flg kk).toInt x1.toInt nn) ∧ (tpK (fla kk) lane (flg kk).toInt x1.toInt nn) ≤ 20 ∧ (∀ q9 : Nat, q9 < (tpK (fla kk) lane (flg kk).toInt x1.toInt nn) → (0 ≤ ((fun q8 : Nat => fce (40 * kk + (x1.toInt + 2 * (q8 : Int) + 0).toNat)) q9).toInt ∧ ((fun q8 : Nat => fce (40 * kk + (x1.toInt + 2 * (q8 : Int) + 0).toNat)) q9).toInt < ((N : Nat) : Int)) ∧ (0 ≤ ((fun q8 : Nat => fce (40 * kk + (x1.toInt + 2 * (q8 : Int) + 1).toNat)) q9).toInt ∧ ((fun q8 : Nat => fce (40 * kk + (x1.toInt + 2 * (q8 : Int) + 1).toNat)) q9).toInt < ((B : Nat) : Int))) ∧ OKS g21 ∧ RDJ fst g21 (fun q8 : Nat => fce (40 * kk + (x1.toInt + 2 * (q8 : Int) + 0).toNat)) (fun q8 : Nat => fce (40 * kk + (x1.toInt + 2 * (q8 : Int) + 1).toNat)) (tpK (fla kk) lane (flg kk).toInt x1.toInt nn))) → va_P (dC, dI) vwCl [(la, .inl (G 0, 4, .inl fla)), (lg, .inl (G 0, 4, .inl flg)), (ce, .inl (G 0, 160, .inl fce)), (h0, .inr (11, [.ref st, .int (nI N), .int (nI B), .ref rp, .int vrs, .int vrb, .int vhs, .int vca, .int vxs, .int vxb, .ref tp, .int (nI T), .int vfa, .int vbr, .int vba, .int vsp, .int vhe, .int vtk, .int vva, .ref cu, .ref lt, .ref od, .ref th, .ref be, .ref ln, .int (nI S), .ref ma, .int (nI M), .ref ah, .ref bh, .ref ik, .ref la, .ref lg, .ref ce, .int vto])), (st, .inl (G 0, 196, .inl g21))] H → va_D A [(la, .inl (G 0, 4, .inl fla)), (lg, .inl (G 0, 4, .inl flg)), (ce, .inl (G 0, 160, .inl fce)), (h0, .inr (11, [.ref st, .int (nI N), .int (nI B), .ref rp, .int vrs, .int vrb, .int vhs, .int vca, .int vxs, .int vxb, .ref tp, .int (nI T), .int vfa, .int vbr, .int vba, .int vsp, .int vhe, .int vtk, .int vva, .ref cu, .ref lt, .ref od, .ref th, .ref be, .ref ln, .int (nI S), .ref ma, .int (nI M), .ref ah, .ref bh, .ref ik, .ref la, .ref lg, .ref ce, .int vto])), (st, .inl (G 0, 196, .inl g21))] → va_S A s.heap H locs → ∀ (ls : Array Slot), lv_has ls 9 [(7, .int (nI j18)), (6, .int y19), (5, .int y20), (0, .ref h0), (1, .int (nI kk)), (2, .int lane), (3, .int x1), (4, .int (nI nn))] → W p l e (headSpec (Cond.code yX11_read cX11_read 9 (some .int) :: GT) ({ frames := 3, cells := 0, slots := 0, locals := 68 } : Room)).room s m ([.ref h0, .int (nI kk), .int lane, .int x1, .int (nI nn)] : List Value).toArray below meth c H locs 0 0 (MQ below (va_Qi (fun (r : Int32) (u : (Nat → Int32) × Int32) => match u with | (ost, oto) => (r = if ((0 ≤ (nI kk).toInt ∧ (nI kk).toInt < 4) ∧ (0 ≤ lane.toInt ∧ lane.toInt ≤ 2) ∧ 0 ≤ (nI nn).toInt ∧ (nI nn).toInt ≤ 20) then rdR N B (fun q8 : Nat => fce (40 * (nI kk).toNatClampNeg + (x1.toInt + 2 * (q8 : Int) + 0).toNat)) (fun q8 : Nat => fce (40 * (nI kk).toNatClampNeg + (x1.toInt + 2 * (q8 : Int) + 1).toNat)) (tpK (fla (nI kk).toNatClampNeg) lane (flg (nI kk).toNatClampNeg).toInt x1.toInt (nI nn).toNatClampNeg) else -1) ∧ OKS ost ∧ NO3 fst ost ∧ ∀ x9 : Nat, x9 < 10 → ost (38 + x9) = (if ((0 ≤ (nI kk).toInt ∧ (nI kk).toInt < 4) ∧ (0 ≤ lane.toInt ∧ lane.toInt ≤ 2) ∧ 0 ≤ (nI nn).toInt ∧ (nI nn).toInt ≤ 20) then rdF N B (fun q8 : Nat => fce (40 * (nI kk).toNatClampNeg + (x1.toInt + 2 * (q8 : Int) + 0).toNat)) (fun q8 : Nat => fce (40 * (nI kk).toNatClampNeg + (x1.toInt + 2 * (q8 : Int) + 1).toNat)) (tpK (fla (nI kk).toNatClampNeg) lane (flg (nI kk).toNatClampNeg).toInt x1.toInt (nI nn).toNatClampNeg) (fun i9 => fst (38 + i9)) else (fun i9 => fst (38 + i9))) x9) (fun (u : (Nat → Int32) × Int32) (t : State) => match u with | (ost, oto) => va_P (dC, dI) vwCl [(h0, .inr (11, [.ref st, .int (nI N), .int (nI B), .ref rp, .int vrs, .int vrb, .int vhs, .int vca, .int vxs, .int vxb, .ref tp, .int (nI T), .int vfa, .int vbr, .int vba, .int vsp, .int vhe, .int vtk, .int vva, .ref cu, .ref lt, .ref od, .ref th, .ref be, .ref ln, .int (nI S), .ref ma, .int (nI M), .ref ah, .ref bh, .ref ik, .ref la, .ref lg, .ref ce, .int oto])), (st, .inl (G 0, 196, .inl ost)), (la, .inl (G 0, 4, .inl fla)), (lg, .inl (G 0, 4, .inl flg)), (ce, .inl (G 0, 160, .inl fce))] t.heap ∧ va_D A [(h0, .inr (11, [.ref st, .int (nI N), .int (nI B), .ref rp, .int vrs, .int vrb, .int vhs, .int vca, .int vxs, .int vxb, .ref tp, .int (nI T), .int vfa, .int vbr, .int vba, .int vsp, .int vhe, .int vtk, .int vva, .ref cu, .ref lt, .ref od, .ref th, .ref be, .ref ln, .int (nI S), .ref ma, .int (nI M), .ref ah, .ref bh, .ref ik, .ref la, .ref lg, .ref ce, .int oto])), (st, .inl (G 0, 196, .inl ost)), (la, .inl (G 0, 4, .inl fla)), (lg, .inl (G 0, 4, .inl flg)), (ce, .inl (G 0, 160, .inl fce))]) A) ([.ref h0, .int (nI kk), .int lane, .int x1, .int (nI nn)] : List Value).toArray s 0 0 A) (F0 m 56 ls []) := by
          intro nf
          induction nf with
          | zero => intro j18 h1 h2; exact absurd h1 (by omega)
          | succ nf ih56_22 =>
            intro j18 hn23 hj24 y19 y20 g21 H locs hinv hP hD hS ls hl
            refine lv_iload hx hb dX11_read_56 (lv_at hl 0 rfl) ?_
            refine lv_iconst (v := 2) hx hb dX11_read_58 rfl ?_
            refine lv_iload hx hb dX11_read_59 (lv_at hl 7 rfl) ?_
            refine lv_imul hx hb dX11_read_61 ?_
            refine lv_cg (y := nI (2 * nn)) (by rw [show (2 : Int32) = nI 2 from rfl]; exact pk_mul _ _) ?_
            refine lv_icmp_ge (tgt := 198) hx hb dX11_read_62 rfl (fun c25 => ?_) (fun c25 => ?_)
            · skip
              have tn2134_ : nIT j18 := fun _ => nI_toInt (by first | omega | (have t := leI c25; omega))
              have tn2135_ : nIT (2 * nn) := fun _ => nI_toInt (by omega)
              have n26 : (2 * nn) ≤ j18 := by have t := leI c25; rw [show (nI (j18)).toInt = ((j18 : Nat) : Int) from tn2134_ ()] at t; rw [show (nI (2 * nn)).toInt = ((2 * nn : Nat) : Int) from tn2135_ ()] at t; omega
              have hend : y19 = nI (tpK (fla kk) lane (flg kk).toInt x1.toInt nn) ∧ (tpK (fla kk) lane (flg kk).toInt x1.toInt nn) ≤ 20 ∧ (∀ q9 : Nat, q9 < (tpK (fla kk) lane (flg kk).toInt x1.toInt nn) → (0 ≤ ((fun q8 : Nat => fce (40 * kk + (x1.toInt + 2 * (q8 : Int) + 0).toNat)) q9).toInt ∧ ((fun q8 : Nat => fce (40 * kk + (x1.toInt + 2 * (q8 : Int) + 0).toNat)) q9).toInt < ((N : Nat) : Int)) ∧ (0 ≤ ((fun q8 : Nat => fce (40 * kk + (x1.toInt + 2 * (q8 : Int) + 1).toNat)) q9).toInt ∧ ((fun q8 : Nat => fce (40 * kk + (x1.toInt + 2 * (q8 : Int) + 1).toNat)) q9).toInt < ((B : Nat) : Int))) ∧ OKS g21 ∧ RDJ fst g21 (fun q8 : Nat => fce (40 * kk + (x1.toInt + 2 * (q8 : Int) + 0).toNat)) (fun q8 : Nat => fce (40 * kk + (x1.toInt + 2 * (q8 : Int) + 1).toNat)) (tpK (fla kk) lane (flg kk).toInt x1.toInt nn) := (by
                rcases hinv with g9 | g9
                · have hm : (tpK (fla kk) lane (flg kk).toInt x1.toInt nn) = j18 / 2 := (by have t_b5 := b5; have t_b10 := b10; have t_b14 := b14; have t_hkk := hkk; have t_hnn := hnn; have t_hj24 := hj24; have t_n26 := n26; have t_n0 : (nI N).toInt = (N : Int) := nI_toInt (by omega); have t_n1 : (nI B).toInt = (B : Int) := nI_toInt (by omega); have t_n2 : (nI T).toInt = (T : Int) := nI_toInt (by omega); have t_n3 : (nI S).toInt = (S : Int) := nI_toInt (by omega); have t_n4 : (nI M).toInt = (M : Int) := nI_toInt (by omega); have t_n5 : (nI kk).toInt = (kk : Int) := nI_toInt (by omega); have t_n6 : (nI nn).toInt = (nn : Int) := nI_toInt (by omega); have t_n7 : (nI j18).toInt = (j18 : Int) := nI_toInt (by omega); have tqz_ := qz46_; have z4 : (-4 : Int32).toInt = -4 := (by decide); have z10 : (10 : Int32).toInt = 10 := qI_10; have hLr := g9.2.2.1; have g7 := g9.1; first | (exfalso; omega) | (unfold tpK; split; (exact tpM_eq (by omega) (fun q9 h9 => by rcases hLr with g8 | g8; omega; exact ⟨by omega, by omega⟩) (fun h9 => absurd h9 (by omega))); (rcases hLr with g8 | g8; omega; exact absurd g8.1 (by first | with_reducible assumption | assumption))))
                  rw [hm]; exact ⟨g9.2.1, (by have t_b5 := b5; have t_b10 := b10; have t_b14 := b14; have t_hkk := hkk; have t_hnn := hnn; have t_hj24 := hj24; have t_n26 := n26; have tnb_ := nib8 tn2126_ tn2127_ tn2128_ tn2129_ tn2130_ tn2132_ tn2133_ tn2134_; have tqz_ := qz46_; have z4 : (-4 : Int32).toInt = -4 := (by decide); have z10 : (10 : Int32).toInt = 10 := qI_10; omega), g9.2.2.2.1, g9.2.2.2.2.1, g9.2.2.2.2.2⟩
                · exact g9.2)
              refine lv_aload_n hx hb dX11_read_198 rfl (lv_at hl 3 rfl) ?_
              refine lv_iload hx hb dX11_read_199 (lv_at hl 2 rfl) ?_
              refine va_put (D := (dC, dI)) (ci := 11) (v := .int y20) (ty := .int) (C := RX11) (T := TX11) (N := 35) hx hb hg inG11 tyX11 tyX11_ok nmX11 hown hK.1 hP hD hS 3 rfl rfl 34 (Nat.le_of_ble_eq_true rfl) (hg _ wt_912) (fun _ h9 => h9) rfl (by decide +kernel) rfl rfl (Nat.le_of_ble_eq_true rfl) dX11_read_201 (fun H locs hP hD hS => ?_)
              refine lv_iload hx hb dX11_read_204 (lv_at hl 1 rfl) ?_
              have hpost : (y19 : Int32) = if ((0 ≤ (nI kk).toInt ∧ (nI kk).toInt < 4) ∧ (0 ≤ lane.toInt ∧ lane.toInt ≤ 2) ∧ 0 ≤ (nI nn).toInt ∧ (nI nn).toInt ≤ 20) then rdR N B (fun q8 : Nat => fce (40 * (nI kk).toNatClampNeg + (x1.toInt + 2 * (q8 : Int) + 0).toNat)) (fun q8 : Nat => fce (40 * (nI kk).toNatClampNeg + (x1.toInt + 2 * (q8 : Int) + 1).toNat)) (tpK (fla (nI kk).toNatClampNeg) lane (flg (nI kk).toNatClampNeg).toInt x1.toInt (nI nn).toNatClampNeg) else -1 := by
                have t_b5 := b5
                have t_b10 := b10
                have t_b14 := b14
                have t_hkk := hkk
                have t_hnn := hnn
                have t_hj24 := hj24
                have t_n26 := n26
                have t_n0 : (nI N).toInt = (N : Int) := tn2126_ ()
                have t_n1 : (nI B).toInt = (B : Int) := tn2127_ ()
                have t_n2 : (nI T).toInt = (T : Int) := tn2128_ ()
                have t_n3 : (nI S).toInt = (S : Int) := tn2129_ ()
                have t_n4 : (nI M).toInt = (M : Int) := tn2130_ ()
                have t_n5 : (nI kk).toInt = (kk : Int) := tn2132_ ()
                have t_n6 : (nI nn).toInt = (nn : Int) := tn2133_ ()
                have t_n7 : (nI j18).toInt = (j18 : Int) := tn2134_ ()
                have z0 : (0 : Int32).toInt = 0 := qI_0
                have z1 : (1 : Int32).toInt = 1 := qI_1
                have z2 : (2 : Int32).toInt = 2 := qI_2
                have z3 : (3 : Int32).toInt = 3 := qI_3
                have z5 : (5 : Int32).toInt = 5 := qI_5
                have z9 : (9 : Int32).toInt = 9 := qI_9
                have z20 : (20 : Int32).toInt = 20 := qI_20
                have z4 : (-4 : Int32).toInt = -4 := (by decide)
                have z10 : (10 : Int32).toInt = 10 := qI_10
                rw [if_pos (by omega), nI_clamp (by omega), nI_clamp (by omega)]
                unfold rdR
                rw [rdI_eq (Nat.le_refl _) hend.2.2.1 (fun h9 => absurd h9 (Nat.lt_irrefl _)), if_neg (Nat.lt_irrefl _)]
                exact hend.1
              obtain ⟨hP9, hD9⟩ := va_sub2 (ws' := [(h0, .inr (11, [.ref st, .int (nI N), .int (nI B), .ref rp, .int vrs, .int vrb, .int vhs, .int vca, .int vxs, .int vxb, .ref tp, .int (nI T), .int vfa, .int vbr, .int vba, .int vsp, .int vhe, .int vtk, .int vva, .ref cu, .ref lt, .ref od, .ref th, .ref be, .ref ln, .int (nI S), .ref ma, .int (nI M), .ref ah, .ref bh, .ref ik, .ref la, .ref lg, .ref ce, .int y20])), (st, .inl (G 0, 196, .inl g21)), (la, .inl (G 0, 4, .inl fla)), (lg, .inl (G 0, 4, .inl flg)), (ce, .inl (G 0, 160, .inl fce))]) hP hD [3, 4, 0, 1, 2] (by decide +kernel) rfl
              refine W.widen (k := 0) (n := 0) (Nat.le_of_ble_eq_true rfl) (Nat.le_of_ble_eq_true rfl) ?_
              exact W.iret (v := y19) hx hb hr (fun t ht hW => ⟨⟨y19, (g21, y20), rfl, ⟨hpost, (by clear hpost; have t_b5 := b5; have t_b10 := b10; have t_b14 := b14; have t_hkk := hkk; have t_hnn := hnn; have t_hj24 := hj24; have t_n26 := n26; have tnb_ := nib8 tn2126_ tn2127_ tn2128_ tn2129_ tn2130_ tn2132_ tn2133_ tn2134_; have tqz_ := qz46_; have z4 : (-4 : Int32).toInt = -4 := (by decide); have z10 : (10 : Int32).toInt = 10 := qI_10; refine ⟨hend.2.2.2.1, hend.2.2.2.2.1, (fun x9 h9 => by rw [if_pos (by omega), nI_clamp (by omega), nI_clamp (by omega)]; unfold rdF; rw [rdI_eq (Nat.le_refl _) hend.2.2.1 (fun h8 => absurd h8 (Nat.lt_irrefl _)), if_neg (Nat.lt_irrefl _)]; exact hend.2.2.2.2.2.1 x9 h9)⟩)⟩, ⟨by rw [ht]; exact hP9, hD9⟩⟩, hS.F ht⟩) hS.2.2 dX11_read_206
            · skip
              have tn2136_ : nIT j18 := fun _ => nI_toInt (by first | omega | (have t := nleI c25; omega))
              have tn2137_ : nIT (2 * nn) := fun _ => nI_toInt (by omega)
              have n27 : j18 < (2 * nn) := by have t := nleI c25; rw [show (nI (j18)).toInt = ((j18 : Nat) : Int) from tn2136_ ()] at t; rw [show (nI (2 * nn)).toInt = ((2 * nn : Nat) : Int) from tn2137_ ()] at t; omega
              refine lv_iload hx hb dX11_read_65 (lv_at hl 2 rfl) ?_
              refine lv_if_ne (tgt := 198) hx hb dX11_read_67 rfl (fun c28 => ?_) (fun c28 => ?_)
              · skip
                have hend : y19 = nI (tpK (fla kk) lane (flg kk).toInt x1.toInt nn) ∧ (tpK (fla kk) lane (flg kk).toInt x1.toInt nn) ≤ 20 ∧ (∀ q9 : Nat, q9 < (tpK (fla kk) lane (flg kk).toInt x1.toInt nn) → (0 ≤ ((fun q8 : Nat => fce (40 * kk + (x1.toInt + 2 * (q8 : Int) + 0).toNat)) q9).toInt ∧ ((fun q8 : Nat => fce (40 * kk + (x1.toInt + 2 * (q8 : Int) + 0).toNat)) q9).toInt < ((N : Nat) : Int)) ∧ (0 ≤ ((fun q8 : Nat => fce (40 * kk + (x1.toInt + 2 * (q8 : Int) + 1).toNat)) q9).toInt ∧ ((fun q8 : Nat => fce (40 * kk + (x1.toInt + 2 * (q8 : Int) + 1).toNat)) q9).toInt < ((B : Nat) : Int))) ∧ OKS g21 ∧ RDJ fst g21 (fun q8 : Nat => fce (40 * kk + (x1.toInt + 2 * (q8 : Int) + 0).toNat)) (fun q8 : Nat => fce (40 * kk + (x1.toInt + 2 * (q8 : Int) + 1).toNat)) (tpK (fla kk) lane (flg kk).toInt x1.toInt nn) := (by
                  rcases hinv with g9 | g9
                  · have hm : (tpK (fla kk) lane (flg kk).toInt x1.toInt nn) = j18 / 2 := (by have t_b5 := b5; have t_b10 := b10; have t_b14 := b14; have t_hkk := hkk; have t_hnn := hnn; have t_hj24 := hj24; have t_n27 := n27; have t_c28 := neI c28; have : (0 : Int32).toInt = 0 := qI_0; have t_n0 : (nI N).toInt = (N : Int) := nI_toInt (by omega); have t_n1 : (nI B).toInt = (B : Int) := nI_toInt (by omega); have t_n2 : (nI T).toInt = (T : Int) := nI_toInt (by omega); have t_n3 : (nI S).toInt = (S : Int) := nI_toInt (by omega); have t_n4 : (nI M).toInt = (M : Int) := nI_toInt (by omega); have t_n5 : (nI kk).toInt = (kk : Int) := nI_toInt (by omega); have t_n6 : (nI nn).toInt = (nn : Int) := nI_toInt (by omega); have t_n7 : (nI j18).toInt = (j18 : Int) := nI_toInt (by omega); have tqz_ := qz46_; have z4 : (-4 : Int32).toInt = -4 := (by decide); have z10 : (10 : Int32).toInt = 10 := qI_10; have hLr := g9.2.2.1; have g7 := g9.1; first | (exfalso; omega) | (unfold tpK; split; (exact tpM_eq (by omega) (fun q9 h9 => by rcases hLr with g8 | g8; omega; exact ⟨by omega, by omega⟩) (fun h9 => absurd h9 (by omega))); (rcases hLr with g8 | g8; omega; exact absurd g8.1 (by first | with_reducible assumption | assumption))))
                    rw [hm]; exact ⟨g9.2.1, (by have t_b5 := b5; have t_b10 := b10; have t_b14 := b14; have t_hkk := hkk; have t_hnn := hnn; have t_hj24 := hj24; have t_n27 := n27; have t_c28 := neI c28; have : (0 : Int32).toInt = 0 := qI_0; have tnb_ := nib8 tn2126_ tn2127_ tn2128_ tn2129_ tn2130_ tn2132_ tn2133_ tn2136_; have tqz_ := qz46_; have z4 : (-4 : Int32).toInt = -4 := (by decide); have z10 : (10 : Int32).toInt = 10 := qI_10; omega), g9.2.2.2.1, g9.2.2.2.2.1, g9.2.2.2.2.2⟩
                  · exact g9.2)
                refine lv_aload_n hx hb dX11_read_198 rfl (lv_at hl 3 rfl) ?_
                refine lv_iload hx hb dX11_read_199 (lv_at hl 2 rfl) ?_
                refine va_put (D := (dC, dI)) (ci := 11) (v := .int y20) (ty := .int) (C := RX11) (T := TX11) (N := 35) hx hb hg inG11 tyX11 tyX11_ok nmX11 hown hK.1 hP hD hS 3 rfl rfl 34 (Nat.le_of_ble_eq_true rfl) (hg _ wt_912) (fun _ h9 => h9) rfl (by decide +kernel) rfl rfl (Nat.le_of_ble_eq_true rfl) dX11_read_201 (fun H locs hP hD hS => ?_)
                refine lv_iload hx hb dX11_read_204 (lv_at hl 1 rfl) ?_
                have hpost : (y19 : Int32) = if ((0 ≤ (nI kk).toInt ∧ (nI kk).toInt < 4) ∧ (0 ≤ lane.toInt ∧ lane.toInt ≤ 2) ∧ 0 ≤ (nI nn).toInt ∧ (nI nn).toInt ≤ 20) then rdR N B (fun q8 : Nat => fce (40 * (nI kk).toNatClampNeg + (x1.toInt + 2 * (q8 : Int) + 0).toNat)) (fun q8 : Nat => fce (40 * (nI kk).toNatClampNeg + (x1.toInt + 2 * (q8 : Int) + 1).toNat)) (tpK (fla (nI kk).toNatClampNeg) lane (flg (nI kk).toNatClampNeg).toInt x1.toInt (nI nn).toNatClampNeg) else -1 := by
                  have t_b5 := b5
                  have t_b10 := b10
                  have t_b14 := b14
                  have t_hkk := hkk
                  have t_hnn := hnn
                  have t_hj24 := hj24
                  have t_n27 := n27
                  have t_c28 := neI c28
                  have : (0 : Int32).toInt = 0 := qI_0
                  have t_n0 : (nI N).toInt = (N : Int) := tn2126_ ()
                  have t_n1 : (nI B).toInt = (B : Int) := tn2127_ ()
                  have t_n2 : (nI T).toInt = (T : Int) := tn2128_ ()
                  have t_n3 : (nI S).toInt = (S : Int) := tn2129_ ()
                  have t_n4 : (nI M).toInt = (M : Int) := tn2130_ ()
                  have t_n5 : (nI kk).toInt = (kk : Int) := tn2132_ ()
                  have t_n6 : (nI nn).toInt = (nn : Int) := tn2133_ ()
                  have t_n7 : (nI j18).toInt = (j18 : Int) := tn2136_ ()
                  have z0 : (0 : Int32).toInt = 0 := qI_0
                  have z1 : (1 : Int32).toInt = 1 := qI_1
                  have z2 : (2 : Int32).toInt = 2 := qI_2
                  have z3 : (3 : Int32).toInt = 3 := qI_3
                  have z5 : (5 : Int32).toInt = 5 := qI_5
                  have z9 : (9 : Int32).toInt = 9 := qI_9
                  have z20 : (20 : Int32).toInt = 20 := qI_20
                  have z4 : (-4 : Int32).toInt = -4 := (by decide)
                  have z10 : (10 : Int32).toInt = 10 := qI_10
                  rw [if_pos (by omega), nI_clamp (by omega), nI_clamp (by omega)]
                  unfold rdR
                  rw [rdI_eq (Nat.le_refl _) hend.2.2.1 (fun h9 => absurd h9 (Nat.lt_irrefl _)), if_neg (Nat.lt_irrefl _)]
                  exact hend.1
                obtain ⟨hP9, hD9⟩ := va_sub2 (ws' := [(h0, .inr (11, [.ref st, .int (nI N), .int (nI B), .ref rp, .int vrs, .int vrb, .int vhs, .int vca, .int vxs, .int vxb, .ref tp, .int (nI T), .int vfa, .int vbr, .int vba, .int vsp, .int vhe, .int vtk, .int vva, .ref cu, .ref lt, .ref od, .ref th, .ref be, .ref ln, .int (nI S), .ref ma, .int (nI M), .ref ah, .ref bh, .ref ik, .ref la, .ref lg, .ref ce, .int y20])), (st, .inl (G 0, 196, .inl g21)), (la, .inl (G 0, 4, .inl fla)), (lg, .inl (G 0, 4, .inl flg)), (ce, .inl (G 0, 160, .inl fce))]) hP hD [3, 4, 0, 1, 2] (by decide +kernel) rfl
                refine W.widen (k := 0) (n := 0) (Nat.le_of_ble_eq_true rfl) (Nat.le_of_ble_eq_true rfl) ?_
                exact W.iret (v := y19) hx hb hr (fun t ht hW => ⟨⟨y19, (g21, y20), rfl, ⟨hpost, (by clear hpost; have t_b5 := b5; have t_b10 := b10; have t_b14 := b14; have t_hkk := hkk; have t_hnn := hnn; have t_hj24 := hj24; have t_n27 := n27; have t_c28 := neI c28; have : (0 : Int32).toInt = 0 := qI_0; have tnb_ := nib8 tn2126_ tn2127_ tn2128_ tn2129_ tn2130_ tn2132_ tn2133_ tn2136_; have tqz_ := qz46_; have z4 : (-4 : Int32).toInt = -4 := (by decide); have z10 : (10 : Int32).toInt = 10 := qI_10; refine ⟨hend.2.2.2.1, hend.2.2.2.2.1, (fun x9 h9 => by rw [if_pos (by omega), nI_clamp (by omega), nI_clamp (by omega)]; unfold rdF; rw [rdI_eq (Nat.le_refl _) hend.2.2.1 (fun h8 => absurd h8 (Nat.lt_irrefl _)), if_neg (Nat.lt_irrefl _)]; exact hend.2.2.2.2.2.1 x9 h9)⟩)⟩, ⟨by rw [ht]; exact hP9, hD9⟩⟩, hS.F ht⟩) hS.2.2 dX11_read_206
              · skip
                have hL := hinv.resolve_right (fun h9 => h9.1 (by have t9 := congrArg Int32.toInt (by assumption : y20 = 0); rw [t9]; rfl))
                have hLr := hL.2.2.1
                refine lv_aload_n hx hb dX11_read_70 rfl (lv_at hl 3 rfl) ?_
                refine va_get (D := (dC, dI)) (ci := 11) (v := .ref la) (C := RX11) (T := TX11) (N := 35) hx hb hg inG11 hown hK.1 hP 3 rfl rfl 31 (Nat.le_of_ble_eq_true rfl) (hg _ wt_909) (fun _ h9 => h9) rfl dX11_read_71 ?_
                refine lv_iload_n hx hb dX11_read_74 rfl (lv_at hl 4 rfl) ?_
                refine va_iald hx hb hK.1 hP 0 0 rfl rfl (vp_in_nI (by first | omega | (have t_b5 := b5; have t_b10 := b10; have t_b14 := b14; have t_hkk := hkk; have t_hnn := hnn; have t_hj24 := hj24; have t_n27 := n27; have t_c28 := eqI c28; have : (0 : Int32).toInt = 0 := qI_0; have tnb_ := nib8 tn2126_ tn2127_ tn2128_ tn2129_ tn2130_ tn2132_ tn2133_ tn2136_; omega)) (by decide)) dX11_read_75 ?_
                refine lv_cg (y := fla kk) (by rw [nI_clamp (by omega)]) ?_
                refine lv_bipush (v := (-4)) hx hb dX11_read_76 rfl ?_
                refine lv_icmp_ne (tgt := 85) hx hb dX11_read_78 rfl (fun c29 => ?_) (fun c29 => ?_)
                · skip
                  refine lv_aload_n hx hb dX11_read_85 rfl (lv_at hl 3 rfl) ?_
                  refine va_get (D := (dC, dI)) (ci := 11) (v := .ref la) (C := RX11) (T := TX11) (N := 35) hx hb hg inG11 hown hK.1 hP 3 rfl rfl 31 (Nat.le_of_ble_eq_true rfl) (hg _ wt_909) (fun _ h9 => h9) rfl dX11_read_86 ?_
                  refine lv_iload_n hx hb dX11_read_89 rfl (lv_at hl 4 rfl) ?_
                  refine va_iald hx hb hK.1 hP 0 0 rfl rfl (vp_in_nI (by first | omega | (have t_b5 := b5; have t_b10 := b10; have t_b14 := b14; have t_hkk := hkk; have t_hnn := hnn; have t_hj24 := hj24; have t_n27 := n27; have t_c28 := eqI c28; have t_c29 := neI c29; have tqz_ := qz8_; have tnb_ := nib8 tn2126_ tn2127_ tn2128_ tn2129_ tn2130_ tn2132_ tn2133_ tn2136_; omega)) (by decide)) dX11_read_90 ?_
                  refine lv_cg (y := fla kk) (by rw [nI_clamp (by omega)]) ?_
                  refine lv_iload_n hx hb dX11_read_91 rfl (lv_at hl 5 rfl) ?_
                  refine lv_icmp_eq (tgt := 99) hx hb dX11_read_92 rfl (fun c30 => ?_) (fun c30 => ?_)
                  · skip
                    have hzk := hz kk (by omega)
                    have e9 := im1 (x := flg kk) hzk.1 hzk.2
                    have e8 := add64 x1 (nI j18)
                    refine lv_iload_n hx hb dX11_read_99 rfl (lv_at hl 6 rfl) ?_
                    refine lv_i2l (v := x1.toInt64) hx hb dX11_read_100 rfl ?_
                    refine lv_iload hx hb dX11_read_101 (lv_at hl 0 rfl) ?_
                    refine lv_i2l (v := (nI j18).toInt64) hx hb dX11_read_103 rfl ?_
                    refine lv_ladd hx hb dX11_read_104 ?_
                    refine lv_lconst (v := 0) hx hb dX11_read_105 (by decide) ?_
                    refine lv_aload_n hx hb dX11_read_106 rfl (lv_at hl 3 rfl) ?_
                    refine va_get (D := (dC, dI)) (ci := 11) (v := .ref lg) (C := RX11) (T := TX11) (N := 35) hx hb hg inG11 hown hK.1 hP 3 rfl rfl 32 (Nat.le_of_ble_eq_true rfl) (hg _ wt_910) (fun _ h9 => h9) rfl dX11_read_107 ?_
                    refine lv_iload_n hx hb dX11_read_110 rfl (lv_at hl 4 rfl) ?_
                    refine va_iald hx hb hK.1 hP 1 0 rfl rfl (vp_in_nI (by first | omega | (have t_b5 := b5; have t_b10 := b10; have t_b14 := b14; have t_hkk := hkk; have t_hnn := hnn; have t_hj24 := hj24; have t_n27 := n27; have t_c28 := eqI c28; have t_c29 := neI c29; have t_c30 := eqI c30; have tqz_ := qz8_; have tnb_ := nib8 tn2126_ tn2127_ tn2128_ tn2129_ tn2130_ tn2132_ tn2133_ tn2136_; omega)) (by decide)) dX11_read_111 ?_
                    refine lv_cg (y := flg kk) (by rw [nI_clamp (by omega)]) ?_
                    refine lv_iconst (v := 1) hx hb dX11_read_112 rfl ?_
                    refine lv_isub hx hb dX11_read_113 ?_
                    refine lv_i2l (v := ((flg kk) - 1).toInt64) hx hb dX11_read_114 rfl ?_
                    have hPc := hP.sub (ws' := []) [] rfl
                    refine va_calli (va_runS (As := [.long (x1.toInt64 + ((nI j18).toInt64)), .long 0, .long (((flg kk) - 1).toInt64)]) (rest := []) ⟨hx, hb, hml, hown, hg⟩ (c_X11_in l dC dI G _ (x1.toInt64 + ((nI j18).toInt64)) 0 (((flg kk) - 1).toInt64)) (kwS hg mfX11_in wt_992 ⟨Nat.le_of_ble_eq_true rfl, Nat.le_of_ble_eq_true rfl⟩) (preSR hK hPc) rfl rfl hl.1 rfl (lv_room (Nat.le_of_ble_eq_true rfl)) dX11_read_115 ⟨Nat.le_of_ble_eq_true rfl, Nat.le_of_ble_eq_true rfl⟩) hS (fun q h1 h2 => absurd h2 (Nat.not_le.mpr h1)) (fun q h => hA q (Nat.le_trans hS.1 h)) (fun r31 ur31 t H1 locs ht hvm w32 hB hz1 hk1 hS => ?_)
                    have hP := keepR hP hk1
                    obtain ⟨w32, w32x⟩ := w32
                    try simp only [l_ii, show (0 : Int64).toInt = 0 from by decide] at w32
                    subst w32
                    refine lv_if_ne (tgt := 125) hx hb dX11_read_118 rfl (fun c33 => ?_) (fun c33 => ?_)
                    · skip
                      have b34 := if10_p c33
                      refine lv_iconst (v := 0) hx hb dX11_read_125 rfl ?_
                      refine lv_istore (lv' := [(5, .int 0), (7, .int (nI j18)), (6, .int y19), (0, .ref h0), (1, .int (nI kk)), (2, .int lane), (3, .int x1), (4, .int (nI nn))]) hx hb dX11_read_126 hl (by decide) rfl (fun ls hl => ?_)
                      refine lv_iload hx hb dX11_read_128 (lv_at hl 0 rfl) ?_
                      refine lv_if_ne (tgt := 192) hx hb dX11_read_130 rfl (fun c35 => ?_) (fun c35 => ?_)
                      · skip
                        exact absurd c35 (by decide)
                      · skip
                        refine lv_iload hx hb dX11_read_133 (lv_at hl 1 rfl) ?_
                        refine lv_iconst (v := 2) hx hb dX11_read_135 rfl ?_
                        refine lv_irem hx hb dX11_read_136 (by decide) ?_
                        refine lv_cg (y := nI (j18 % 2)) (by rw [show (2 : Int32) = nI 2 from rfl]; exact pk_rem (by omega) (by omega) (by omega)) ?_
                        refine lv_iconst (v := 1) hx hb dX11_read_137 rfl ?_
                        refine lv_icmp_ne (tgt := 192) hx hb dX11_read_138 rfl (fun c36 => ?_) (fun c36 => ?_)
                        · skip
                          have tn2138_ : nIT (j18 % 2) := fun _ => nI_toInt (by first | omega | (have t := neI c36; omega))
                          have n37 : (j18 % 2) ≠ 1 := by have t := neI c36; rw [show (nI (j18 % 2)).toInt = ((j18 % 2 : Nat) : Int) from tn2138_ ()] at t; have : (1 : Int32).toInt = 1 := qI_1; omega
                          refine lv_iinc (v := nI (j18 + 1)) (lv' := [(7, .int (nI (j18 + 1))), (5, .int 0), (6, .int y19), (0, .ref h0), (1, .int (nI kk)), (2, .int lane), (3, .int x1), (4, .int (nI nn))]) hx hb dX11_read_192 hl (k := 1) rfl (by rw [show Int32.ofInt 1 = nI 1 from by decide]; exact nI_add _ _) (by decide) rfl (fun ls hl => ?_)
                          refine lv_goto (tgt := 56) hx hb dX11_read_195 rfl ?_
                          exact ih56_22 (j18 + 1) (by omega) (by omega) y19 0 g21 _ _ (by have hh : (j18 + 1) / 2 = j18 / 2 := (by (have t_b5 := b5; have t_b10 := b10; have t_b14 := b14; have t_hkk := hkk; have t_hnn := hnn; have t_hj24 := hj24; have t_n27 := n27; have t_c28 := eqI c28; have t_c29 := neI c29; have t_c30 := eqI c30; have t_b34 := b34; have t_c35 := eqI c35; have t_n37 := n37; have tqz_ := qz8_; have tnb_ := nib8 tn2126_ tn2127_ tn2128_ tn2129_ tn2130_ tn2132_ tn2133_ tn2136_; have tqz_ := qz46_; have z4 : (-4 : Int32).toInt = -4 := (by decide); have z10 : (10 : Int32).toInt = 10 := qI_10; omega)); rw [hh]; exact Or.inl ⟨by decide, hL.2.1, Or.inr ⟨by assumption, by (have t_b5 := b5; have t_b10 := b10; have t_b14 := b14; have t_hkk := hkk; have t_hnn := hnn; have t_hj24 := hj24; have t_n27 := n27; have t_c28 := eqI c28; have t_c29 := neI c29; have t_c30 := eqI c30; have t_b34 := b34; have t_c35 := eqI c35; have t_n37 := n37; have tqz_ := qz8_; have tnb_ := nib8 tn2126_ tn2127_ tn2128_ tn2129_ tn2130_ tn2132_ tn2133_ tn2136_; have tqz_ := qz46_; have z4 : (-4 : Int32).toInt = -4 := (by decide); have z10 : (10 : Int32).toInt = 10 := qI_10; omega), by (have t_b5 := b5; have t_b10 := b10; have t_b14 := b14; have t_hkk := hkk; have t_hnn := hnn; have t_hj24 := hj24; have t_n27 := n27; have t_c28 := eqI c28; have t_c29 := neI c29; have t_c30 := eqI c30; have t_b34 := b34; have t_c35 := eqI c35; have t_n37 := n37; have tqz_ := qz8_; have tnb_ := nib8 tn2126_ tn2127_ tn2128_ tn2129_ tn2130_ tn2132_ tn2133_ tn2136_; have tqz_ := qz46_; have z4 : (-4 : Int32).toInt = -4 := (by decide); have z10 : (10 : Int32).toInt = 10 := qI_10; omega)⟩, hL.2.2.2.1, hL.2.2.2.2.1, hL.2.2.2.2.2⟩) hP hD hS ls (lv_sub hl [0, 2, 1, 3, 4, 5, 6, 7] rfl)
                        · skip
                          have tn2139_ : nIT (j18 % 2) := fun _ => nI_toInt (by first | omega | (have t := eqI c36; omega))
                          have n38 : (j18 % 2) = 1 := by have t := eqI c36; rw [show (nI (j18 % 2)).toInt = ((j18 % 2 : Nat) : Int) from tn2139_ ()] at t; have : (1 : Int32).toInt = 1 := qI_1; omega
                          refine lv_bipush (v := 40) hx hb dX11_read_141 rfl ?_
                          refine lv_iload_n hx hb dX11_read_143 rfl (lv_at hl 4 rfl) ?_
                          refine lv_imul hx hb dX11_read_144 ?_
                          refine lv_cg (y := nI (40 * kk)) (by rw [show (40 : Int32) = nI 40 from rfl]; exact pk_mul _ _) ?_
                          refine lv_iload_n hx hb dX11_read_145 rfl (lv_at hl 6 rfl) ?_
                          refine lv_iadd hx hb dX11_read_146 ?_
                          refine lv_iload hx hb dX11_read_147 (lv_at hl 1 rfl) ?_
                          refine lv_iadd hx hb dX11_read_149 ?_
                          obtain ⟨cx9, hcx9, hcy9, ecx9, ecz9⟩ := rd_ixE (k := kk) (j := j18) (x := x1) (by omega) (by omega) (by have t_b5 := b5; have t_b10 := b10; have t_b14 := b14; have t_hkk := hkk; have t_hnn := hnn; have t_hj24 := hj24; have t_n27 := n27; have t_c28 := eqI c28; have t_c29 := neI c29; have t_c30 := eqI c30; have t_b34 := b34; have t_c35 := eqI c35; have t_n38 := n38; have tqz_ := qz8_; have tnb_ := nib8 tn2126_ tn2127_ tn2128_ tn2129_ tn2130_ tn2132_ tn2133_ tn2136_; omega) (by have t_b5 := b5; have t_b10 := b10; have t_b14 := b14; have t_hkk := hkk; have t_hnn := hnn; have t_hj24 := hj24; have t_n27 := n27; have t_c28 := eqI c28; have t_c29 := neI c29; have t_c30 := eqI c30; have t_b34 := b34; have t_c35 := eqI c35; have t_n38 := n38; have tqz_ := qz8_; have tnb_ := nib8 tn2126_ tn2127_ tn2128_ tn2129_ tn2130_ tn2132_ tn2133_ tn2136_; omega)
                          have hA9 : fce (cx9 - 1) = (fun q8 : Nat => fce (40 * kk + (x1.toInt + 2 * (q8 : Int) + 0).toNat)) (j18 / 2) := (by have t_b5 := b5; have t_b10 := b10; have t_b14 := b14; have t_hkk := hkk; have t_hnn := hnn; have t_hj24 := hj24; have t_n27 := n27; have t_c28 := eqI c28; have t_c29 := neI c29; have t_c30 := eqI c30; have t_b34 := b34; have t_c35 := eqI c35; have t_n38 := n38; have tqz_ := qz8_; have tnb_ := nib8 tn2126_ tn2127_ tn2128_ tn2129_ tn2130_ tn2132_ tn2133_ tn2136_; have tqz_ := qz46_; have z4 : (-4 : Int32).toInt = -4 := (by decide); have z10 : (10 : Int32).toInt = 10 := qI_10; show fce (cx9 - 1) = fce (40 * kk + (x1.toInt + 2 * ((j18 / 2 : Nat) : Int) + 0).toNat); congr 1; omega)
                          have hB9 : fce cx9 = (fun q8 : Nat => fce (40 * kk + (x1.toInt + 2 * (q8 : Int) + 1).toNat)) (j18 / 2) := (by have t_b5 := b5; have t_b10 := b10; have t_b14 := b14; have t_hkk := hkk; have t_hnn := hnn; have t_hj24 := hj24; have t_n27 := n27; have t_c28 := eqI c28; have t_c29 := neI c29; have t_c30 := eqI c30; have t_b34 := b34; have t_c35 := eqI c35; have t_n38 := n38; have tqz_ := qz8_; have tnb_ := nib8 tn2126_ tn2127_ tn2128_ tn2129_ tn2130_ tn2132_ tn2133_ tn2136_; have tqz_ := qz46_; have z4 : (-4 : Int32).toInt = -4 := (by decide); have z10 : (10 : Int32).toInt = 10 := qI_10; show fce cx9 = fce (40 * kk + (x1.toInt + 2 * ((j18 / 2 : Nat) : Int) + 1).toNat); congr 1; omega)
                          refine lv_cg (y := nI cx9) ecx9 ?_
                          refine lv_istore (lv' := [(8, .int (nI cx9)), (5, .int 0), (7, .int (nI j18)), (6, .int y19), (0, .ref h0), (1, .int (nI kk)), (2, .int lane), (3, .int x1), (4, .int (nI nn))]) hx hb dX11_read_150 hl (by decide) rfl (fun ls hl => ?_)
                          refine lv_aload_n hx hb dX11_read_152 rfl (lv_at hl 4 rfl) ?_
                          refine lv_aload_n hx hb dX11_read_153 rfl (lv_at hl 4 rfl) ?_
                          refine va_get (D := (dC, dI)) (ci := 11) (v := .ref ce) (C := RX11) (T := TX11) (N := 35) hx hb hg inG11 hown hK.1 hP 3 rfl rfl 33 (Nat.le_of_ble_eq_true rfl) (hg _ wt_911) (fun _ h9 => h9) rfl dX11_read_154 ?_
                          refine lv_iload hx hb dX11_read_157 (lv_at hl 0 rfl) ?_
                          refine lv_iconst (v := 1) hx hb dX11_read_159 rfl ?_
                          refine lv_isub hx hb dX11_read_160 ?_
                          have tn2140_ : nIT cx9 := fun _ => nI_toInt (by first | omega | (have t_b5 := b5; have t_b10 := b10; have t_b14 := b14; have t_hkk := hkk; have t_hnn := hnn; have t_hj24 := hj24; have t_n27 := n27; have t_c28 := eqI c28; have t_c29 := neI c29; have t_c30 := eqI c30; have t_b34 := b34; have t_c35 := eqI c35; have t_n38 := n38; have t_hcx9 := hcx9; have t_hcy9 := hcy9; have tqz_ := qz8_; omega))
                          refine lv_cg (y := nI (cx9 - 1)) (by rw [show (1 : Int32) = nI 1 from rfl]; exact pk_sub (by have t_b5 := b5; have t_b10 := b10; have t_b14 := b14; have t_hkk := hkk; have t_hnn := hnn; have t_hj24 := hj24; have t_n27 := n27; have t_c28 := eqI c28; have t_c29 := neI c29; have t_c30 := eqI c30; have t_b34 := b34; have t_c35 := eqI c35; have t_n38 := n38; have t_hcx9 := hcx9; have t_hcy9 := hcy9; have tqz_ := qz8_; have tnb_ := nib9 tn2126_ tn2127_ tn2128_ tn2129_ tn2130_ tn2132_ tn2133_ tn2136_ tn2140_; omega)) ?_
                          refine va_iald hx hb hK.1 hP 2 0 rfl rfl (vp_in_nI (by first | omega | (have t_b5 := b5; have t_b10 := b10; have t_b14 := b14; have t_hkk := hkk; have t_hnn := hnn; have t_hj24 := hj24; have t_n27 := n27; have t_c28 := eqI c28; have t_c29 := neI c29; have t_c30 := eqI c30; have t_b34 := b34; have t_c35 := eqI c35; have t_n38 := n38; have t_hcx9 := hcx9; have t_hcy9 := hcy9; have tqz_ := qz8_; have tnb_ := nib9 tn2126_ tn2127_ tn2128_ tn2129_ tn2130_ tn2132_ tn2133_ tn2136_ tn2140_; omega)) (by decide)) dX11_read_161 ?_
                          refine lv_cg (y := fce (cx9 - 1)) (by rw [nI_clamp (by omega)]) ?_
                          refine lv_aload_n hx hb dX11_read_162 rfl (lv_at hl 4 rfl) ?_
                          refine va_get (D := (dC, dI)) (ci := 11) (v := .ref ce) (C := RX11) (T := TX11) (N := 35) hx hb hg inG11 hown hK.1 hP 3 rfl rfl 33 (Nat.le_of_ble_eq_true rfl) (hg _ wt_911) (fun _ h9 => h9) rfl dX11_read_163 ?_
                          refine lv_iload hx hb dX11_read_166 (lv_at hl 0 rfl) ?_
                          refine va_iald hx hb hK.1 hP 2 0 rfl rfl (vp_in_nI (by first | omega | (have t_b5 := b5; have t_b10 := b10; have t_b14 := b14; have t_hkk := hkk; have t_hnn := hnn; have t_hj24 := hj24; have t_n27 := n27; have t_c28 := eqI c28; have t_c29 := neI c29; have t_c30 := eqI c30; have t_b34 := b34; have t_c35 := eqI c35; have t_n38 := n38; have t_hcx9 := hcx9; have t_hcy9 := hcy9; have tqz_ := qz8_; have tnb_ := nib9 tn2126_ tn2127_ tn2128_ tn2129_ tn2130_ tn2132_ tn2133_ tn2136_ tn2140_; omega)) (by decide)) dX11_read_168 ?_
                          refine lv_cg (y := fce cx9) (by rw [nI_clamp (by omega)]) ?_
                          obtain ⟨hPc, hDc, hFc⟩ := va_sub3 (ws' := [(h0, .inr (11, [.ref st, .int (nI N), .int (nI B), .ref rp, .int vrs, .int vrb, .int vhs, .int vca, .int vxs, .int vxb, .ref tp, .int (nI T), .int vfa, .int vbr, .int vba, .int vsp, .int vhe, .int vtk, .int vva, .ref cu, .ref lt, .ref od, .ref th, .ref be, .ref ln, .int (nI S), .ref ma, .int (nI M), .ref ah, .ref bh, .ref ik, .ref la, .ref lg, .ref ce, .int vto])), (st, .inl (G 0, 196, .inl g21))]) hP hD hS hA [3, 4] (by decide +kernel) rfl
                          refine va_calli (va_runV (As := [.int (fce (cx9 - 1)), .int (fce cx9)]) (rest := []) ⟨hx, hb, hml, hown, hg⟩ (c_X11_putsO l dC dI G _ h0 st N B rp tp T cu lt od th be ln S ma M ah bh ik la lg ce (fce (cx9 - 1)) (fce cx9) vrs vrb vhs vca vxs vxb vfa vbr vba vsp vhe vtk vva vto g21 hN hB_ hT_ hS0 hM_ hL.2.2.2.2.1) (kwV hg mfX11_puts wt_1094 ⟨Nat.le_of_ble_eq_true rfl, Nat.le_of_ble_eq_true rfl⟩) (preVW hK hPc hDc (ci := 11) (r := (RX11, TX11, 35)) rfl rfl) rfl rfl hl.1 rfl (lv_room (Nat.le_of_ble_eq_true rfl)) dX11_read_169 ⟨Nat.le_of_ble_eq_true rfl, Nat.le_of_ble_eq_true rfl⟩) hS (fun q _ h => hFc q h) hFc (fun r39 ur39 t H1 locs ht hvm w40 hB hz1 hk1 hS => ?_)
                          obtain ⟨u41, rfl⟩ : ∃ z, z = ur39 := ⟨_, rfl⟩
                          obtain ⟨hP1, hD1⟩ := hB
                          rw [ht] at hP1
                          obtain ⟨hP, hD⟩ := va_join (wr := [(la, .inl (G 0, 4, .inl fla)), (lg, .inl (G 0, 4, .inl flg)), (ce, .inl (G 0, 160, .inl fce))]) (w1 := [(h0, .inr (11, [.ref st, .int (nI N), .int (nI B), .ref rp, .int vrs, .int vrb, .int vhs, .int vca, .int vxs, .int vxb, .ref tp, .int (nI T), .int vfa, .int vbr, .int vba, .int vsp, .int vhe, .int vtk, .int vva, .ref cu, .ref lt, .ref od, .ref th, .ref be, .ref ln, .int (nI S), .ref ma, .int (nI M), .ref ah, .ref bh, .ref ik, .ref la, .ref lg, .ref ce, .int vto])), (st, .inl (G 0, 196, .inl u41))]) hP hD [3, 4] [0, 1, 2] rfl rfl (by decide +kernel) (by decide +kernel) hk1 hFc hP1 hD1
                          generalize H1 = H at hP hS ⊢
                          obtain ⟨w40, w40x⟩ := w40
                          have hnow40 : r39.toInt < 0 → ¬ ((0 ≤ (fce (cx9 - 1)).toInt ∧ (fce (cx9 - 1)).toInt < ((N : Nat) : Int)) ∧ (0 ≤ (fce cx9).toInt ∧ (fce cx9).toInt < ((B : Nat) : Int))) := (fun h9 c9 => pu_no w40 h9 (by have b9 := ck_lt c9.1; have k9 := (hL.2.2.2.2.1 (38 + (fce (cx9 - 1)).toNatClampNeg) (by omega)).2.1 (by omega) (by omega); exact k9.1) c9)
                          refine lv_if_ge (tgt := 189) hx hb dX11_read_172 rfl (fun c42 => ?_) (fun c42 => ?_)
                          · skip
                            refine lv_iinc (v := y19 + 1) (lv' := [(6, .int (y19 + 1)), (8, .int (nI cx9)), (5, .int 0), (7, .int (nI j18)), (0, .ref h0), (1, .int (nI kk)), (2, .int lane), (3, .int x1), (4, .int (nI nn))]) hx hb dX11_read_189 hl (k := 3) rfl (rfl) (by decide) rfl (fun ls hl => ?_)
                            refine lv_iinc (v := nI (j18 + 1)) (lv' := [(7, .int (nI (j18 + 1))), (6, .int (y19 + 1)), (8, .int (nI cx9)), (5, .int 0), (0, .ref h0), (1, .int (nI kk)), (2, .int lane), (3, .int x1), (4, .int (nI nn))]) hx hb dX11_read_192 hl (k := 3) rfl (by rw [show Int32.ofInt 1 = nI 1 from by decide]; exact nI_add _ _) (by decide) rfl (fun ls hl => ?_)
                            refine lv_goto (tgt := 56) hx hb dX11_read_195 rfl ?_
                            exact ih56_22 (j18 + 1) (by omega) (by omega) (y19 + 1) 0 u41 _ _ (by have hh : (j18 + 1) / 2 = j18 / 2 + 1 := (by (have t_b5 := b5; have t_b10 := b10; have t_b14 := b14; have t_hkk := hkk; have t_hnn := hnn; have t_hj24 := hj24; have t_n27 := n27; have t_c28 := eqI c28; have t_c29 := neI c29; have t_c30 := eqI c30; have t_b34 := b34; have t_c35 := eqI c35; have t_n38 := n38; have t_hcx9 := hcx9; have t_hcy9 := hcy9; have t_c42 := leI c42; have tqz_ := qz8_; have tnb_ := nib9 tn2126_ tn2127_ tn2128_ tn2129_ tn2130_ tn2132_ tn2133_ tn2136_ tn2140_; have tqz_ := qz46_; have z4 : (-4 : Int32).toInt = -4 := (by decide); have z10 : (10 : Int32).toInt = 10 := qI_10; omega)); have hA := hA9; have hB := hB9; have hok := pu_ok w40 (by (have t_b5 := b5; have t_b10 := b10; have t_b14 := b14; have t_hkk := hkk; have t_hnn := hnn; have t_hj24 := hj24; have t_n27 := n27; have t_c28 := eqI c28; have t_c29 := neI c29; have t_c30 := eqI c30; have t_b34 := b34; have t_c35 := eqI c35; have t_n38 := n38; have t_hcx9 := hcx9; have t_hcy9 := hcy9; have t_c42 := leI c42; have tqz_ := qz8_; have tnb_ := nib9 tn2126_ tn2127_ tn2128_ tn2129_ tn2130_ tn2132_ tn2133_ tn2136_ tn2140_; have tqz_ := qz46_; have z4 : (-4 : Int32).toInt = -4 := (by decide); have z10 : (10 : Int32).toInt = 10 := qI_10; omega)); rw [hh]; refine Or.inl ⟨by decide, by rw [hL.2.1, ← nI_succ], Or.inr ⟨by assumption, by (have t_b5 := b5; have t_b10 := b10; have t_b14 := b14; have t_hkk := hkk; have t_hnn := hnn; have t_hj24 := hj24; have t_n27 := n27; have t_c28 := eqI c28; have t_c29 := neI c29; have t_c30 := eqI c30; have t_b34 := b34; have t_c35 := eqI c35; have t_n38 := n38; have t_hcx9 := hcx9; have t_hcy9 := hcy9; have t_c42 := leI c42; have tqz_ := qz8_; have tnb_ := nib9 tn2126_ tn2127_ tn2128_ tn2129_ tn2130_ tn2132_ tn2133_ tn2136_ tn2140_; have tqz_ := qz46_; have z4 : (-4 : Int32).toInt = -4 := (by decide); have z10 : (10 : Int32).toInt = 10 := qI_10; omega), by (have t_b5 := b5; have t_b10 := b10; have t_b14 := b14; have t_hkk := hkk; have t_hnn := hnn; have t_hj24 := hj24; have t_n27 := n27; have t_c28 := eqI c28; have t_c29 := neI c29; have t_c30 := eqI c30; have t_b34 := b34; have t_c35 := eqI c35; have t_n38 := n38; have t_hcx9 := hcx9; have t_hcy9 := hcy9; have t_c42 := leI c42; have tqz_ := qz8_; have tnb_ := nib9 tn2126_ tn2127_ tn2128_ tn2129_ tn2130_ tn2132_ tn2133_ tn2136_ tn2140_; have tqz_ := qz46_; have z4 : (-4 : Int32).toInt = -4 := (by decide); have z10 : (10 : Int32).toInt = 10 := qI_10; omega)⟩, fun q9 h9 => ?_, w40x.1, ?_⟩; (by_cases e9 : q9 = j18 / 2; (rw [e9, ← hA, ← hB]; exact hok); exact hL.2.2.2.1 q9 (by (have t_b5 := b5; have t_b10 := b10; have t_b14 := b14; have t_hkk := hkk; have t_hnn := hnn; have t_hj24 := hj24; have t_n27 := n27; have t_c28 := eqI c28; have t_c29 := neI c29; have t_c30 := eqI c30; have t_b34 := b34; have t_c35 := eqI c35; have t_n38 := n38; have t_hcx9 := hcx9; have t_hcy9 := hcy9; have t_c42 := leI c42; have tqz_ := qz8_; have tnb_ := nib9 tn2126_ tn2127_ tn2128_ tn2129_ tn2130_ tn2132_ tn2133_ tn2136_ tn2140_; have tqz_ := qz46_; have z4 : (-4 : Int32).toInt = -4 := (by decide); have z10 : (10 : Int32).toInt = 10 := qI_10; omega))); (rw [w40x.2, if_pos hok, hA, hB]; exact hL.2.2.2.2.2.put (by have b9 := ck_lt hok.1; rw [hA] at b9; exact Nat.lt_of_lt_of_le b9 (by (have t_b5 := b5; have t_b10 := b10; have t_b14 := b14; have t_hkk := hkk; have t_hnn := hnn; have t_hj24 := hj24; have t_n27 := n27; have t_c28 := eqI c28; have t_c29 := neI c29; have t_c30 := eqI c30; have t_b34 := b34; have t_c35 := eqI c35; have t_n38 := n38; have t_hcx9 := hcx9; have t_hcy9 := hcy9; have t_c42 := leI c42; have tqz_ := qz8_; have tnb_ := nib9 tn2126_ tn2127_ tn2128_ tn2129_ tn2130_ tn2132_ tn2133_ tn2136_ tn2140_; have tqz_ := qz46_; have z4 : (-4 : Int32).toInt = -4 := (by decide); have z10 : (10 : Int32).toInt = 10 := qI_10; omega))))) hP hD hS ls (lv_sub hl [0, 1, 3, 4, 5, 6, 7, 8] rfl)
                          · skip
                            refine lv_aload_n hx hb dX11_read_175 rfl (lv_at hl 4 rfl) ?_
                            refine lv_sipush (v := 147) hx hb dX11_read_176 rfl ?_
                            refine lv_iconst (v := 0) hx hb dX11_read_179 rfl ?_
                            obtain ⟨hPc, hDc, hFc⟩ := va_sub3 (ws' := [(h0, .inr (11, [.ref st, .int (nI N), .int (nI B), .ref rp, .int vrs, .int vrb, .int vhs, .int vca, .int vxs, .int vxb, .ref tp, .int (nI T), .int vfa, .int vbr, .int vba, .int vsp, .int vhe, .int vtk, .int vva, .ref cu, .ref lt, .ref od, .ref th, .ref be, .ref ln, .int (nI S), .ref ma, .int (nI M), .ref ah, .ref bh, .ref ik, .ref la, .ref lg, .ref ce, .int vto])), (st, .inl (G 0, 196, .inl u41))]) hP hD hS hA [3, 4] (by decide +kernel) rfl
                            refine va_callv (va_runV (As := [.int 147, .int 0]) (rest := []) ⟨hx, hb, hml, hown, hg⟩ (c_X11_copiesW l dC dI G _ h0 147 0 st N B rp tp T cu lt od th be ln S ma M ah bh ik la lg ce vrs vrb vhs vca vxs vxb vfa vbr vba vsp vhe vtk vva vto u41 hN hB_ hT_ hS0 hM_ w40x.1 (by first | omega | (have t_b5 := b5; have t_b10 := b10; have t_b14 := b14; have t_hkk := hkk; have t_hnn := hnn; have t_hj24 := hj24; have t_n27 := n27; have t_c28 := eqI c28; have t_c29 := neI c29; have t_c30 := eqI c30; have t_b34 := b34; have t_c35 := eqI c35; have t_n38 := n38; have t_hcx9 := hcx9; have t_hcy9 := hcy9; have t_c42 := nleI c42; have tqz_ := qz8_; have tnb_ := nib9 tn2126_ tn2127_ tn2128_ tn2129_ tn2130_ tn2132_ tn2133_ tn2136_ tn2140_; omega)) (by first | omega | (have t_b5 := b5; have t_b10 := b10; have t_b14 := b14; have t_hkk := hkk; have t_hnn := hnn; have t_hj24 := hj24; have t_n27 := n27; have t_c28 := eqI c28; have t_c29 := neI c29; have t_c30 := eqI c30; have t_b34 := b34; have t_c35 := eqI c35; have t_n38 := n38; have t_hcx9 := hcx9; have t_hcy9 := hcy9; have t_c42 := nleI c42; have tqz_ := qz8_; have tnb_ := nib9 tn2126_ tn2127_ tn2128_ tn2129_ tn2130_ tn2132_ tn2133_ tn2136_ tn2140_; omega)) (by first | omega | (have t_b5 := b5; have t_b10 := b10; have t_b14 := b14; have t_hkk := hkk; have t_hnn := hnn; have t_hj24 := hj24; have t_n27 := n27; have t_c28 := eqI c28; have t_c29 := neI c29; have t_c30 := eqI c30; have t_b34 := b34; have t_c35 := eqI c35; have t_n38 := n38; have t_hcx9 := hcx9; have t_hcy9 := hcy9; have t_c42 := nleI c42; have tqz_ := qz8_; have tnb_ := nib9 tn2126_ tn2127_ tn2128_ tn2129_ tn2130_ tn2132_ tn2133_ tn2136_ tn2140_; omega))) (kwV hg mfX11_copies wt_1248 ⟨Nat.le_of_ble_eq_true rfl, Nat.le_of_ble_eq_true rfl⟩) (preVW hK hPc hDc (ci := 11) (r := (RX11, TX11, 35)) rfl rfl) rfl rfl hl.1 rfl (lv_room (Nat.le_of_ble_eq_true rfl)) dX11_read_180 ⟨Nat.le_of_ble_eq_true rfl, Nat.le_of_ble_eq_true rfl⟩) hS (fun q _ h => hFc q h) hFc (fun ur43 t H1 locs ht hvm w44 hB hz1 hk1 hS => ?_)
                            obtain ⟨u45, rfl⟩ : ∃ z, z = ur43 := ⟨_, rfl⟩
                            obtain ⟨hP1, hD1⟩ := hB
                            rw [ht] at hP1
                            obtain ⟨hP, hD⟩ := va_join (wr := [(la, .inl (G 0, 4, .inl fla)), (lg, .inl (G 0, 4, .inl flg)), (ce, .inl (G 0, 160, .inl fce))]) (w1 := [(h0, .inr (11, [.ref st, .int (nI N), .int (nI B), .ref rp, .int vrs, .int vrb, .int vhs, .int vca, .int vxs, .int vxb, .ref tp, .int (nI T), .int vfa, .int vbr, .int vba, .int vsp, .int vhe, .int vtk, .int vva, .ref cu, .ref lt, .ref od, .ref th, .ref be, .ref ln, .int (nI S), .ref ma, .int (nI M), .ref ah, .ref bh, .ref ik, .ref la, .ref lg, .ref ce, .int vto])), (st, .inl (G 0, 196, .inl u45))]) hP hD [3, 4] [0, 1, 2] rfl rfl (by decide +kernel) (by decide +kernel) hk1 hFc hP1 hD1
                            have w44 : OKS u45 ∧ u45 = cpj 147 0 49 u41 := w44
                            generalize H1 = H at hP hS ⊢
                            refine lv_bipush (v := (-20)) hx hb dX11_read_183 rfl ?_
                            refine lv_iload hx hb dX11_read_185 (lv_at hl 3 rfl) ?_
                            refine lv_isub hx hb dX11_read_187 ?_
                            have hpost : ((-20) - y19 : Int32) = if ((0 ≤ (nI kk).toInt ∧ (nI kk).toInt < 4) ∧ (0 ≤ lane.toInt ∧ lane.toInt ≤ 2) ∧ 0 ≤ (nI nn).toInt ∧ (nI nn).toInt ≤ 20) then rdR N B (fun q8 : Nat => fce (40 * (nI kk).toNatClampNeg + (x1.toInt + 2 * (q8 : Int) + 0).toNat)) (fun q8 : Nat => fce (40 * (nI kk).toNatClampNeg + (x1.toInt + 2 * (q8 : Int) + 1).toNat)) (tpK (fla (nI kk).toNatClampNeg) lane (flg (nI kk).toNatClampNeg).toInt x1.toInt (nI nn).toNatClampNeg) else -1 := by
                              have t_b5 := b5
                              have t_b10 := b10
                              have t_b14 := b14
                              have t_hkk := hkk
                              have t_hnn := hnn
                              have t_hj24 := hj24
                              have t_n27 := n27
                              have t_c28 := eqI c28
                              have t_c29 := neI c29
                              have t_c30 := eqI c30
                              have t_b34 := b34
                              have t_c35 := eqI c35
                              have t_n38 := n38
                              have t_hcx9 := hcx9
                              have t_hcy9 := hcy9
                              have t_c42 := nleI c42
                              have : ((-4) : Int32).toInt = -4 := qI_m4
                              have : (0 : Int32).toInt = 0 := qI_0
                              have t_n0 : (nI N).toInt = (N : Int) := tn2126_ ()
                              have t_n1 : (nI B).toInt = (B : Int) := tn2127_ ()
                              have t_n2 : (nI T).toInt = (T : Int) := tn2128_ ()
                              have t_n3 : (nI S).toInt = (S : Int) := tn2129_ ()
                              have t_n4 : (nI M).toInt = (M : Int) := tn2130_ ()
                              have t_n5 : (nI kk).toInt = (kk : Int) := tn2132_ ()
                              have t_n6 : (nI nn).toInt = (nn : Int) := tn2133_ ()
                              have t_n7 : (nI j18).toInt = (j18 : Int) := tn2136_ ()
                              have t_n8 : (nI cx9).toInt = (cx9 : Int) := tn2140_ ()
                              have z0 : (0 : Int32).toInt = 0 := qI_0
                              have z1 : (1 : Int32).toInt = 1 := qI_1
                              have z2 : (2 : Int32).toInt = 2 := qI_2
                              have z3 : (3 : Int32).toInt = 3 := qI_3
                              have z5 : (5 : Int32).toInt = 5 := qI_5
                              have z9 : (9 : Int32).toInt = 9 := qI_9
                              have z20 : (20 : Int32).toInt = 20 := qI_20
                              have z4 : (-4 : Int32).toInt = -4 := (by decide)
                              have z10 : (10 : Int32).toInt = 10 := qI_10
                              rw [if_pos (by omega), nI_clamp (by omega), nI_clamp (by omega)]
                              unfold rdR
                              have hno9 := hnow40 (by omega)
                              have hlt9 : j18 / 2 < (tpK (fla kk) lane (flg kk).toInt x1.toInt nn) := (by unfold tpK; rw [if_pos (by first | with_reducible assumption | assumption)]; have q9 := tpM_le9 (z := (flg kk).toInt) (f := x1.toInt) (n := nn) (p := j18 / 2) (by omega) (fun q9 h9 => by rcases hLr with g9 | g9; omega; exact ⟨by omega, by omega⟩); omega)
                              have hI9 := rdI_eq (N := N) (B := B) (a := (fun q8 : Nat => fce (40 * kk + (x1.toInt + 2 * (q8 : Int) + 0).toNat))) (b := (fun q8 : Nat => fce (40 * kk + (x1.toInt + 2 * (q8 : Int) + 1).toNat))) (m := (tpK (fla kk) lane (flg kk).toInt x1.toInt nn)) (p := j18 / 2) (by omega) hL.2.2.2.1 (fun _ h9 => hno9 (by rw [hA9, hB9]; exact h9))
                              rw [hI9, if_pos hlt9, hL.2.1]
                            obtain ⟨hP9, hD9⟩ := va_sub2 (ws' := [(h0, .inr (11, [.ref st, .int (nI N), .int (nI B), .ref rp, .int vrs, .int vrb, .int vhs, .int vca, .int vxs, .int vxb, .ref tp, .int (nI T), .int vfa, .int vbr, .int vba, .int vsp, .int vhe, .int vtk, .int vva, .ref cu, .ref lt, .ref od, .ref th, .ref be, .ref ln, .int (nI S), .ref ma, .int (nI M), .ref ah, .ref bh, .ref ik, .ref la, .ref lg, .ref ce, .int vto])), (st, .inl (G 0, 196, .inl u45)), (la, .inl (G 0, 4, .inl fla)), (lg, .inl (G 0, 4, .inl flg)), (ce, .inl (G 0, 160, .inl fce))]) hP hD [3, 4, 0, 1, 2] (by decide +kernel) rfl
                            refine W.widen (k := 0) (n := 0) (Nat.le_of_ble_eq_true rfl) (Nat.le_of_ble_eq_true rfl) ?_
                            exact W.iret (v := (-20) - y19) hx hb hr (fun t ht hW => ⟨⟨(-20) - y19, (u45, vto), rfl, ⟨hpost, (by clear hpost; have t_b5 := b5; have t_b10 := b10; have t_b14 := b14; have t_hkk := hkk; have t_hnn := hnn; have t_hj24 := hj24; have t_n27 := n27; have t_c28 := eqI c28; have t_c29 := neI c29; have t_c30 := eqI c30; have t_b34 := b34; have t_c35 := eqI c35; have t_n38 := n38; have t_hcx9 := hcx9; have t_hcy9 := hcy9; have t_c42 := nleI c42; have tqz_ := qz8_; have tnb_ := nib9 tn2126_ tn2127_ tn2128_ tn2129_ tn2130_ tn2132_ tn2133_ tn2136_ tn2140_; have tqz_ := qz46_; have z4 : (-4 : Int32).toInt = -4 := (by decide); have z10 : (10 : Int32).toInt = 10 := qI_10; have hno9 := hnow40 (by omega); have hlt9 : j18 / 2 < (tpK (fla kk) lane (flg kk).toInt x1.toInt nn) := (by unfold tpK; rw [if_pos (by first | with_reducible assumption | assumption)]; have q9 := tpM_le9 (z := (flg kk).toInt) (f := x1.toInt) (n := nn) (p := j18 / 2) (by omega) (fun q9 h9 => by rcases hLr with g9 | g9; omega; exact ⟨by omega, by omega⟩); omega); have hI9 := rdI_eq (N := N) (B := B) (a := (fun q8 : Nat => fce (40 * kk + (x1.toInt + 2 * (q8 : Int) + 0).toNat))) (b := (fun q8 : Nat => fce (40 * kk + (x1.toInt + 2 * (q8 : Int) + 1).toNat))) (m := (tpK (fla kk) lane (flg kk).toInt x1.toInt nn)) (p := j18 / 2) (by omega) hL.2.2.2.1 (fun _ h9 => hno9 (by rw [hA9, hB9]; exact h9)); have hz9 : RDJ fst u41 (fun q8 : Nat => fce (40 * kk + (x1.toInt + 2 * (q8 : Int) + 0).toNat)) (fun q8 : Nat => fce (40 * kk + (x1.toInt + 2 * (q8 : Int) + 1).toNat)) (j18 / 2) := (by have e9 := w40x.2; rw [if_neg (hno9)] at e9; rw [e9]; exact hL.2.2.2.2.2); refine ⟨w44.1, (fun x9 h8 _ => by rw [w44.2]; exact hz9.back x9 h8), (fun x9 h9 => by rw [if_pos (by omega), nI_clamp (by omega), nI_clamp (by omega)]; unfold rdF; rw [hI9, if_pos hlt9, w44.2]; exact hz9.back (38 + x9) (by omega))⟩)⟩, ⟨by rw [ht]; exact hP9, hD9⟩⟩, hS.F ht⟩) hS.2.2 dX11_read_188
                    · skip
                      have b46 := if10_n c33
                      refine lv_iconst (v := 2) hx hb dX11_read_121 rfl ?_
                      refine lv_goto (tgt := 126) hx hb dX11_read_122 rfl ?_
                      refine lv_istore (lv' := [(5, .int 2), (7, .int (nI j18)), (6, .int y19), (0, .ref h0), (1, .int (nI kk)), (2, .int lane), (3, .int x1), (4, .int (nI nn))]) hx hb dX11_read_126 hl (by decide) rfl (fun ls hl => ?_)
                      refine lv_iload hx hb dX11_read_128 (lv_at hl 0 rfl) ?_
                      refine lv_if_ne (tgt := 192) hx hb dX11_read_130 rfl (fun c47 => ?_) (fun c47 => ?_)
                      · skip
                        refine lv_iinc (v := nI (j18 + 1)) (lv' := [(7, .int (nI (j18 + 1))), (5, .int 2), (6, .int y19), (0, .ref h0), (1, .int (nI kk)), (2, .int lane), (3, .int x1), (4, .int (nI nn))]) hx hb dX11_read_192 hl (k := 1) rfl (by rw [show Int32.ofInt 1 = nI 1 from by decide]; exact nI_add _ _) (by decide) rfl (fun ls hl => ?_)
                        refine lv_goto (tgt := 56) hx hb dX11_read_195 rfl ?_
                        exact ih56_22 (j18 + 1) (by omega) (by omega) y19 2 g21 _ _ (by have t_b5 := b5; have t_b10 := b10; have t_b14 := b14; have t_hkk := hkk; have t_hnn := hnn; have t_hj24 := hj24; have t_n27 := n27; have t_c28 := eqI c28; have t_c29 := neI c29; have t_c30 := eqI c30; have t_b46 := b46; have t_c47 := neI c47; have tqz_ := qz48_; have tnb_ := nib8 tn2126_ tn2127_ tn2128_ tn2129_ tn2130_ tn2132_ tn2133_ tn2136_; have tqz_ := qz46_; have z4 : (-4 : Int32).toInt = -4 := (by decide); have z10 : (10 : Int32).toInt = 10 := qI_10; have hm : (tpK (fla kk) lane (flg kk).toInt x1.toInt nn) = j18 / 2 := (by unfold tpK; rw [if_pos (by first | with_reducible assumption | assumption)]; exact tpM_eq (by omega) (fun q9 h9 => by rcases hLr with g9 | g9; omega; exact ⟨by omega, by omega⟩) (fun h9 g8 => by rcases hLr with g9 | g9 <;> omega)); rw [hm]; exact Or.inr ⟨by decide, hL.2.1, by omega, hL.2.2.2.1, hL.2.2.2.2.1, hL.2.2.2.2.2⟩) hP hD hS ls (lv_sub hl [0, 2, 1, 3, 4, 5, 6, 7] rfl)
                      · skip
                        exact absurd c47 (by decide)
                  · skip
                    refine lv_iconst (v := 3) hx hb dX11_read_95 rfl ?_
                    refine lv_goto (tgt := 126) hx hb dX11_read_96 rfl ?_
                    refine lv_istore (lv' := [(5, .int 3), (7, .int (nI j18)), (6, .int y19), (0, .ref h0), (1, .int (nI kk)), (2, .int lane), (3, .int x1), (4, .int (nI nn))]) hx hb dX11_read_126 hl (by decide) rfl (fun ls hl => ?_)
                    refine lv_iload hx hb dX11_read_128 (lv_at hl 0 rfl) ?_
                    refine lv_if_ne (tgt := 192) hx hb dX11_read_130 rfl (fun c48 => ?_) (fun c48 => ?_)
                    · skip
                      refine lv_iinc (v := nI (j18 + 1)) (lv' := [(7, .int (nI (j18 + 1))), (5, .int 3), (6, .int y19), (0, .ref h0), (1, .int (nI kk)), (2, .int lane), (3, .int x1), (4, .int (nI nn))]) hx hb dX11_read_192 hl (k := 1) rfl (by rw [show Int32.ofInt 1 = nI 1 from by decide]; exact nI_add _ _) (by decide) rfl (fun ls hl => ?_)
                      refine lv_goto (tgt := 56) hx hb dX11_read_195 rfl ?_
                      exact ih56_22 (j18 + 1) (by omega) (by omega) y19 3 g21 _ _ (by have t_b5 := b5; have t_b10 := b10; have t_b14 := b14; have t_hkk := hkk; have t_hnn := hnn; have t_hj24 := hj24; have t_n27 := n27; have t_c28 := eqI c28; have t_c29 := neI c29; have t_c30 := neI c30; have t_c48 := neI c48; have tqz_ := qz49_; have tnb_ := nib8 tn2126_ tn2127_ tn2128_ tn2129_ tn2130_ tn2132_ tn2133_ tn2136_; have tqz_ := qz46_; have z4 : (-4 : Int32).toInt = -4 := (by decide); have z10 : (10 : Int32).toInt = 10 := qI_10; have hne : ¬ fla kk = lane := (by first | assumption | (intro e9; have e8 : fla kk = -4 := (by first | with_reducible assumption | assumption); rw [e8] at e9; have e7 := congrArg Int32.toInt e9; omega)); have hj0 : j18 = 0 := (by rcases hLr with g9 | g9; exact g9; exact absurd g9.1 hne); have hm : (tpK (fla kk) lane (flg kk).toInt x1.toInt nn) = j18 / 2 := (by unfold tpK; rw [if_neg hne, hj0]); rw [hm]; exact Or.inr ⟨by decide, hL.2.1, by omega, hL.2.2.2.1, hL.2.2.2.2.1, hL.2.2.2.2.2⟩) hP hD hS ls (lv_sub hl [0, 2, 1, 3, 4, 5, 6, 7] rfl)
                    · skip
                      exact absurd c48 (by decide)
                · skip
                  refine lv_iconst (v := 1) hx hb dX11_read_81 rfl ?_
                  refine lv_goto (tgt := 126) hx hb dX11_read_82 rfl ?_
                  refine lv_istore (lv' := [(5, .int 1), (7, .int (nI j18)), (6, .int y19), (0, .ref h0), (1, .int (nI kk)), (2, .int lane), (3, .int x1), (4, .int (nI nn))]) hx hb dX11_read_126 hl (by decide) rfl (fun ls hl => ?_)
                  refine lv_iload hx hb dX11_read_128 (lv_at hl 0 rfl) ?_
                  refine lv_if_ne (tgt := 192) hx hb dX11_read_130 rfl (fun c49 => ?_) (fun c49 => ?_)
                  · skip
                    refine lv_iinc (v := nI (j18 + 1)) (lv' := [(7, .int (nI (j18 + 1))), (5, .int 1), (6, .int y19), (0, .ref h0), (1, .int (nI kk)), (2, .int lane), (3, .int x1), (4, .int (nI nn))]) hx hb dX11_read_192 hl (k := 1) rfl (by rw [show Int32.ofInt 1 = nI 1 from by decide]; exact nI_add _ _) (by decide) rfl (fun ls hl => ?_)
                    refine lv_goto (tgt := 56) hx hb dX11_read_195 rfl ?_
                    exact ih56_22 (j18 + 1) (by omega) (by omega) y19 1 g21 _ _ (by have t_b5 := b5; have t_b10 := b10; have t_b14 := b14; have t_hkk := hkk; have t_hnn := hnn; have t_hj24 := hj24; have t_n27 := n27; have t_c28 := eqI c28; have t_c29 := eqI c29; have t_c49 := neI c49; have tqz_ := qz40_; have tnb_ := nib8 tn2126_ tn2127_ tn2128_ tn2129_ tn2130_ tn2132_ tn2133_ tn2136_; have tqz_ := qz46_; have z4 : (-4 : Int32).toInt = -4 := (by decide); have z10 : (10 : Int32).toInt = 10 := qI_10; have hne : ¬ fla kk = lane := (by first | assumption | (intro e9; have e8 : fla kk = -4 := (by first | with_reducible assumption | assumption); rw [e8] at e9; have e7 := congrArg Int32.toInt e9; omega)); have hj0 : j18 = 0 := (by rcases hLr with g9 | g9; exact g9; exact absurd g9.1 hne); have hm : (tpK (fla kk) lane (flg kk).toInt x1.toInt nn) = j18 / 2 := (by unfold tpK; rw [if_neg hne, hj0]); rw [hm]; exact Or.inr ⟨by decide, hL.2.1, by omega, hL.2.2.2.1, hL.2.2.2.2.1, hL.2.2.2.2.2⟩) hP hD hS ls (lv_sub hl [0, 2, 1, 3, 4, 5, 6, 7] rfl)
                  · skip
                    exact absurd c49 (by decide)
        exact loop56_22 ((2 * nn) + 1) 0 (by omega) (by omega) 0 0 u17 _ _ (Or.inl ⟨by decide, rfl, Or.inl rfl, fun q9 h9 => absurd h9 (Nat.not_lt_zero _), w16.1, (by rw [w16.2]; exact RDJ.zero)⟩) hP hD hS ls (lv_sub hl [0, 1, 2, 3, 4, 5, 6, 7] rfl)
      · skip
        have b50 := if10_n c13
        refine lv_iconst (v := (-1)) hx hb dX11_read_37 rfl ?_
        have hpost : ((-1) : Int32) = if ((0 ≤ k.toInt ∧ k.toInt < 4) ∧ (0 ≤ lane.toInt ∧ lane.toInt ≤ 2) ∧ 0 ≤ n.toInt ∧ n.toInt ≤ 20) then rdR N B (fun q8 : Nat => fce (40 * k.toNatClampNeg + (x1.toInt + 2 * (q8 : Int) + 0).toNat)) (fun q8 : Nat => fce (40 * k.toNatClampNeg + (x1.toInt + 2 * (q8 : Int) + 1).toNat)) (tpK (fla k.toNatClampNeg) lane (flg k.toNatClampNeg).toInt x1.toInt n.toNatClampNeg) else -1 := by
          have t_b5 := b5
          have t_b10 := b10
          have t_b50 := b50
          have t_n0 : (nI N).toInt = (N : Int) := tn2126_ ()
          have t_n1 : (nI B).toInt = (B : Int) := tn2127_ ()
          have t_n2 : (nI T).toInt = (T : Int) := tn2128_ ()
          have t_n3 : (nI S).toInt = (S : Int) := tn2129_ ()
          have t_n4 : (nI M).toInt = (M : Int) := tn2130_ ()
          have z0 : (0 : Int32).toInt = 0 := qI_0
          have z1 : (1 : Int32).toInt = 1 := qI_1
          have z2 : (2 : Int32).toInt = 2 := qI_2
          have z3 : (3 : Int32).toInt = 3 := qI_3
          have z5 : (5 : Int32).toInt = 5 := qI_5
          have z9 : (9 : Int32).toInt = 9 := qI_9
          have z20 : (20 : Int32).toInt = 20 := qI_20
          have z4 : (-4 : Int32).toInt = -4 := (by decide)
          have z10 : (10 : Int32).toInt = 10 := qI_10
          rw [if_neg (by omega)]
        obtain ⟨hP9, hD9⟩ := va_sub2 (ws' := [(h0, .inr (11, [.ref st, .int (nI N), .int (nI B), .ref rp, .int vrs, .int vrb, .int vhs, .int vca, .int vxs, .int vxb, .ref tp, .int (nI T), .int vfa, .int vbr, .int vba, .int vsp, .int vhe, .int vtk, .int vva, .ref cu, .ref lt, .ref od, .ref th, .ref be, .ref ln, .int (nI S), .ref ma, .int (nI M), .ref ah, .ref bh, .ref ik, .ref la, .ref lg, .ref ce, .int vto])), (st, .inl (G 0, 196, .inl fst)), (la, .inl (G 0, 4, .inl fla)), (lg, .inl (G 0, 4, .inl flg)), (ce, .inl (G 0, 160, .inl fce))]) hP hD [0, 1, 2, 3, 4] (by decide +kernel) rfl
        refine W.widen (k := 0) (n := 0) (Nat.le_of_ble_eq_true rfl) (Nat.le_of_ble_eq_true rfl) ?_
        exact W.iret (v := (-1)) hx hb hr (fun t ht hW => ⟨⟨(-1), (fst, vto), rfl, ⟨hpost, ⟨hst, NO.rf.n3, (by have t_b5 := b5; have t_b10 := b10; have t_b50 := b50; have tnb_ := nib5 tn2126_ tn2127_ tn2128_ tn2129_ tn2130_; have tqz_ := qz46_; have z4 : (-4 : Int32).toInt = -4 := (by decide); have z10 : (10 : Int32).toInt = 10 := qI_10; intro x9 h9; rw [if_neg (by omega)])⟩⟩, ⟨by rw [ht]; exact hP9, hD9⟩⟩, hS.F ht⟩) hS.2.2 dX11_read_38

def nrw (L v : Int32) : Int32 := if L = 0 then v.toInt8.toInt32 else if L = 1 then v.toInt16.toInt32 else v
def nrR (L v : Int32) : Int32 := if L = 0 then (v <<< ((24 : Int32) &&& 31)) >>> ((24 : Int32) &&& 31) else if L = 1 then (v <<< ((16 : Int32) &&& 31)) >>> ((16 : Int32) &&& 31) else v
theorem bv_8 (x : BitVec 32) : (x.signExtend 8).signExtend 32 = (x <<< 24).sshiftRight 24 := by
  apply BitVec.eq_of_getLsbD_eq
  intro i hi
  rw [BitVec.getLsbD_signExtend, BitVec.getLsbD_sshiftRight]
  by_cases h : i < 8
  · rw [if_pos h, if_pos (by omega), BitVec.getLsbD_signExtend, if_pos (by omega), BitVec.getLsbD_shiftLeft]
    simp [hi, show 24 + i < 32 by omega, show i < 8 from h, show ¬ 32 ≤ i by omega, show ¬ 24 + i < 24 by omega]
  · rw [if_neg h]
    by_cases g : 24 + i < 32
    · omega
    · rw [if_neg g]
      simp [hi, show ¬ 32 ≤ i by omega, BitVec.msb_eq_getLsbD_last, BitVec.getLsbD_signExtend, BitVec.getElem_signExtend, BitVec.getLsbD_shiftLeft]
theorem bv_16 (x : BitVec 32) : (x.signExtend 16).signExtend 32 = (x <<< 16).sshiftRight 16 := by
  apply BitVec.eq_of_getLsbD_eq
  intro i hi
  rw [BitVec.getLsbD_signExtend, BitVec.getLsbD_sshiftRight]
  by_cases h : i < 16
  · rw [if_pos h, if_pos (by omega), BitVec.getLsbD_signExtend, if_pos (by omega), BitVec.getLsbD_shiftLeft]
    simp [hi, show 16 + i < 32 by omega, show i < 16 from h, show ¬ 32 ≤ i by omega, show ¬ 16 + i < 16 by omega]
  · rw [if_neg h]
    by_cases g : 16 + i < 32
    · omega
    · rw [if_neg g]
      simp [hi, show ¬ 32 ≤ i by omega, BitVec.msb_eq_getLsbD_last, BitVec.getLsbD_signExtend, BitVec.getElem_signExtend, BitVec.getLsbD_shiftLeft]
theorem n_8 (v : Int32) : v.toInt8.toInt32 = (v <<< ((24 : Int32) &&& 31)) >>> ((24 : Int32) &&& 31) := Int32.toBitVec_inj.mp (bv_8 v.toBitVec)
theorem n_16 (v : Int32) : v.toInt16.toInt32 = (v <<< ((16 : Int32) &&& 31)) >>> ((16 : Int32) &&& 31) := Int32.toBitVec_inj.mp (bv_16 v.toBitVec)
theorem nrw_R (L v : Int32) : nrw L v = nrR L v := by
  unfold nrw nrR
  rw [n_8, n_16]
theorem fa0 {a z r : Int32} {v : Int64} (h : r = if a = -1 then 1 else if v.toInt < 0 ∨ z.toInt ≤ v.toInt then 2 else 0) (h0 : r = 0) : ¬ a = -1 ∧ 0 ≤ v.toInt ∧ v.toInt < z.toInt := ⟨tp_ne h h0, (fz0 h h0).1, (fz0 h h0).2⟩
theorem faN {a z r : Int32} {v : Int64} (h : r = if a = -1 then 1 else if v.toInt < 0 ∨ z.toInt ≤ v.toInt then 2 else 0) (h0 : ¬ r = 0) : ¬ (¬ a = -1 ∧ 0 ≤ v.toInt ∧ v.toInt < z.toInt) := by
  intro c
  rw [if_neg c.1, if_neg (by omega)] at h
  exact h0 h
theorem up_z {F : Nat → Nat → Int32} {k j : Nat} : va_up (va_up F k (zpF j (F k))) k (upd ((va_up F k (zpF j (F k))) k) j 0) = va_up F k (zpF (j + 1) (F k)) := by
  funext q
  show (if q = k then upd (if k = k then zpF j (F k) else F k) j 0 else (if q = k then zpF j (F k) else F q)) = (if q = k then zpF (j + 1) (F k) else F q)
  rw [if_pos rfl, zpF_s]
  split
  · rfl
  · rfl
theorem up_0 {F : Nat → Nat → Int32} {k : Nat} : F = va_up F k (zpF 0 (F k)) := by
  funext q
  show F q = (if q = k then zpF 0 (F k) else F q)
  split
  · rename_i e; rw [e]; exact zpF_0
  · rfl
def zpg (k j : Nat) (f : Nat → Int32) : Nat → Int32 := fun q => if 40 * k ≤ q ∧ q < 40 * k + j then 0 else f q
theorem zpg_0 {k : Nat} {f : Nat → Int32} : f = zpg k 0 f := by
  funext q
  show f q = (if 40 * k ≤ q ∧ q < 40 * k + 0 then 0 else f q)
  rw [if_neg (by omega)]
theorem zpg_s {k j : Nat} {f : Nat → Int32} : upd (zpg k j f) (40 * k + j) 0 = zpg k (j + 1) f := by
  funext q
  show (if q = 40 * k + j then 0 else (if 40 * k ≤ q ∧ q < 40 * k + j then 0 else f q)) = (if 40 * k ≤ q ∧ q < 40 * k + (j + 1) then 0 else f q)
  by_cases c : q = 40 * k + j
  · rw [if_pos c, if_pos (by omega)]
  · rw [if_neg c]
    by_cases d : 40 * k ≤ q ∧ q < 40 * k + j
    · rw [if_pos d, if_pos (by omega)]
    · rw [if_neg d, if_neg (by omega)]
def xch (a : Nat → Int32) (i k : Nat) : Nat → Int32 := upd (upd a (38 + i) (a (38 + k))) (38 + k) (a (38 + i))
theorem xch_xch {a : Nat → Int32} {i k : Nat} : xch (xch a i k) i k = a := by
  funext q
  unfold xch upd
  by_cases c : q = 38 + k
  · by_cases d : 38 + i = 38 + k
    · simp [c, d]
    · simp [c, d]
      intro e; rw [e]
  · by_cases d : q = 38 + i
    · simp [c, d]
      intro e n; exact absurd e n
    · simp [c, d]

set_option maxHeartbeats 1000000 in
set_option maxRecDepth 100000 in
theorem c_X6_fillE (l : Launch) (dC : Nat → ClassId) (dI : Nat → Nat → Nat) (G : Nat → ClassId) (sz : Nat) (h0 la si ce fi se k : Nat) (x8 x9 i x1 : Int32) (fl fz : Nat → Int32) (rc : Nat → Nat) (F : Nat → Nat → Int32) (hk : k < 4) (hz : ∀ q : Nat, q < 4 → 0 ≤ (fz q).toInt ∧ (fz q).toInt ≤ 40) : Met l yX6_fill (Cond.code yX6_fill cX6_fill 4 none :: GT) ({ frames := 1, cells := 0, slots := 0, locals := 23 } : Room) (PcW [.ref h0, .int (nI k), .int i, .int x1] dC dI G (([(h0, .inr (6, [.ref la, .ref si, .ref ce, .int x8, .int x9, .ref fi, .ref se])), (la, .inl (G 0, 4, .inl fl)), (si, .inl (G 0, 4, .inl fz)), (ce, .inl (G 4, 4, .inr (.inr (.inr (.inr (fun ir => if ir < 4 then some (rc ir) else none))))))] : va_W) ++ ((((List.range 4).map (fun iq => (rc iq, .inl (G 0, 40, .inl (F iq))))) : va_W) ++ [])) sz) (va_Qv (fun (u : (Nat → Nat → Int32)) => match u with | u0 => u0 = (if (¬ fl k = -1 ∧ 0 ≤ i.toInt ∧ i.toInt < (fz k).toInt) then va_up F k (upd (F k) i.toNatClampNeg (nrw (fl k) x1)) else F)) (fun (u : (Nat → Nat → Int32)) (t : State) => match u with | u0 => va_P (dC, dI) vwCl (([(h0, .inr (6, [.ref la, .ref si, .ref ce, .int x8, .int x9, .ref fi, .ref se])), (la, .inl (G 0, 4, .inl fl)), (si, .inl (G 0, 4, .inl fz)), (ce, .inl (G 4, 4, .inr (.inr (.inr (.inr (fun ir => if ir < 4 then some (rc ir) else none))))))] : va_W) ++ ((((List.range 4).map (fun iq => (rc iq, .inl (G 0, 40, .inl (u0 iq))))) : va_W) ++ [])) t.heap ∧ va_D (va_A (([(h0, .inr (6, [.ref la, .ref si, .ref ce, .int x8, .int x9, .ref fi, .ref se])), (la, .inl (G 0, 4, .inl fl)), (si, .inl (G 0, 4, .inl fz)), (ce, .inl (G 4, 4, .inr (.inr (.inr (.inr (fun ir => if ir < 4 then some (rc ir) else none))))))] : va_W) ++ ((((List.range 4).map (fun iq => (rc iq, .inl (G 0, 40, .inl (F iq))))) : va_W) ++ [])) sz) (([(h0, .inr (6, [.ref la, .ref si, .ref ce, .int x8, .int x9, .ref fi, .ref se])), (la, .inl (G 0, 4, .inl fl)), (si, .inl (G 0, 4, .inl fz)), (ce, .inl (G 4, 4, .inr (.inr (.inr (.inr (fun ir => if ir < 4 then some (rc ir) else none))))))] : va_W) ++ ((((List.range 4).map (fun iq => (rc iq, .inl (G 0, 40, .inl (u0 iq))))) : va_W) ++ []))) (va_A (([(h0, .inr (6, [.ref la, .ref si, .ref ce, .int x8, .int x9, .ref fi, .ref se])), (la, .inl (G 0, 4, .inl fl)), (si, .inl (G 0, 4, .inl fz)), (ce, .inl (G 4, 4, .inr (.inr (.inr (.inr (fun ir => if ir < 4 then some (rc ir) else none))))))] : va_W) ++ ((((List.range 4).map (fun iq => (rc iq, .inl (G 0, 40, .inl (F iq))))) : va_W) ++ [])) sz)) 0 0 (va_A (([(h0, .inr (6, [.ref la, .ref si, .ref ce, .int x8, .int x9, .ref fi, .ref se])), (la, .inl (G 0, 4, .inl fl)), (si, .inl (G 0, 4, .inl fz)), (ce, .inl (G 4, 4, .inr (.inr (.inr (.inr (fun ir => if ir < 4 then some (rc ir) else none))))))] : va_W) ++ ((((List.range 4).map (fun iq => (rc iq, .inl (G 0, 40, .inl (F iq))))) : va_W) ++ [])) sz) := by
  refine Met.ofW (cc := cX6_fill) (maxL := 4) (ret := none) (by decide) rfl ?_
  intro p e s m args below meth c s₁ Bd hml hv
  obtain ⟨rfl, hsz, hP, hK, hD0⟩ := hv
  have hx := Bd.exec
  have hb := Bd.bytes
  have hr := Bd.returns
  have hg : ∀ w ∈ GT, w.before ([.ref h0, .int (nI k), .int i, .int x1] : List Value).toArray s = true := fun w h => atoms_spec (ws := Cond.code yX6_fill cX6_fill 4 none :: GT) Bd.pre w (List.mem_cons_of_mem _ h)
  have hown : s.vm.findClass RX6 = some m.cls := findClass_of_methodNamed Bd.named
  have hlocks := Bd.notSynchronized
  subst hsz
  have hD := hD0.self (sz := s.heap.size)
  generalize hAe : va_A (([(h0, .inr (6, [.ref la, .ref si, .ref ce, .int x8, .int x9, .ref fi, .ref se])), (la, .inl (G 0, 4, .inl fl)), (si, .inl (G 0, 4, .inl fz)), (ce, .inl (G 4, 4, .inr (.inr (.inr (.inr (fun ir => if ir < 4 then some (rc ir) else none))))))] : va_W) ++ ((((List.range 4).map (fun iq => (rc iq, .inl (G 0, 40, .inl (F iq))))) : va_W) ++ [])) s.heap.size = A at hD ⊢
  have hA : ∀ q : Nat, s.heap.size ≤ q → A q := fun q h => by rw [← hAe]; exact Or.inr h
  have hS : va_S A s.heap s.heap [] := va_S.rf
  have hl := lv_entry ([.ref h0, .int (nI k), .int i, .int x1]) (n := 4) (Nat.le_of_ble_eq_true rfl)
  rw [lg_entry_eq]
  generalize (lg_sl ([.ref h0, .int (nI k), .int i, .int x1]) ++ List.replicate (4 - (lg_sl ([.ref h0, .int (nI k), .int i, .int x1])).length) Slot.unset).toArray = ls at hl ⊢
  have hl : lv_has ls 4 [(0, .ref h0), (1, .int (nI k)), (2, .int i), (3, .int x1)] := hl
  have hzk := hz k hk
  have lii := l_ii i
  refine lv_aload_n hx hb dX6_fill_0 rfl (lv_at hl 0 rfl) ?_
  refine lv_iload_n hx hb dX6_fill_1 rfl (lv_at hl 1 rfl) ?_
  refine lv_iload_n hx hb dX6_fill_2 rfl (lv_at hl 2 rfl) ?_
  refine lv_i2l (v := i.toInt64) hx hb dX6_fill_3 rfl ?_
  have hPc := hP.sub (ws' := [(h0, .inr (6, [.ref la, .ref si, .ref ce, .int x8, .int x9, .ref fi, .ref se])), (la, .inl (G 0, 4, .inl fl)), (si, .inl (G 0, 4, .inl fz))]) [0, 1, 2] rfl
  have tn2141_ : nIT k := fun _ => nI_toInt (by omega)
  refine va_calli (va_runV (As := [.int (nI k), .long i.toInt64]) (rest := []) ⟨hx, hb, hml, hown, hg⟩ (c_X6_faultAt l dC dI G _ h0 la si ce fi se k x8 x9 i.toInt64 fl fz hk) (kwV hg mfX6_faultAt wt_846 ⟨Nat.le_of_ble_eq_true rfl, Nat.le_of_ble_eq_true rfl⟩) (preVR hK hPc (ci := 6) (r := (RX6, TX6, 7)) rfl rfl) rfl rfl hl.1 rfl (lv_room (Nat.le_of_ble_eq_true rfl)) dX6_fill_4 ⟨Nat.le_of_ble_eq_true rfl, Nat.le_of_ble_eq_true rfl⟩) hS (fun q h1 h2 => absurd h2 (Nat.not_le.mpr h1)) (fun q h => hA q (Nat.le_trans hS.1 h)) (fun r1 ur1 t H1 locs ht hvm w2 hB hz1 hk1 hS => ?_)
  have hP := keepR hP hk1
  obtain ⟨w2, w2x⟩ := w2
  refine lv_if_ne (tgt := 48) hx hb dX6_fill_7 rfl (fun c3 => ?_) (fun c3 => ?_)
  · skip
    obtain ⟨hP9, hD9⟩ := va_sub2 (ws' := (([(h0, .inr (6, [.ref la, .ref si, .ref ce, .int x8, .int x9, .ref fi, .ref se])), (la, .inl (G 0, 4, .inl fl)), (si, .inl (G 0, 4, .inl fz)), (ce, .inl (G 4, 4, .inr (.inr (.inr (.inr (fun ir => if ir < 4 then some (rc ir) else none))))))] : va_W) ++ ((((List.range 4).map (fun iq => (rc iq, .inl (G 0, 40, .inl (F iq))))) : va_W) ++ []))) hP hD [0, 1, 2, 3, 4, 5, 6, 7] (by decide +kernel) rfl
    refine W.widen (k := 0) (n := 0) (Nat.le_of_ble_eq_true rfl) (Nat.le_of_ble_eq_true rfl) ?_
    exact W.vret hx hb hr (fun t ht hW => ⟨⟨F, rfl, (by have e64 := l_ii i; have q9 := faN w2 (by first | with_reducible assumption | assumption); rw [e64] at q9; rw [if_neg q9]), ⟨by rw [ht]; exact hP9, hD9⟩⟩, hS.F ht⟩) hS.2.2 dX6_fill_48
  · skip
    have b4 := fz0 w2 c3
    refine lv_aload_n hx hb dX6_fill_10 rfl (lv_at hl 0 rfl) ?_
    refine va_get (D := (dC, dI)) (ci := 6) (v := .ref ce) (C := RX6) (T := TX6) (N := 7) hx hb hg inG6 hown hK.1 hP 0 rfl rfl 2 (Nat.le_of_ble_eq_true rfl) (hg _ wt_278) (fun _ h9 => h9) rfl dX6_fill_11 ?_
    refine lv_iload_n hx hb dX6_fill_14 rfl (lv_at hl 1 rfl) ?_
    refine va_aldA hx hb hK.1 hP 3 4 rfl rfl (vp_in_nI (by first | omega | (have t_b4 := b4; have t_n0 : (nI k).toInt = (k : Int) := tn2141_ (); omega)) (by decide)) dX6_fill_15 ?_
    refine lv_cgv (y := .ref (rc k)) (rowref (by first | omega | (have t_b4 := b4; have t_n0 : (nI k).toInt = (k : Int) := tn2141_ (); omega)) (by decide)) ?_
    refine lv_iload_n hx hb dX6_fill_16 rfl (lv_at hl 2 rfl) ?_
    refine lv_aload_n hx hb dX6_fill_17 rfl (lv_at hl 0 rfl) ?_
    refine va_get (D := (dC, dI)) (ci := 6) (v := .ref la) (C := RX6) (T := TX6) (N := 7) hx hb hg inG6 hown hK.1 hP 0 rfl rfl 0 (Nat.le_of_ble_eq_true rfl) (hg _ wt_276) (fun _ h9 => h9) rfl dX6_fill_18 ?_
    refine lv_iload_n hx hb dX6_fill_21 rfl (lv_at hl 1 rfl) ?_
    refine va_iald hx hb hK.1 hP 1 0 rfl rfl (vp_in_nI (by first | omega | (have t_b4 := b4; have t_n0 : (nI k).toInt = (k : Int) := tn2141_ (); omega)) (by decide)) dX6_fill_22 ?_
    refine lv_cg (y := fl k) (by rw [nI_clamp (by omega)]) ?_
    refine lv_if_ne (tgt := 31) hx hb dX6_fill_23 rfl (fun c5 => ?_) (fun c5 => ?_)
    · skip
      refine lv_aload_n hx hb dX6_fill_31 rfl (lv_at hl 0 rfl) ?_
      refine va_get (D := (dC, dI)) (ci := 6) (v := .ref la) (C := RX6) (T := TX6) (N := 7) hx hb hg inG6 hown hK.1 hP 0 rfl rfl 0 (Nat.le_of_ble_eq_true rfl) (hg _ wt_276) (fun _ h9 => h9) rfl dX6_fill_32 ?_
      refine lv_iload_n hx hb dX6_fill_35 rfl (lv_at hl 1 rfl) ?_
      refine va_iald hx hb hK.1 hP 1 0 rfl rfl (vp_in_nI (by first | omega | (have t_b4 := b4; have t_c5 := neI c5; have : (0 : Int32).toInt = 0 := qI_0; have t_n0 : (nI k).toInt = (k : Int) := tn2141_ (); omega)) (by decide)) dX6_fill_36 ?_
      refine lv_cg (y := fl k) (by rw [nI_clamp (by omega)]) ?_
      refine lv_iconst (v := 1) hx hb dX6_fill_37 rfl ?_
      refine lv_icmp_ne (tgt := 46) hx hb dX6_fill_38 rfl (fun c6 => ?_) (fun c6 => ?_)
      · skip
        refine lv_iload_n hx hb dX6_fill_46 rfl (lv_at hl 3 rfl) ?_
        refine va_iastB (j := k) hx hb hK.1 hP hD hS 0 (by first | omega | (have t_b4 := b4; have t_c5 := neI c5; have t_c6 := neI c6; have tqz_ := qz2_; have t_n0 : (nI k).toInt = (k : Int) := tn2141_ (); omega)) rfl (vp_in_iff.mpr (by have t_b4 := b4; have t_c5 := neI c5; have t_c6 := neI c6; have tqz_ := qz2_; have t_n0 : (nI k).toInt = (k : Int) := tn2141_ (); constructor <;> omega)) dX6_fill_47 (fun H locs hP hD hS => ?_)
        obtain ⟨hP, hD⟩ := va_rls (ws' := (([(h0, .inr (6, [.ref la, .ref si, .ref ce, .int x8, .int x9, .ref fi, .ref se])), (la, .inl (G 0, 4, .inl fl)), (si, .inl (G 0, 4, .inl fz)), (ce, .inl (G 4, 4, .inr (.inr (.inr (.inr (fun ir => if ir < 4 then some (rc ir) else none))))))] : va_W) ++ ((((List.range 4).map (fun iq => (rc iq, .inl (G 0, 40, .inl ((va_up F k (upd (F k) i.toNatClampNeg x1)) iq))))) : va_W) ++ []))) hP hD rfl
        have hP9 := hP
        have hD9 := hD
        refine W.widen (k := 0) (n := 0) (Nat.le_of_ble_eq_true rfl) (Nat.le_of_ble_eq_true rfl) ?_
        exact W.vret hx hb hr (fun t ht hW => ⟨⟨(va_up F k (upd (F k) i.toNatClampNeg x1)), rfl, (by have e64 := l_ii i; have q9 := fa0 w2 (by first | with_reducible assumption | assumption); rw [e64] at q9; rw [if_pos q9]; unfold nrw; (try rw [if_pos (by first | with_reducible assumption | assumption)]); (try rw [if_neg (by first | with_reducible assumption | assumption)]); (try rw [if_pos (by first | with_reducible assumption | assumption)]); (try rw [if_neg (by first | with_reducible assumption | assumption)]); first | done | rfl), ⟨by rw [ht]; exact hP9, hD9⟩⟩, hS.F ht⟩) hS.2.2 dX6_fill_48
      · skip
        refine lv_iload_n hx hb dX6_fill_41 rfl (lv_at hl 3 rfl) ?_
        refine lv_i2s (v := _) hx hb dX6_fill_42 rfl ?_
        refine lv_topi (fun v7 ev7 => ?_)
        refine lv_goto (tgt := 47) hx hb dX6_fill_43 rfl ?_
        refine va_iastB (j := k) hx hb hK.1 hP hD hS 0 (by first | omega | (have t_b4 := b4; have t_c5 := neI c5; have t_c6 := eqI c6; have tqz_ := qz2_; have t_n0 : (nI k).toInt = (k : Int) := tn2141_ (); omega)) rfl (vp_in_iff.mpr (by have t_b4 := b4; have t_c5 := neI c5; have t_c6 := eqI c6; have tqz_ := qz2_; have t_n0 : (nI k).toInt = (k : Int) := tn2141_ (); constructor <;> omega)) dX6_fill_47 (fun H locs hP hD hS => ?_)
        obtain ⟨hP, hD⟩ := va_rls (ws' := (([(h0, .inr (6, [.ref la, .ref si, .ref ce, .int x8, .int x9, .ref fi, .ref se])), (la, .inl (G 0, 4, .inl fl)), (si, .inl (G 0, 4, .inl fz)), (ce, .inl (G 4, 4, .inr (.inr (.inr (.inr (fun ir => if ir < 4 then some (rc ir) else none))))))] : va_W) ++ ((((List.range 4).map (fun iq => (rc iq, .inl (G 0, 40, .inl ((va_up F k (upd (F k) i.toNatClampNeg v7)) iq))))) : va_W) ++ []))) hP hD rfl
        have hP9 := hP
        have hD9 := hD
        refine W.widen (k := 0) (n := 0) (Nat.le_of_ble_eq_true rfl) (Nat.le_of_ble_eq_true rfl) ?_
        exact W.vret hx hb hr (fun t ht hW => ⟨⟨(va_up F k (upd (F k) i.toNatClampNeg v7)), rfl, (by have e64 := l_ii i; have q9 := fa0 w2 (by first | with_reducible assumption | assumption); rw [e64] at q9; rw [if_pos q9]; unfold nrw; (try rw [if_pos (by first | with_reducible assumption | assumption)]); (try rw [if_neg (by first | with_reducible assumption | assumption)]); (try rw [if_pos (by first | with_reducible assumption | assumption)]); (try rw [if_neg (by first | with_reducible assumption | assumption)]); (try rw [ev7]); first | done | rfl), ⟨by rw [ht]; exact hP9, hD9⟩⟩, hS.F ht⟩) hS.2.2 dX6_fill_48
    · skip
      refine lv_iload_n hx hb dX6_fill_26 rfl (lv_at hl 3 rfl) ?_
      refine lv_i2b (v := _) hx hb dX6_fill_27 rfl ?_
      refine lv_topi (fun v8 ev8 => ?_)
      refine lv_goto (tgt := 47) hx hb dX6_fill_28 rfl ?_
      refine va_iastB (j := k) hx hb hK.1 hP hD hS 0 (by first | omega | (have t_b4 := b4; have t_c5 := eqI c5; have : (0 : Int32).toInt = 0 := qI_0; have t_n0 : (nI k).toInt = (k : Int) := tn2141_ (); omega)) rfl (vp_in_iff.mpr (by have t_b4 := b4; have t_c5 := eqI c5; have : (0 : Int32).toInt = 0 := qI_0; have t_n0 : (nI k).toInt = (k : Int) := tn2141_ (); constructor <;> omega)) dX6_fill_47 (fun H locs hP hD hS => ?_)
      obtain ⟨hP, hD⟩ := va_rls (ws' := (([(h0, .inr (6, [.ref la, .ref si, .ref ce, .int x8, .int x9, .ref fi, .ref se])), (la, .inl (G 0, 4, .inl fl)), (si, .inl (G 0, 4, .inl fz)), (ce, .inl (G 4, 4, .inr (.inr (.inr (.inr (fun ir => if ir < 4 then some (rc ir) else none))))))] : va_W) ++ ((((List.range 4).map (fun iq => (rc iq, .inl (G 0, 40, .inl ((va_up F k (upd (F k) i.toNatClampNeg v8)) iq))))) : va_W) ++ []))) hP hD rfl
      have hP9 := hP
      have hD9 := hD
      refine W.widen (k := 0) (n := 0) (Nat.le_of_ble_eq_true rfl) (Nat.le_of_ble_eq_true rfl) ?_
      exact W.vret hx hb hr (fun t ht hW => ⟨⟨(va_up F k (upd (F k) i.toNatClampNeg v8)), rfl, (by have e64 := l_ii i; have q9 := fa0 w2 (by first | with_reducible assumption | assumption); rw [e64] at q9; rw [if_pos q9]; unfold nrw; (try rw [if_pos (by first | with_reducible assumption | assumption)]); (try rw [if_neg (by first | with_reducible assumption | assumption)]); (try rw [if_pos (by first | with_reducible assumption | assumption)]); (try rw [if_neg (by first | with_reducible assumption | assumption)]); (try rw [ev8]); first | done | rfl), ⟨by rw [ht]; exact hP9, hD9⟩⟩, hS.F ht⟩) hS.2.2 dX6_fill_48

set_option maxHeartbeats 1000000 in
set_option maxRecDepth 100000 in
theorem c_X6_renewE (l : Launch) (dC : Nat → ClassId) (dI : Nat → Nat → Nat) (G : Nat → ClassId) (sz : Nat) (h0 la si ce fi se k nn : Nat) (x8 x9 x1 : Int32) (fl fz : Nat → Int32) (rc : Nat → Nat) (F : Nat → Nat → Int32) (hk : k < 4) (hnn : nn ≤ 40) : Met l yX6_renew (Cond.code yX6_renew cX6_renew 5 none :: GT) ({ frames := 1, cells := 0, slots := 0, locals := 20 } : Room) (PcW [.ref h0, .int (nI k), .int x1, .int (nI nn)] dC dI G (([(h0, .inr (6, [.ref la, .ref si, .ref ce, .int x8, .int x9, .ref fi, .ref se])), (la, .inl (G 0, 4, .inl fl)), (si, .inl (G 0, 4, .inl fz)), (ce, .inl (G 4, 4, .inr (.inr (.inr (.inr (fun ir => if ir < 4 then some (rc ir) else none))))))] : va_W) ++ ((((List.range 4).map (fun iq => (rc iq, .inl (G 0, 40, .inl (F iq))))) : va_W) ++ [])) sz) (va_Qv (fun (u : (Nat → Nat → Int32) × (Nat → Int32) × (Nat → Int32)) => match u with | (u0, u1, u2) => u1 = upd fl k x1 ∧ u2 = upd fz k (nI nn) ∧ u0 = va_up F k (zpF nn (F k))) (fun (u : (Nat → Nat → Int32) × (Nat → Int32) × (Nat → Int32)) (t : State) => match u with | (u0, u1, u2) => va_P (dC, dI) vwCl (([(h0, .inr (6, [.ref la, .ref si, .ref ce, .int x8, .int x9, .ref fi, .ref se])), (la, .inl (G 0, 4, .inl u1)), (si, .inl (G 0, 4, .inl u2)), (ce, .inl (G 4, 4, .inr (.inr (.inr (.inr (fun ir => if ir < 4 then some (rc ir) else none))))))] : va_W) ++ ((((List.range 4).map (fun iq => (rc iq, .inl (G 0, 40, .inl (u0 iq))))) : va_W) ++ [])) t.heap ∧ va_D (va_A (([(h0, .inr (6, [.ref la, .ref si, .ref ce, .int x8, .int x9, .ref fi, .ref se])), (la, .inl (G 0, 4, .inl fl)), (si, .inl (G 0, 4, .inl fz)), (ce, .inl (G 4, 4, .inr (.inr (.inr (.inr (fun ir => if ir < 4 then some (rc ir) else none))))))] : va_W) ++ ((((List.range 4).map (fun iq => (rc iq, .inl (G 0, 40, .inl (F iq))))) : va_W) ++ [])) sz) (([(h0, .inr (6, [.ref la, .ref si, .ref ce, .int x8, .int x9, .ref fi, .ref se])), (la, .inl (G 0, 4, .inl u1)), (si, .inl (G 0, 4, .inl u2)), (ce, .inl (G 4, 4, .inr (.inr (.inr (.inr (fun ir => if ir < 4 then some (rc ir) else none))))))] : va_W) ++ ((((List.range 4).map (fun iq => (rc iq, .inl (G 0, 40, .inl (u0 iq))))) : va_W) ++ []))) (va_A (([(h0, .inr (6, [.ref la, .ref si, .ref ce, .int x8, .int x9, .ref fi, .ref se])), (la, .inl (G 0, 4, .inl fl)), (si, .inl (G 0, 4, .inl fz)), (ce, .inl (G 4, 4, .inr (.inr (.inr (.inr (fun ir => if ir < 4 then some (rc ir) else none))))))] : va_W) ++ ((((List.range 4).map (fun iq => (rc iq, .inl (G 0, 40, .inl (F iq))))) : va_W) ++ [])) sz)) 0 0 (va_A (([(h0, .inr (6, [.ref la, .ref si, .ref ce, .int x8, .int x9, .ref fi, .ref se])), (la, .inl (G 0, 4, .inl fl)), (si, .inl (G 0, 4, .inl fz)), (ce, .inl (G 4, 4, .inr (.inr (.inr (.inr (fun ir => if ir < 4 then some (rc ir) else none))))))] : va_W) ++ ((((List.range 4).map (fun iq => (rc iq, .inl (G 0, 40, .inl (F iq))))) : va_W) ++ [])) sz) := by
  refine Met.ofW (cc := cX6_renew) (maxL := 5) (ret := none) (by decide) rfl ?_
  intro p e s m args below meth c s₁ Bd hml hv
  obtain ⟨rfl, hsz, hP, hK, hD0⟩ := hv
  have hx := Bd.exec
  have hb := Bd.bytes
  have hr := Bd.returns
  have hg : ∀ w ∈ GT, w.before ([.ref h0, .int (nI k), .int x1, .int (nI nn)] : List Value).toArray s = true := fun w h => atoms_spec (ws := Cond.code yX6_renew cX6_renew 5 none :: GT) Bd.pre w (List.mem_cons_of_mem _ h)
  have hown : s.vm.findClass RX6 = some m.cls := findClass_of_methodNamed Bd.named
  have hlocks := Bd.notSynchronized
  subst hsz
  have hD := hD0.self (sz := s.heap.size)
  generalize hAe : va_A (([(h0, .inr (6, [.ref la, .ref si, .ref ce, .int x8, .int x9, .ref fi, .ref se])), (la, .inl (G 0, 4, .inl fl)), (si, .inl (G 0, 4, .inl fz)), (ce, .inl (G 4, 4, .inr (.inr (.inr (.inr (fun ir => if ir < 4 then some (rc ir) else none))))))] : va_W) ++ ((((List.range 4).map (fun iq => (rc iq, .inl (G 0, 40, .inl (F iq))))) : va_W) ++ [])) s.heap.size = A at hD ⊢
  have hA : ∀ q : Nat, s.heap.size ≤ q → A q := fun q h => by rw [← hAe]; exact Or.inr h
  have hS : va_S A s.heap s.heap [] := va_S.rf
  have hl := lv_entry ([.ref h0, .int (nI k), .int x1, .int (nI nn)]) (n := 5) (Nat.le_of_ble_eq_true rfl)
  rw [lg_entry_eq]
  generalize (lg_sl ([.ref h0, .int (nI k), .int x1, .int (nI nn)]) ++ List.replicate (5 - (lg_sl ([.ref h0, .int (nI k), .int x1, .int (nI nn)])).length) Slot.unset).toArray = ls at hl ⊢
  have hl : lv_has ls 5 [(0, .ref h0), (1, .int (nI k)), (2, .int x1), (3, .int (nI nn))] := hl
  refine lv_iload_n hx hb dX6_renew_0 rfl (lv_at hl 1 rfl) ?_
  have hPc := hP.sub (ws' := []) [] rfl
  refine va_calli (va_runS (As := [.int (nI k)]) (rest := []) ⟨hx, hb, hml, hown, hg⟩ (c_X6_isSheet l dC dI G _ (nI k)) (kwS hg mfX6_isSheet wt_833 ⟨Nat.le_of_ble_eq_true rfl, Nat.le_of_ble_eq_true rfl⟩) (preSR hK hPc) rfl rfl hl.1 rfl (lv_room (Nat.le_of_ble_eq_true rfl)) dX6_renew_1 ⟨Nat.le_of_ble_eq_true rfl, Nat.le_of_ble_eq_true rfl⟩) hS (fun q h1 h2 => absurd h2 (Nat.not_le.mpr h1)) (fun q h => hA q (Nat.le_trans hS.1 h)) (fun r1 ur1 t H1 locs ht hvm w2 hB hz1 hk1 hS => ?_)
  have hP := keepR hP hk1
  obtain ⟨w2, w2x⟩ := w2
  try simp only [l_ii, show (0 : Int32).toInt = 0 from by decide, show (4 : Int32).toInt = 4 from by decide] at w2
  have tn2142_ : nIT k := fun _ => nI_toInt (by omega)
  try rw [show (nI (k)).toInt = ((k : Nat) : Int) from tn2142_ ()] at w2
  have tn2143_ : nIT nn := fun _ => nI_toInt (by omega)
  have w2 : r1 = 1 := w2.trans (if_pos (by have tnb_ := nib2 tn2142_ tn2143_; omega))
  subst w2
  refine lv_if_eq (tgt := 17) hx hb dX6_renew_4 rfl (fun c3 => ?_) (fun c3 => ?_)
  · skip
    exact absurd c3 (by decide)
  · skip
    refine lv_iload_n hx hb dX6_renew_7 rfl (lv_at hl 3 rfl) ?_
    refine lv_if_lt (tgt := 17) hx hb dX6_renew_8 rfl (fun c4 => ?_) (fun c4 => ?_)
    · skip
      have t_c3 := neI c3
      have t_c4 := ltI c4
      have : (0 : Int32).toInt = 0 := qI_0
      have : (1 : Int32).toInt = 1 := qI_1
      have t_n0 : (nI k).toInt = (k : Int) := tn2142_ ()
      have t_n1 : (nI nn).toInt = (nn : Int) := tn2143_ ()
      exfalso; omega
    · skip
      have n5 : 0 ≤ nn := by have t := nltI c4; rw [show (nI (nn)).toInt = ((nn : Nat) : Int) from tn2143_ ()] at t; have : (0 : Int32).toInt = 0 := qI_0; omega
      refine lv_iload_n hx hb dX6_renew_11 rfl (lv_at hl 3 rfl) ?_
      refine lv_bipush (v := 40) hx hb dX6_renew_12 rfl ?_
      refine lv_icmp_le (tgt := 18) hx hb dX6_renew_14 rfl (fun c6 => ?_) (fun c6 => ?_)
      · skip
        have n7 : nn ≤ 40 := by have t := leI c6; rw [show (nI (nn)).toInt = ((nn : Nat) : Int) from tn2143_ ()] at t; have : (40 : Int32).toInt = 40 := qI_40; omega
        refine lv_aload_n hx hb dX6_renew_18 rfl (lv_at hl 0 rfl) ?_
        refine va_get (D := (dC, dI)) (ci := 6) (v := .ref la) (C := RX6) (T := TX6) (N := 7) hx hb hg inG6 hown hK.1 hP 0 rfl rfl 0 (Nat.le_of_ble_eq_true rfl) (hg _ wt_276) (fun _ h9 => h9) rfl dX6_renew_19 ?_
        refine lv_iload_n hx hb dX6_renew_22 rfl (lv_at hl 1 rfl) ?_
        refine lv_iload_n hx hb dX6_renew_23 rfl (lv_at hl 2 rfl) ?_
        refine va_iast hx hb hK.1 hP hD hS 1 0 rfl rfl (vp_in_nI (by first | omega | (have t_c3 := neI c3; have t_n5 := n5; have t_n7 := n7; have tqz_ := qz2_; have tnb_ := nib2 tn2142_ tn2143_; omega)) (by decide)) dX6_renew_24 (fun H locs hP hD hS => ?_)
        rw [nI_clamp (by omega)] at hP hD
        obtain ⟨hP, hD⟩ := va_rls (ws' := (([(h0, .inr (6, [.ref la, .ref si, .ref ce, .int x8, .int x9, .ref fi, .ref se])), (la, .inl (G 0, 4, .inl (upd fl k x1))), (si, .inl (G 0, 4, .inl fz)), (ce, .inl (G 4, 4, .inr (.inr (.inr (.inr (fun ir => if ir < 4 then some (rc ir) else none))))))] : va_W) ++ ((((List.range 4).map (fun iq => (rc iq, .inl (G 0, 40, .inl (F iq))))) : va_W) ++ []))) hP hD rfl
        refine lv_aload_n hx hb dX6_renew_25 rfl (lv_at hl 0 rfl) ?_
        refine va_get (D := (dC, dI)) (ci := 6) (v := .ref si) (C := RX6) (T := TX6) (N := 7) hx hb hg inG6 hown hK.1 hP 0 rfl rfl 1 (Nat.le_of_ble_eq_true rfl) (hg _ wt_277) (fun _ h9 => h9) rfl dX6_renew_26 ?_
        refine lv_iload_n hx hb dX6_renew_29 rfl (lv_at hl 1 rfl) ?_
        refine lv_iload_n hx hb dX6_renew_30 rfl (lv_at hl 3 rfl) ?_
        refine va_iast hx hb hK.1 hP hD hS 2 0 rfl rfl (vp_in_nI (by first | omega | (have t_c3 := neI c3; have t_n5 := n5; have t_n7 := n7; have tqz_ := qz2_; have tnb_ := nib2 tn2142_ tn2143_; omega)) (by decide)) dX6_renew_31 (fun H locs hP hD hS => ?_)
        rw [nI_clamp (by omega)] at hP hD
        obtain ⟨hP, hD⟩ := va_rls (ws' := (([(h0, .inr (6, [.ref la, .ref si, .ref ce, .int x8, .int x9, .ref fi, .ref se])), (la, .inl (G 0, 4, .inl (upd fl k x1))), (si, .inl (G 0, 4, .inl (upd fz k (nI nn)))), (ce, .inl (G 4, 4, .inr (.inr (.inr (.inr (fun ir => if ir < 4 then some (rc ir) else none))))))] : va_W) ++ ((((List.range 4).map (fun iq => (rc iq, .inl (G 0, 40, .inl (F iq))))) : va_W) ++ []))) hP hD rfl
        refine lv_iconst (v := 0) hx hb dX6_renew_32 rfl ?_
        refine lv_istore (lv' := [(4, .int 0), (0, .ref h0), (1, .int (nI k)), (2, .int x1), (3, .int (nI nn))]) hx hb dX6_renew_33 hl (by decide) rfl (fun ls hl => ?_)
        have loop35_10 : ∀ (nf j8 : Nat), nn + 1 ≤ j8 + nf → j8 ≤ nn → ∀ (g9 : Nat → Nat → Int32) (H : Heap) (locs : List Loc), g9 = va_up F k (zpF j8 (F k)) → va_P (dC, dI) vwCl (([(h0, .inr (6, [.ref la, .ref si, .ref ce, .int x8, .int x9, .ref fi, .ref se])), (la, .inl (G 0, 4, .inl (upd fl k x1))), (si, .inl (G 0, 4, .inl (upd fz k (nI nn)))), (ce, .inl (G 4, 4, .inr (.inr (.inr (.inr (fun ir => if ir < 4 then some (rc ir) else none))))))] : va_W) ++ ((((List.range 4).map (fun iq => (rc iq, .inl (G 0, 40, .inl (g9 iq))))) : va_W) ++ [])) H → va_D A (([(h0, .inr (6, [.ref la, .ref si, .ref ce, .int x8, .int x9, .ref fi, .ref se])), (la, .inl (G 0, 4, .inl (upd fl k x1))), (si, .inl (G 0, 4, .inl (upd fz k (nI nn)))), (ce, .inl (G 4, 4, .inr (.inr (.inr (.inr (fun ir => if ir < 4 then some (rc ir) else none))))))] : va_W) ++ ((((List.range 4).map (fun iq => (rc iq, .inl (G 0, 40, .inl (g9 iq))))) : va_W) ++ [])) → va_S A s.heap H locs → ∀ (ls : Array Slot), lv_has ls 5 [(4, .int (nI j8)), (0, .ref h0), (1, .int (nI k)), (2, .int x1), (3, .int (nI nn))] → W p l e (headSpec (Cond.code yX6_renew cX6_renew 5 none :: GT) ({ frames := 1, cells := 0, slots := 0, locals := 20 } : Room)).room s m ([.ref h0, .int (nI k), .int x1, .int (nI nn)] : List Value).toArray below meth c H locs 0 0 (MQ below (va_Qv (fun (u : (Nat → Nat → Int32) × (Nat → Int32) × (Nat → Int32)) => match u with | (u0, u1, u2) => u1 = upd fl k x1 ∧ u2 = upd fz k (nI nn) ∧ u0 = va_up F k (zpF nn (F k))) (fun (u : (Nat → Nat → Int32) × (Nat → Int32) × (Nat → Int32)) (t : State) => match u with | (u0, u1, u2) => va_P (dC, dI) vwCl (([(h0, .inr (6, [.ref la, .ref si, .ref ce, .int x8, .int x9, .ref fi, .ref se])), (la, .inl (G 0, 4, .inl u1)), (si, .inl (G 0, 4, .inl u2)), (ce, .inl (G 4, 4, .inr (.inr (.inr (.inr (fun ir => if ir < 4 then some (rc ir) else none))))))] : va_W) ++ ((((List.range 4).map (fun iq => (rc iq, .inl (G 0, 40, .inl (u0 iq))))) : va_W) ++ [])) t.heap ∧ va_D A (([(h0, .inr (6, [.ref la, .ref si, .ref ce, .int x8, .int x9, .ref fi, .ref se])), (la, .inl (G 0, 4, .inl u1)), (si, .inl (G 0, 4, .inl u2)), (ce, .inl (G 4, 4, .inr (.inr (.inr (.inr (fun ir => if ir < 4 then some (rc ir) else none))))))] : va_W) ++ ((((List.range 4).map (fun iq => (rc iq, .inl (G 0, 40, .inl (u0 iq))))) : va_W) ++ []))) A) ([.ref h0, .int (nI k), .int x1, .int (nI nn)] : List Value).toArray s 0 0 A) (F0 m 35 ls []) := by
          intro nf
          induction nf with
          | zero => intro j8 h1 h2; exact absurd h1 (by omega)
          | succ nf ih35_10 =>
            intro j8 hn11 hj12 g9 H locs hinv hP hD hS ls hl
            refine lv_iload hx hb dX6_renew_35 (lv_at hl 0 rfl) ?_
            refine lv_iload_n hx hb dX6_renew_37 rfl (lv_at hl 4 rfl) ?_
            refine lv_icmp_ge (tgt := 57) hx hb dX6_renew_38 rfl (fun c13 => ?_) (fun c13 => ?_)
            · skip
              have tn2144_ : nIT j8 := fun _ => nI_toInt (by first | omega | (have t := leI c13; omega))
              have n14 : nn ≤ j8 := by have t := leI c13; rw [show (nI (j8)).toInt = ((j8 : Nat) : Int) from tn2144_ ()] at t; rw [show (nI (nn)).toInt = ((nn : Nat) : Int) from tn2143_ ()] at t; omega
              obtain ⟨hP9, hD9⟩ := va_sub2 (ws' := (([(h0, .inr (6, [.ref la, .ref si, .ref ce, .int x8, .int x9, .ref fi, .ref se])), (la, .inl (G 0, 4, .inl (upd fl k x1))), (si, .inl (G 0, 4, .inl (upd fz k (nI nn)))), (ce, .inl (G 4, 4, .inr (.inr (.inr (.inr (fun ir => if ir < 4 then some (rc ir) else none))))))] : va_W) ++ ((((List.range 4).map (fun iq => (rc iq, .inl (G 0, 40, .inl (g9 iq))))) : va_W) ++ []))) hP hD [0, 1, 2, 3, 4, 5, 6, 7] (by decide +kernel) rfl
              refine W.widen (k := 0) (n := 0) (Nat.le_of_ble_eq_true rfl) (Nat.le_of_ble_eq_true rfl) ?_
              exact W.vret hx hb hr (fun t ht hW => ⟨⟨(g9, (upd fl k x1), (upd fz k (nI nn))), rfl, ⟨rfl, rfl, (by have t_c3 := neI c3; have t_n5 := n5; have t_n7 := n7; have t_hj12 := hj12; have t_n14 := n14; have tqz_ := qz2_; have tnb_ := nib3 tn2142_ tn2143_ tn2144_; rw [hinv, show j8 = nn by omega])⟩, ⟨by rw [ht]; exact hP9, hD9⟩⟩, hS.F ht⟩) hS.2.2 dX6_renew_57
            · skip
              have tn2145_ : nIT j8 := fun _ => nI_toInt (by first | omega | (have t := nleI c13; omega))
              have n15 : j8 < nn := by have t := nleI c13; rw [show (nI (j8)).toInt = ((j8 : Nat) : Int) from tn2145_ ()] at t; rw [show (nI (nn)).toInt = ((nn : Nat) : Int) from tn2143_ ()] at t; omega
              refine lv_aload_n hx hb dX6_renew_41 rfl (lv_at hl 1 rfl) ?_
              refine va_get (D := (dC, dI)) (ci := 6) (v := .ref ce) (C := RX6) (T := TX6) (N := 7) hx hb hg inG6 hown hK.1 hP 0 rfl rfl 2 (Nat.le_of_ble_eq_true rfl) (hg _ wt_278) (fun _ h9 => h9) rfl dX6_renew_42 ?_
              refine lv_iload_n hx hb dX6_renew_45 rfl (lv_at hl 2 rfl) ?_
              refine va_aldA hx hb hK.1 hP 3 4 rfl rfl (vp_in_nI (by first | omega | (have t_c3 := neI c3; have t_n5 := n5; have t_n7 := n7; have t_hj12 := hj12; have t_n15 := n15; have tqz_ := qz2_; have tnb_ := nib3 tn2142_ tn2143_ tn2145_; omega)) (by decide)) dX6_renew_46 ?_
              refine lv_cgv (y := .ref (rc k)) (rowref (by first | omega | (have t_c3 := neI c3; have t_n5 := n5; have t_n7 := n7; have t_hj12 := hj12; have t_n15 := n15; have tqz_ := qz2_; have tnb_ := nib3 tn2142_ tn2143_ tn2145_; omega)) (by decide)) ?_
              refine lv_iload hx hb dX6_renew_47 (lv_at hl 0 rfl) ?_
              refine lv_iconst (v := 0) hx hb dX6_renew_49 rfl ?_
              refine va_iastB (j := k) hx hb hK.1 hP hD hS 0 (by first | omega | (have t_c3 := neI c3; have t_n5 := n5; have t_n7 := n7; have t_hj12 := hj12; have t_n15 := n15; have tqz_ := qz2_; have tnb_ := nib3 tn2142_ tn2143_ tn2145_; omega)) rfl (vp_in_nI (by first | omega | (have t_c3 := neI c3; have t_n5 := n5; have t_n7 := n7; have t_hj12 := hj12; have t_n15 := n15; have tqz_ := qz2_; have tnb_ := nib3 tn2142_ tn2143_ tn2145_; omega)) (by decide)) dX6_renew_50 (fun H locs hP hD hS => ?_)
              rw [nI_clamp (by first | omega | (have t_c3 := neI c3; have t_n5 := n5; have t_n7 := n7; have t_hj12 := hj12; have t_n15 := n15; have tqz_ := qz2_; have tnb_ := nib3 tn2142_ tn2143_ tn2145_; omega))] at hP hD
              obtain ⟨hP, hD⟩ := va_rls (ws' := (([(h0, .inr (6, [.ref la, .ref si, .ref ce, .int x8, .int x9, .ref fi, .ref se])), (la, .inl (G 0, 4, .inl (upd fl k x1))), (si, .inl (G 0, 4, .inl (upd fz k (nI nn)))), (ce, .inl (G 4, 4, .inr (.inr (.inr (.inr (fun ir => if ir < 4 then some (rc ir) else none))))))] : va_W) ++ ((((List.range 4).map (fun iq => (rc iq, .inl (G 0, 40, .inl ((va_up g9 k (upd (g9 k) j8 0)) iq))))) : va_W) ++ []))) hP hD rfl
              refine lv_iinc (v := nI (j8 + 1)) (lv' := [(4, .int (nI (j8 + 1))), (0, .ref h0), (1, .int (nI k)), (2, .int x1), (3, .int (nI nn))]) hx hb dX6_renew_51 hl (k := 0) rfl (by rw [show Int32.ofInt 1 = nI 1 from by decide]; exact nI_add _ _) (by decide) rfl (fun ls hl => ?_)
              refine lv_goto (tgt := 35) hx hb dX6_renew_54 rfl ?_
              exact ih35_10 (j8 + 1) (by omega) (by omega) (va_up g9 k (upd (g9 k) j8 0)) _ _ (by rw [hinv]; exact up_z) hP hD hS ls (lv_sub hl [0, 1, 2, 3, 4] rfl)
        exact loop35_10 (nn + 1) 0 (by omega) (by omega) F _ _ up_0 hP hD hS ls (lv_sub hl [0, 1, 2, 3, 4] rfl)
      · skip
        have t_c3 := neI c3
        have t_n5 := n5
        have t_c6 := nleI c6
        have : (0 : Int32).toInt = 0 := qI_0
        have : (1 : Int32).toInt = 1 := qI_1
        have : (40 : Int32).toInt = 40 := qI_40
        have t_n0 : (nI k).toInt = (k : Int) := tn2142_ ()
        have t_n1 : (nI nn).toInt = (nn : Int) := tn2143_ ()
        exfalso; omega

set_option maxHeartbeats 1000000 in
set_option maxRecDepth 100000 in
theorem c_X11_sheetO (l : Launch) (dC : Nat → ClassId) (dI : Nat → Nat → Nat) (G : Nat → ClassId) (sz : Nat) (h0 st N B rp tp T cu lt od th be ln S ma M ah bh ik la lg ce : Nat) (k lane n vrs vrb vhs vca vxs vxb vfa vbr vba vsp vhe vtk vva vto : Int32) (fla : Nat → Int32) (flg : Nat → Int32) (fce : Nat → Int32) (hN : N ≤ 10) (hB : B ≤ 6) (hT : T ≤ 320) (hS0 : S ≤ 8) (hM : M ≤ 6) (hz : ∀ q : Nat, q < 4 → 0 ≤ (flg q).toInt ∧ (flg q).toInt ≤ 40) : Met l yX11_sheet (Cond.code yX11_sheet cX11_sheet 5 (some .int) :: GT) ({ frames := 1, cells := 0, slots := 0, locals := 25 } : Room) (PcW [.ref h0, .int k, .int lane, .int n] dC dI G [(h0, .inr (11, [.ref st, .int (nI N), .int (nI B), .ref rp, .int vrs, .int vrb, .int vhs, .int vca, .int vxs, .int vxb, .ref tp, .int (nI T), .int vfa, .int vbr, .int vba, .int vsp, .int vhe, .int vtk, .int vva, .ref cu, .ref lt, .ref od, .ref th, .ref be, .ref ln, .int (nI S), .ref ma, .int (nI M), .ref ah, .ref bh, .ref ik, .ref la, .ref lg, .ref ce, .int vto])), (la, .inl (G 0, 4, .inl fla)), (lg, .inl (G 0, 4, .inl flg)), (ce, .inl (G 0, 160, .inl fce))] sz) (va_Qi (fun (r : Int32) (u : (Nat → Int32) × (Nat → Int32) × (Nat → Int32)) => match u with | (ola, olg, oce) => (r = if (0 ≤ k.toInt ∧ k.toInt < 4) ∧ (0 ≤ lane.toInt ∧ lane.toInt ≤ 2) ∧ n.toInt ≤ 40 then (if n.toInt < 0 then -14 else 1) else -1) ∧ ((ola = (if ((0 ≤ k.toInt ∧ k.toInt < 4) ∧ (0 ≤ lane.toInt ∧ lane.toInt ≤ 2) ∧ n.toInt ≤ 40 ∧ 0 ≤ n.toInt) then upd fla k.toNatClampNeg lane else fla) ∧ olg = (if ((0 ≤ k.toInt ∧ k.toInt < 4) ∧ (0 ≤ lane.toInt ∧ lane.toInt ≤ 2) ∧ n.toInt ≤ 40 ∧ 0 ≤ n.toInt) then upd flg k.toNatClampNeg n else flg)) ∧ ∀ q : Nat, q < 4 → 0 ≤ (olg q).toInt ∧ (olg q).toInt ≤ 40) ∧ oce = (if ((0 ≤ k.toInt ∧ k.toInt < 4) ∧ (0 ≤ lane.toInt ∧ lane.toInt ≤ 2) ∧ n.toInt ≤ 40 ∧ 0 ≤ n.toInt) then zpg k.toNatClampNeg 40 fce else fce)) (fun (u : (Nat → Int32) × (Nat → Int32) × (Nat → Int32)) (t : State) => match u with | (ola, olg, oce) => va_P (dC, dI) vwCl [(h0, .inr (11, [.ref st, .int (nI N), .int (nI B), .ref rp, .int vrs, .int vrb, .int vhs, .int vca, .int vxs, .int vxb, .ref tp, .int (nI T), .int vfa, .int vbr, .int vba, .int vsp, .int vhe, .int vtk, .int vva, .ref cu, .ref lt, .ref od, .ref th, .ref be, .ref ln, .int (nI S), .ref ma, .int (nI M), .ref ah, .ref bh, .ref ik, .ref la, .ref lg, .ref ce, .int vto])), (la, .inl (G 0, 4, .inl ola)), (lg, .inl (G 0, 4, .inl olg)), (ce, .inl (G 0, 160, .inl oce))] t.heap ∧ va_D (va_A [(h0, .inr (11, [.ref st, .int (nI N), .int (nI B), .ref rp, .int vrs, .int vrb, .int vhs, .int vca, .int vxs, .int vxb, .ref tp, .int (nI T), .int vfa, .int vbr, .int vba, .int vsp, .int vhe, .int vtk, .int vva, .ref cu, .ref lt, .ref od, .ref th, .ref be, .ref ln, .int (nI S), .ref ma, .int (nI M), .ref ah, .ref bh, .ref ik, .ref la, .ref lg, .ref ce, .int vto])), (la, .inl (G 0, 4, .inl fla)), (lg, .inl (G 0, 4, .inl flg)), (ce, .inl (G 0, 160, .inl fce))] sz) [(h0, .inr (11, [.ref st, .int (nI N), .int (nI B), .ref rp, .int vrs, .int vrb, .int vhs, .int vca, .int vxs, .int vxb, .ref tp, .int (nI T), .int vfa, .int vbr, .int vba, .int vsp, .int vhe, .int vtk, .int vva, .ref cu, .ref lt, .ref od, .ref th, .ref be, .ref ln, .int (nI S), .ref ma, .int (nI M), .ref ah, .ref bh, .ref ik, .ref la, .ref lg, .ref ce, .int vto])), (la, .inl (G 0, 4, .inl ola)), (lg, .inl (G 0, 4, .inl olg)), (ce, .inl (G 0, 160, .inl oce))]) (va_A [(h0, .inr (11, [.ref st, .int (nI N), .int (nI B), .ref rp, .int vrs, .int vrb, .int vhs, .int vca, .int vxs, .int vxb, .ref tp, .int (nI T), .int vfa, .int vbr, .int vba, .int vsp, .int vhe, .int vtk, .int vva, .ref cu, .ref lt, .ref od, .ref th, .ref be, .ref ln, .int (nI S), .ref ma, .int (nI M), .ref ah, .ref bh, .ref ik, .ref la, .ref lg, .ref ce, .int vto])), (la, .inl (G 0, 4, .inl fla)), (lg, .inl (G 0, 4, .inl flg)), (ce, .inl (G 0, 160, .inl fce))] sz)) 0 0 (va_A [(h0, .inr (11, [.ref st, .int (nI N), .int (nI B), .ref rp, .int vrs, .int vrb, .int vhs, .int vca, .int vxs, .int vxb, .ref tp, .int (nI T), .int vfa, .int vbr, .int vba, .int vsp, .int vhe, .int vtk, .int vva, .ref cu, .ref lt, .ref od, .ref th, .ref be, .ref ln, .int (nI S), .ref ma, .int (nI M), .ref ah, .ref bh, .ref ik, .ref la, .ref lg, .ref ce, .int vto])), (la, .inl (G 0, 4, .inl fla)), (lg, .inl (G 0, 4, .inl flg)), (ce, .inl (G 0, 160, .inl fce))] sz) := by
  have tn2146_ : nIT N := fun _ => nI_toInt (by omega)
  have tn2147_ : nIT B := fun _ => nI_toInt (by omega)
  have tn2148_ : nIT T := fun _ => nI_toInt (by omega)
  have tn2149_ : nIT S := fun _ => nI_toInt (by omega)
  have tn2150_ : nIT M := fun _ => nI_toInt (by omega)
  refine Met.ofW (cc := cX11_sheet) (maxL := 5) (ret := (some .int)) (by decide) rfl ?_
  intro p e s m args below meth c s₁ Bd hml hv
  obtain ⟨rfl, hsz, hP, hK, hD0⟩ := hv
  have hx := Bd.exec
  have hb := Bd.bytes
  have hr := Bd.returns
  have hg : ∀ w ∈ GT, w.before ([.ref h0, .int k, .int lane, .int n] : List Value).toArray s = true := fun w h => atoms_spec (ws := Cond.code yX11_sheet cX11_sheet 5 (some .int) :: GT) Bd.pre w (List.mem_cons_of_mem _ h)
  have hown : s.vm.findClass RX11 = some m.cls := findClass_of_methodNamed Bd.named
  have hlocks := Bd.notSynchronized
  subst hsz
  have hD := hD0.self (sz := s.heap.size)
  generalize hAe : va_A [(h0, .inr (11, [.ref st, .int (nI N), .int (nI B), .ref rp, .int vrs, .int vrb, .int vhs, .int vca, .int vxs, .int vxb, .ref tp, .int (nI T), .int vfa, .int vbr, .int vba, .int vsp, .int vhe, .int vtk, .int vva, .ref cu, .ref lt, .ref od, .ref th, .ref be, .ref ln, .int (nI S), .ref ma, .int (nI M), .ref ah, .ref bh, .ref ik, .ref la, .ref lg, .ref ce, .int vto])), (la, .inl (G 0, 4, .inl fla)), (lg, .inl (G 0, 4, .inl flg)), (ce, .inl (G 0, 160, .inl fce))] s.heap.size = A at hD ⊢
  have hA : ∀ q : Nat, s.heap.size ≤ q → A q := fun q h => by rw [← hAe]; exact Or.inr h
  have hS : va_S A s.heap s.heap [] := va_S.rf
  have hl := lv_entry ([.ref h0, .int k, .int lane, .int n]) (n := 5) (Nat.le_of_ble_eq_true rfl)
  rw [lg_entry_eq]
  generalize (lg_sl ([.ref h0, .int k, .int lane, .int n]) ++ List.replicate (5 - (lg_sl ([.ref h0, .int k, .int lane, .int n])).length) Slot.unset).toArray = ls at hl ⊢
  have hl : lv_has ls 5 [(0, .ref h0), (1, .int k), (2, .int lane), (3, .int n)] := hl
  refine lv_iload_n hx hb dX11_sheet_0 rfl (lv_at hl 1 rfl) ?_
  refine lv_i2l (v := k.toInt64) hx hb dX11_sheet_1 rfl ?_
  refine lv_lconst (v := 0) hx hb dX11_sheet_2 (by decide) ?_
  refine lv_ldc2 (v := 3) hx hb hown (hg _ wt_1023) dX11_sheet_3 ?_
  have hPc := hP.sub (ws' := []) [] rfl
  refine va_calli (va_runS (As := [.long k.toInt64, .long 0, .long 3]) (rest := []) ⟨hx, hb, hml, hown, hg⟩ (c_X11_in l dC dI G _ k.toInt64 0 3) (kwS hg mfX11_in wt_992 ⟨Nat.le_of_ble_eq_true rfl, Nat.le_of_ble_eq_true rfl⟩) (preSR hK hPc) rfl rfl hl.1 rfl (lv_room (Nat.le_of_ble_eq_true rfl)) dX11_sheet_6 ⟨Nat.le_of_ble_eq_true rfl, Nat.le_of_ble_eq_true rfl⟩) hS (fun q h1 h2 => absurd h2 (Nat.not_le.mpr h1)) (fun q h => hA q (Nat.le_trans hS.1 h)) (fun r1 ur1 t H1 locs ht hvm w2 hB hz1 hk1 hS => ?_)
  have hP := keepR hP hk1
  obtain ⟨w2, w2x⟩ := w2
  try simp only [l_ii, show (0 : Int64).toInt = 0 from by decide, show (3 : Int64).toInt = 3 from by decide] at w2
  subst w2
  refine lv_if_eq (tgt := 30) hx hb dX11_sheet_9 rfl (fun c3 => ?_) (fun c3 => ?_)
  · skip
    have b4 := if10_n c3
    refine lv_iconst (v := (-1)) hx hb dX11_sheet_30 rfl ?_
    have hpost : ((-1) : Int32) = if (0 ≤ k.toInt ∧ k.toInt < 4) ∧ (0 ≤ lane.toInt ∧ lane.toInt ≤ 2) ∧ n.toInt ≤ 40 then (if n.toInt < 0 then -14 else 1) else -1 := by
      have t_b4 := b4
      have t_n0 : (nI N).toInt = (N : Int) := tn2146_ ()
      have t_n1 : (nI B).toInt = (B : Int) := tn2147_ ()
      have t_n2 : (nI T).toInt = (T : Int) := tn2148_ ()
      have t_n3 : (nI S).toInt = (S : Int) := tn2149_ ()
      have t_n4 : (nI M).toInt = (M : Int) := tn2150_ ()
      first | rfl | ((repeat' split) <;> first | rfl | omega)
    obtain ⟨hP9, hD9⟩ := va_sub2 (ws' := [(h0, .inr (11, [.ref st, .int (nI N), .int (nI B), .ref rp, .int vrs, .int vrb, .int vhs, .int vca, .int vxs, .int vxb, .ref tp, .int (nI T), .int vfa, .int vbr, .int vba, .int vsp, .int vhe, .int vtk, .int vva, .ref cu, .ref lt, .ref od, .ref th, .ref be, .ref ln, .int (nI S), .ref ma, .int (nI M), .ref ah, .ref bh, .ref ik, .ref la, .ref lg, .ref ce, .int vto])), (la, .inl (G 0, 4, .inl fla)), (lg, .inl (G 0, 4, .inl flg)), (ce, .inl (G 0, 160, .inl fce))]) hP hD [0, 1, 2, 3] (by decide +kernel) rfl
    refine W.widen (k := 0) (n := 0) (Nat.le_of_ble_eq_true rfl) (Nat.le_of_ble_eq_true rfl) ?_
    exact W.iret (v := (-1)) hx hb hr (fun t ht hW => ⟨⟨(-1), (fla, flg, fce), rfl, ⟨hpost, ⟨(by have t_b4 := b4; have tnb_ := nib5 tn2146_ tn2147_ tn2148_ tn2149_ tn2150_; refine ⟨⟨?_, ?_⟩, hz⟩ <;> rw [if_neg (by omega)]), (by have t_b4 := b4; have tnb_ := nib5 tn2146_ tn2147_ tn2148_ tn2149_ tn2150_; rw [if_neg (by omega)])⟩⟩, ⟨by rw [ht]; exact hP9, hD9⟩⟩, hS.F ht⟩) hS.2.2 dX11_sheet_31
  · skip
    have b5 := if10_p c3
    refine lv_iload_n hx hb dX11_sheet_12 rfl (lv_at hl 2 rfl) ?_
    refine lv_i2l (v := lane.toInt64) hx hb dX11_sheet_13 rfl ?_
    refine lv_lconst (v := 0) hx hb dX11_sheet_14 (by decide) ?_
    refine lv_ldc2 (v := 2) hx hb hown (hg _ wt_1056) dX11_sheet_15 ?_
    have hPc := hP.sub (ws' := []) [] rfl
    refine va_calli (va_runS (As := [.long lane.toInt64, .long 0, .long 2]) (rest := []) ⟨hx, hb, hml, hown, hg⟩ (c_X11_in l dC dI G _ lane.toInt64 0 2) (kwS hg mfX11_in wt_992 ⟨Nat.le_of_ble_eq_true rfl, Nat.le_of_ble_eq_true rfl⟩) (preSR hK hPc) rfl rfl hl.1 rfl (lv_room (Nat.le_of_ble_eq_true rfl)) dX11_sheet_18 ⟨Nat.le_of_ble_eq_true rfl, Nat.le_of_ble_eq_true rfl⟩) hS (fun q h1 h2 => absurd h2 (Nat.not_le.mpr h1)) (fun q h => hA q (Nat.le_trans hS.1 h)) (fun r6 ur6 t H1 locs ht hvm w7 hB hz1 hk1 hS => ?_)
    have hP := keepR hP hk1
    obtain ⟨w7, w7x⟩ := w7
    try simp only [l_ii, show (0 : Int64).toInt = 0 from by decide, show (2 : Int64).toInt = 2 from by decide] at w7
    subst w7
    refine lv_if_eq (tgt := 30) hx hb dX11_sheet_21 rfl (fun c8 => ?_) (fun c8 => ?_)
    · skip
      have b9 := if10_n c8
      refine lv_iconst (v := (-1)) hx hb dX11_sheet_30 rfl ?_
      have hpost : ((-1) : Int32) = if (0 ≤ k.toInt ∧ k.toInt < 4) ∧ (0 ≤ lane.toInt ∧ lane.toInt ≤ 2) ∧ n.toInt ≤ 40 then (if n.toInt < 0 then -14 else 1) else -1 := by
        have t_b5 := b5
        have t_b9 := b9
        have t_n0 : (nI N).toInt = (N : Int) := tn2146_ ()
        have t_n1 : (nI B).toInt = (B : Int) := tn2147_ ()
        have t_n2 : (nI T).toInt = (T : Int) := tn2148_ ()
        have t_n3 : (nI S).toInt = (S : Int) := tn2149_ ()
        have t_n4 : (nI M).toInt = (M : Int) := tn2150_ ()
        first | rfl | ((repeat' split) <;> first | rfl | omega)
      obtain ⟨hP9, hD9⟩ := va_sub2 (ws' := [(h0, .inr (11, [.ref st, .int (nI N), .int (nI B), .ref rp, .int vrs, .int vrb, .int vhs, .int vca, .int vxs, .int vxb, .ref tp, .int (nI T), .int vfa, .int vbr, .int vba, .int vsp, .int vhe, .int vtk, .int vva, .ref cu, .ref lt, .ref od, .ref th, .ref be, .ref ln, .int (nI S), .ref ma, .int (nI M), .ref ah, .ref bh, .ref ik, .ref la, .ref lg, .ref ce, .int vto])), (la, .inl (G 0, 4, .inl fla)), (lg, .inl (G 0, 4, .inl flg)), (ce, .inl (G 0, 160, .inl fce))]) hP hD [0, 1, 2, 3] (by decide +kernel) rfl
      refine W.widen (k := 0) (n := 0) (Nat.le_of_ble_eq_true rfl) (Nat.le_of_ble_eq_true rfl) ?_
      exact W.iret (v := (-1)) hx hb hr (fun t ht hW => ⟨⟨(-1), (fla, flg, fce), rfl, ⟨hpost, ⟨(by have t_b5 := b5; have t_b9 := b9; have tnb_ := nib5 tn2146_ tn2147_ tn2148_ tn2149_ tn2150_; refine ⟨⟨?_, ?_⟩, hz⟩ <;> rw [if_neg (by omega)]), (by have t_b5 := b5; have t_b9 := b9; have tnb_ := nib5 tn2146_ tn2147_ tn2148_ tn2149_ tn2150_; rw [if_neg (by omega)])⟩⟩, ⟨by rw [ht]; exact hP9, hD9⟩⟩, hS.F ht⟩) hS.2.2 dX11_sheet_31
    · skip
      have b10 := if10_p c8
      refine lv_iload_n hx hb dX11_sheet_24 rfl (lv_at hl 3 rfl) ?_
      refine lv_bipush (v := 40) hx hb dX11_sheet_25 rfl ?_
      refine lv_icmp_le (tgt := 32) hx hb dX11_sheet_27 rfl (fun c11 => ?_) (fun c11 => ?_)
      · skip
        refine lv_iload_n hx hb dX11_sheet_32 rfl (lv_at hl 3 rfl) ?_
        refine lv_if_ge (tgt := 39) hx hb dX11_sheet_33 rfl (fun c12 => ?_) (fun c12 => ?_)
        · skip
          obtain ⟨kk, hkk, rfl⟩ : ∃ j : Nat, j < 4 ∧ k = nI j := by
            have t_b5 := b5
            have t_b10 := b10
            have t_c11 := leI c11
            have t_c12 := leI c12
            have : (0 : Int32).toInt = 0 := qI_0
            have : (40 : Int32).toInt = 40 := qI_40
            have t_n0 : (nI N).toInt = (N : Int) := tn2146_ ()
            have t_n1 : (nI B).toInt = (B : Int) := tn2147_ ()
            have t_n2 : (nI T).toInt = (T : Int) := tn2148_ ()
            have t_n3 : (nI S).toInt = (S : Int) := tn2149_ ()
            have t_n4 : (nI M).toInt = (M : Int) := tn2150_ ()
            exact i32_nat (by omega) (by omega)
          obtain ⟨nn, hnn, rfl⟩ : ∃ j : Nat, j < 41 ∧ n = nI j := by
            have t_b5 := b5
            have t_b10 := b10
            have t_c11 := leI c11
            have t_c12 := leI c12
            have t_hkk := hkk
            have : (0 : Int32).toInt = 0 := qI_0
            have : (40 : Int32).toInt = 40 := qI_40
            have t_n0 : (nI N).toInt = (N : Int) := tn2146_ ()
            have t_n1 : (nI B).toInt = (B : Int) := tn2147_ ()
            have t_n2 : (nI T).toInt = (T : Int) := tn2148_ ()
            have t_n3 : (nI S).toInt = (S : Int) := tn2149_ ()
            have t_n4 : (nI M).toInt = (M : Int) := tn2150_ ()
            have tn2151_ : nIT kk := fun _ => nI_toInt (by omega)
            have t_n5 : (nI kk).toInt = (kk : Int) := tn2151_ ()
            exact i32_nat (by omega) (by omega)
          refine lv_aload_n hx hb dX11_sheet_39 rfl (lv_at hl 0 rfl) ?_
          refine va_get (D := (dC, dI)) (ci := 11) (v := .ref la) (C := RX11) (T := TX11) (N := 35) hx hb hg inG11 hown hK.1 hP 0 rfl rfl 31 (Nat.le_of_ble_eq_true rfl) (hg _ wt_909) (fun _ h9 => h9) rfl dX11_sheet_40 ?_
          refine lv_iload_n hx hb dX11_sheet_43 rfl (lv_at hl 1 rfl) ?_
          refine lv_iload_n hx hb dX11_sheet_44 rfl (lv_at hl 2 rfl) ?_
          have tn2152_ : nIT kk := fun _ => nI_toInt (by first | omega | (have t_b5 := b5; have t_b10 := b10; have t_c11 := leI c11; have t_c12 := leI c12; have t_hkk := hkk; have t_hnn := hnn; have tqz_ := qz11_; omega))
          have tn2153_ : nIT nn := fun _ => nI_toInt (by first | omega | (have t_b5 := b5; have t_b10 := b10; have t_c11 := leI c11; have t_c12 := leI c12; have t_hkk := hkk; have t_hnn := hnn; have tqz_ := qz11_; omega))
          refine va_iast hx hb hK.1 hP hD hS 1 0 rfl rfl (vp_in_nI (by first | omega | (have t_b5 := b5; have t_b10 := b10; have t_c11 := leI c11; have t_c12 := leI c12; have t_hkk := hkk; have t_hnn := hnn; have tqz_ := qz11_; have tnb_ := nib7 tn2146_ tn2147_ tn2148_ tn2149_ tn2150_ tn2152_ tn2153_; omega)) (by decide)) dX11_sheet_45 (fun H locs hP hD hS => ?_)
          rw [nI_clamp (by omega)] at hP hD
          refine lv_aload_n hx hb dX11_sheet_46 rfl (lv_at hl 0 rfl) ?_
          refine va_get (D := (dC, dI)) (ci := 11) (v := .ref lg) (C := RX11) (T := TX11) (N := 35) hx hb hg inG11 hown hK.1 hP 0 rfl rfl 32 (Nat.le_of_ble_eq_true rfl) (hg _ wt_910) (fun _ h9 => h9) rfl dX11_sheet_47 ?_
          refine lv_iload_n hx hb dX11_sheet_50 rfl (lv_at hl 1 rfl) ?_
          refine lv_iload_n hx hb dX11_sheet_51 rfl (lv_at hl 3 rfl) ?_
          refine va_iast hx hb hK.1 hP hD hS 2 0 rfl rfl (vp_in_nI (by first | omega | (have t_b5 := b5; have t_b10 := b10; have t_c11 := leI c11; have t_c12 := leI c12; have t_hkk := hkk; have t_hnn := hnn; have tqz_ := qz11_; have tnb_ := nib7 tn2146_ tn2147_ tn2148_ tn2149_ tn2150_ tn2152_ tn2153_; omega)) (by decide)) dX11_sheet_52 (fun H locs hP hD hS => ?_)
          rw [nI_clamp (by omega)] at hP hD
          refine lv_iconst (v := 0) hx hb dX11_sheet_53 rfl ?_
          refine lv_istore (lv' := [(4, .int 0), (0, .ref h0), (1, .int (nI kk)), (2, .int lane), (3, .int (nI nn))]) hx hb dX11_sheet_54 hl (by decide) rfl (fun ls hl => ?_)
          have loop56_15 : ∀ (nf j13 : Nat), 40 + 1 ≤ j13 + nf → j13 ≤ 40 → ∀ (g14 : Nat → Int32) (H : Heap) (locs : List Loc), g14 = zpg kk j13 fce → va_P (dC, dI) vwCl [(h0, .inr (11, [.ref st, .int (nI N), .int (nI B), .ref rp, .int vrs, .int vrb, .int vhs, .int vca, .int vxs, .int vxb, .ref tp, .int (nI T), .int vfa, .int vbr, .int vba, .int vsp, .int vhe, .int vtk, .int vva, .ref cu, .ref lt, .ref od, .ref th, .ref be, .ref ln, .int (nI S), .ref ma, .int (nI M), .ref ah, .ref bh, .ref ik, .ref la, .ref lg, .ref ce, .int vto])), (la, .inl (G 0, 4, .inl (upd fla kk lane))), (lg, .inl (G 0, 4, .inl (upd flg kk (nI nn)))), (ce, .inl (G 0, 160, .inl g14))] H → va_D A [(h0, .inr (11, [.ref st, .int (nI N), .int (nI B), .ref rp, .int vrs, .int vrb, .int vhs, .int vca, .int vxs, .int vxb, .ref tp, .int (nI T), .int vfa, .int vbr, .int vba, .int vsp, .int vhe, .int vtk, .int vva, .ref cu, .ref lt, .ref od, .ref th, .ref be, .ref ln, .int (nI S), .ref ma, .int (nI M), .ref ah, .ref bh, .ref ik, .ref la, .ref lg, .ref ce, .int vto])), (la, .inl (G 0, 4, .inl (upd fla kk lane))), (lg, .inl (G 0, 4, .inl (upd flg kk (nI nn)))), (ce, .inl (G 0, 160, .inl g14))] → va_S A s.heap H locs → ∀ (ls : Array Slot), lv_has ls 5 [(4, .int (nI j13)), (0, .ref h0), (1, .int (nI kk)), (2, .int lane), (3, .int (nI nn))] → W p l e (headSpec (Cond.code yX11_sheet cX11_sheet 5 (some .int) :: GT) ({ frames := 1, cells := 0, slots := 0, locals := 25 } : Room)).room s m ([.ref h0, .int (nI kk), .int lane, .int (nI nn)] : List Value).toArray below meth c H locs 0 0 (MQ below (va_Qi (fun (r : Int32) (u : (Nat → Int32) × (Nat → Int32) × (Nat → Int32)) => match u with | (ola, olg, oce) => (r = if (0 ≤ (nI kk).toInt ∧ (nI kk).toInt < 4) ∧ (0 ≤ lane.toInt ∧ lane.toInt ≤ 2) ∧ (nI nn).toInt ≤ 40 then (if (nI nn).toInt < 0 then -14 else 1) else -1) ∧ ((ola = (if ((0 ≤ (nI kk).toInt ∧ (nI kk).toInt < 4) ∧ (0 ≤ lane.toInt ∧ lane.toInt ≤ 2) ∧ (nI nn).toInt ≤ 40 ∧ 0 ≤ (nI nn).toInt) then upd fla (nI kk).toNatClampNeg lane else fla) ∧ olg = (if ((0 ≤ (nI kk).toInt ∧ (nI kk).toInt < 4) ∧ (0 ≤ lane.toInt ∧ lane.toInt ≤ 2) ∧ (nI nn).toInt ≤ 40 ∧ 0 ≤ (nI nn).toInt) then upd flg (nI kk).toNatClampNeg (nI nn) else flg)) ∧ ∀ q : Nat, q < 4 → 0 ≤ (olg q).toInt ∧ (olg q).toInt ≤ 40) ∧ oce = (if ((0 ≤ (nI kk).toInt ∧ (nI kk).toInt < 4) ∧ (0 ≤ lane.toInt ∧ lane.toInt ≤ 2) ∧ (nI nn).toInt ≤ 40 ∧ 0 ≤ (nI nn).toInt) then zpg (nI kk).toNatClampNeg 40 fce else fce)) (fun (u : (Nat → Int32) × (Nat → Int32) × (Nat → Int32)) (t : State) => match u with | (ola, olg, oce) => va_P (dC, dI) vwCl [(h0, .inr (11, [.ref st, .int (nI N), .int (nI B), .ref rp, .int vrs, .int vrb, .int vhs, .int vca, .int vxs, .int vxb, .ref tp, .int (nI T), .int vfa, .int vbr, .int vba, .int vsp, .int vhe, .int vtk, .int vva, .ref cu, .ref lt, .ref od, .ref th, .ref be, .ref ln, .int (nI S), .ref ma, .int (nI M), .ref ah, .ref bh, .ref ik, .ref la, .ref lg, .ref ce, .int vto])), (la, .inl (G 0, 4, .inl ola)), (lg, .inl (G 0, 4, .inl olg)), (ce, .inl (G 0, 160, .inl oce))] t.heap ∧ va_D A [(h0, .inr (11, [.ref st, .int (nI N), .int (nI B), .ref rp, .int vrs, .int vrb, .int vhs, .int vca, .int vxs, .int vxb, .ref tp, .int (nI T), .int vfa, .int vbr, .int vba, .int vsp, .int vhe, .int vtk, .int vva, .ref cu, .ref lt, .ref od, .ref th, .ref be, .ref ln, .int (nI S), .ref ma, .int (nI M), .ref ah, .ref bh, .ref ik, .ref la, .ref lg, .ref ce, .int vto])), (la, .inl (G 0, 4, .inl ola)), (lg, .inl (G 0, 4, .inl olg)), (ce, .inl (G 0, 160, .inl oce))]) A) ([.ref h0, .int (nI kk), .int lane, .int (nI nn)] : List Value).toArray s 0 0 A) (F0 m 56 ls []) := by
            intro nf
            induction nf with
            | zero => intro j13 h1 h2; exact absurd h1 (by omega)
            | succ nf ih56_15 =>
              intro j13 hn16 hj17 g14 H locs hinv hP hD hS ls hl
              refine lv_iload hx hb dX11_sheet_56 (lv_at hl 0 rfl) ?_
              refine lv_bipush (v := 40) hx hb dX11_sheet_58 rfl ?_
              refine lv_icmp_ge (tgt := 82) hx hb dX11_sheet_60 rfl (fun c18 => ?_) (fun c18 => ?_)
              · skip
                have tn2154_ : nIT j13 := fun _ => nI_toInt (by first | omega | (have t := leI c18; omega))
                have n19 : 40 ≤ j13 := by have t := leI c18; rw [show (nI (j13)).toInt = ((j13 : Nat) : Int) from tn2154_ ()] at t; have : (40 : Int32).toInt = 40 := qI_40; omega
                refine lv_iconst (v := 1) hx hb dX11_sheet_82 rfl ?_
                have hpost : (1 : Int32) = if (0 ≤ (nI kk).toInt ∧ (nI kk).toInt < 4) ∧ (0 ≤ lane.toInt ∧ lane.toInt ≤ 2) ∧ (nI nn).toInt ≤ 40 then (if (nI nn).toInt < 0 then -14 else 1) else -1 := by
                  have t_b5 := b5
                  have t_b10 := b10
                  have t_c11 := leI c11
                  have t_c12 := leI c12
                  have t_hkk := hkk
                  have t_hnn := hnn
                  have t_hj17 := hj17
                  have t_n19 := n19
                  have : (0 : Int32).toInt = 0 := qI_0
                  have : (40 : Int32).toInt = 40 := qI_40
                  have t_n0 : (nI N).toInt = (N : Int) := tn2146_ ()
                  have t_n1 : (nI B).toInt = (B : Int) := tn2147_ ()
                  have t_n2 : (nI T).toInt = (T : Int) := tn2148_ ()
                  have t_n3 : (nI S).toInt = (S : Int) := tn2149_ ()
                  have t_n4 : (nI M).toInt = (M : Int) := tn2150_ ()
                  have t_n5 : (nI kk).toInt = (kk : Int) := tn2152_ ()
                  have t_n6 : (nI nn).toInt = (nn : Int) := tn2153_ ()
                  have t_n7 : (nI j13).toInt = (j13 : Int) := tn2154_ ()
                  first | rfl | ((repeat' split) <;> first | rfl | omega)
                obtain ⟨hP9, hD9⟩ := va_sub2 (ws' := [(h0, .inr (11, [.ref st, .int (nI N), .int (nI B), .ref rp, .int vrs, .int vrb, .int vhs, .int vca, .int vxs, .int vxb, .ref tp, .int (nI T), .int vfa, .int vbr, .int vba, .int vsp, .int vhe, .int vtk, .int vva, .ref cu, .ref lt, .ref od, .ref th, .ref be, .ref ln, .int (nI S), .ref ma, .int (nI M), .ref ah, .ref bh, .ref ik, .ref la, .ref lg, .ref ce, .int vto])), (la, .inl (G 0, 4, .inl (upd fla kk lane))), (lg, .inl (G 0, 4, .inl (upd flg kk (nI nn)))), (ce, .inl (G 0, 160, .inl g14))]) hP hD [0, 1, 2, 3] (by decide +kernel) rfl
                refine W.widen (k := 0) (n := 0) (Nat.le_of_ble_eq_true rfl) (Nat.le_of_ble_eq_true rfl) ?_
                exact W.iret (v := 1) hx hb hr (fun t ht hW => ⟨⟨1, ((upd fla kk lane), (upd flg kk (nI nn)), g14), rfl, ⟨hpost, ⟨(by have t_b5 := b5; have t_b10 := b10; have t_c11 := leI c11; have t_c12 := leI c12; have t_hkk := hkk; have t_hnn := hnn; have t_hj17 := hj17; have t_n19 := n19; have tqz_ := qz11_; have tnb_ := nib8 tn2146_ tn2147_ tn2148_ tn2149_ tn2150_ tn2152_ tn2153_ tn2154_; refine ⟨⟨?_, ?_⟩, hz_upd hz (by omega)⟩ <;> rw [if_pos (by omega), nI_clamp (by omega)]), (by have t_b5 := b5; have t_b10 := b10; have t_c11 := leI c11; have t_c12 := leI c12; have t_hkk := hkk; have t_hnn := hnn; have t_hj17 := hj17; have t_n19 := n19; have tqz_ := qz11_; have tnb_ := nib8 tn2146_ tn2147_ tn2148_ tn2149_ tn2150_ tn2152_ tn2153_ tn2154_; rw [if_pos (by omega), nI_clamp (by omega), hinv, show j13 = 40 by omega])⟩⟩, ⟨by rw [ht]; exact hP9, hD9⟩⟩, hS.F ht⟩) hS.2.2 dX11_sheet_83
              · skip
                have tn2155_ : nIT j13 := fun _ => nI_toInt (by first | omega | (have t := nleI c18; omega))
                have n20 : j13 < 40 := by have t := nleI c18; rw [show (nI (j13)).toInt = ((j13 : Nat) : Int) from tn2155_ ()] at t; have : (40 : Int32).toInt = 40 := qI_40; omega
                refine lv_aload_n hx hb dX11_sheet_63 rfl (lv_at hl 1 rfl) ?_
                refine va_get (D := (dC, dI)) (ci := 11) (v := .ref ce) (C := RX11) (T := TX11) (N := 35) hx hb hg inG11 hown hK.1 hP 0 rfl rfl 33 (Nat.le_of_ble_eq_true rfl) (hg _ wt_911) (fun _ h9 => h9) rfl dX11_sheet_64 ?_
                refine lv_bipush (v := 40) hx hb dX11_sheet_67 rfl ?_
                refine lv_iload_n hx hb dX11_sheet_69 rfl (lv_at hl 2 rfl) ?_
                refine lv_imul hx hb dX11_sheet_70 ?_
                refine lv_cg (y := nI (40 * kk)) (by rw [show (40 : Int32) = nI 40 from rfl]; exact pk_mul _ _) ?_
                refine lv_iload hx hb dX11_sheet_71 (lv_at hl 0 rfl) ?_
                refine lv_iadd hx hb dX11_sheet_73 ?_
                refine lv_cg (y := nI ((40 * kk) + j13)) (by exact nI_add _ _) ?_
                refine lv_iconst (v := 0) hx hb dX11_sheet_74 rfl ?_
                refine va_iast hx hb hK.1 hP hD hS 3 0 rfl rfl (vp_in_nI (by first | omega | (have t_b5 := b5; have t_b10 := b10; have t_c11 := leI c11; have t_c12 := leI c12; have t_hkk := hkk; have t_hnn := hnn; have t_hj17 := hj17; have t_n20 := n20; have tqz_ := qz11_; have tnb_ := nib8 tn2146_ tn2147_ tn2148_ tn2149_ tn2150_ tn2152_ tn2153_ tn2155_; omega)) (by decide)) dX11_sheet_75 (fun H locs hP hD hS => ?_)
                rw [nI_clamp (by omega)] at hP hD
                refine lv_iinc (v := nI (j13 + 1)) (lv' := [(4, .int (nI (j13 + 1))), (0, .ref h0), (1, .int (nI kk)), (2, .int lane), (3, .int (nI nn))]) hx hb dX11_sheet_76 hl (k := 0) rfl (by rw [show Int32.ofInt 1 = nI 1 from by decide]; exact nI_add _ _) (by decide) rfl (fun ls hl => ?_)
                refine lv_goto (tgt := 56) hx hb dX11_sheet_79 rfl ?_
                exact ih56_15 (j13 + 1) (by omega) (by omega) (upd g14 ((40 * kk) + j13) 0) _ _ (by rw [hinv]; exact zpg_s) hP hD hS ls (lv_sub hl [0, 1, 2, 3, 4] rfl)
          exact loop56_15 (40 + 1) 0 (by omega) (by omega) fce _ _ zpg_0 hP hD hS ls (lv_sub hl [0, 1, 2, 3, 4] rfl)
        · skip
          refine lv_bipush (v := (-14)) hx hb dX11_sheet_36 rfl ?_
          have hpost : ((-14) : Int32) = if (0 ≤ k.toInt ∧ k.toInt < 4) ∧ (0 ≤ lane.toInt ∧ lane.toInt ≤ 2) ∧ n.toInt ≤ 40 then (if n.toInt < 0 then -14 else 1) else -1 := by
            have t_b5 := b5
            have t_b10 := b10
            have t_c11 := leI c11
            have t_c12 := nleI c12
            have : (0 : Int32).toInt = 0 := qI_0
            have : (40 : Int32).toInt = 40 := qI_40
            have t_n0 : (nI N).toInt = (N : Int) := tn2146_ ()
            have t_n1 : (nI B).toInt = (B : Int) := tn2147_ ()
            have t_n2 : (nI T).toInt = (T : Int) := tn2148_ ()
            have t_n3 : (nI S).toInt = (S : Int) := tn2149_ ()
            have t_n4 : (nI M).toInt = (M : Int) := tn2150_ ()
            first | rfl | ((repeat' split) <;> first | rfl | omega)
          obtain ⟨hP9, hD9⟩ := va_sub2 (ws' := [(h0, .inr (11, [.ref st, .int (nI N), .int (nI B), .ref rp, .int vrs, .int vrb, .int vhs, .int vca, .int vxs, .int vxb, .ref tp, .int (nI T), .int vfa, .int vbr, .int vba, .int vsp, .int vhe, .int vtk, .int vva, .ref cu, .ref lt, .ref od, .ref th, .ref be, .ref ln, .int (nI S), .ref ma, .int (nI M), .ref ah, .ref bh, .ref ik, .ref la, .ref lg, .ref ce, .int vto])), (la, .inl (G 0, 4, .inl fla)), (lg, .inl (G 0, 4, .inl flg)), (ce, .inl (G 0, 160, .inl fce))]) hP hD [0, 1, 2, 3] (by decide +kernel) rfl
          refine W.widen (k := 0) (n := 0) (Nat.le_of_ble_eq_true rfl) (Nat.le_of_ble_eq_true rfl) ?_
          exact W.iret (v := (-14)) hx hb hr (fun t ht hW => ⟨⟨(-14), (fla, flg, fce), rfl, ⟨hpost, ⟨(by have t_b5 := b5; have t_b10 := b10; have t_c11 := leI c11; have t_c12 := nleI c12; have tqz_ := qz11_; have tnb_ := nib5 tn2146_ tn2147_ tn2148_ tn2149_ tn2150_; refine ⟨⟨?_, ?_⟩, hz⟩ <;> rw [if_neg (by omega)]), (by have t_b5 := b5; have t_b10 := b10; have t_c11 := leI c11; have t_c12 := nleI c12; have tqz_ := qz11_; have tnb_ := nib5 tn2146_ tn2147_ tn2148_ tn2149_ tn2150_; rw [if_neg (by omega)])⟩⟩, ⟨by rw [ht]; exact hP9, hD9⟩⟩, hS.F ht⟩) hS.2.2 dX11_sheet_38
      · skip
        refine lv_iconst (v := (-1)) hx hb dX11_sheet_30 rfl ?_
        have hpost : ((-1) : Int32) = if (0 ≤ k.toInt ∧ k.toInt < 4) ∧ (0 ≤ lane.toInt ∧ lane.toInt ≤ 2) ∧ n.toInt ≤ 40 then (if n.toInt < 0 then -14 else 1) else -1 := by
          have t_b5 := b5
          have t_b10 := b10
          have t_c11 := nleI c11
          have : (40 : Int32).toInt = 40 := qI_40
          have t_n0 : (nI N).toInt = (N : Int) := tn2146_ ()
          have t_n1 : (nI B).toInt = (B : Int) := tn2147_ ()
          have t_n2 : (nI T).toInt = (T : Int) := tn2148_ ()
          have t_n3 : (nI S).toInt = (S : Int) := tn2149_ ()
          have t_n4 : (nI M).toInt = (M : Int) := tn2150_ ()
          first | rfl | ((repeat' split) <;> first | rfl | omega)
        obtain ⟨hP9, hD9⟩ := va_sub2 (ws' := [(h0, .inr (11, [.ref st, .int (nI N), .int (nI B), .ref rp, .int vrs, .int vrb, .int vhs, .int vca, .int vxs, .int vxb, .ref tp, .int (nI T), .int vfa, .int vbr, .int vba, .int vsp, .int vhe, .int vtk, .int vva, .ref cu, .ref lt, .ref od, .ref th, .ref be, .ref ln, .int (nI S), .ref ma, .int (nI M), .ref ah, .ref bh, .ref ik, .ref la, .ref lg, .ref ce, .int vto])), (la, .inl (G 0, 4, .inl fla)), (lg, .inl (G 0, 4, .inl flg)), (ce, .inl (G 0, 160, .inl fce))]) hP hD [0, 1, 2, 3] (by decide +kernel) rfl
        refine W.widen (k := 0) (n := 0) (Nat.le_of_ble_eq_true rfl) (Nat.le_of_ble_eq_true rfl) ?_
        exact W.iret (v := (-1)) hx hb hr (fun t ht hW => ⟨⟨(-1), (fla, flg, fce), rfl, ⟨hpost, ⟨(by have t_b5 := b5; have t_b10 := b10; have t_c11 := nleI c11; have : (40 : Int32).toInt = 40 := qI_40; have tnb_ := nib5 tn2146_ tn2147_ tn2148_ tn2149_ tn2150_; refine ⟨⟨?_, ?_⟩, hz⟩ <;> rw [if_neg (by omega)]), (by have t_b5 := b5; have t_b10 := b10; have t_c11 := nleI c11; have : (40 : Int32).toInt = 40 := qI_40; have tnb_ := nib5 tn2146_ tn2147_ tn2148_ tn2149_ tn2150_; rw [if_neg (by omega)])⟩⟩, ⟨by rw [ht]; exact hP9, hD9⟩⟩, hS.F ht⟩) hS.2.2 dX11_sheet_31

set_option maxHeartbeats 1000000 in
set_option maxRecDepth 100000 in
theorem c_X11_layO (l : Launch) (dC : Nat → ClassId) (dI : Nat → Nat → Nat) (G : Nat → ClassId) (sz : Nat) (h0 st N B rp tp T cu lt od th be ln S ma M ah bh ik la lg ce : Nat) (k i v vrs vrb vhs vca vxs vxb vfa vbr vba vsp vhe vtk vva vto : Int32) (fla : Nat → Int32) (flg : Nat → Int32) (fce : Nat → Int32) (hN : N ≤ 10) (hB : B ≤ 6) (hT : T ≤ 320) (hS0 : S ≤ 8) (hM : M ≤ 6) (hz : ∀ q : Nat, q < 4 → 0 ≤ (flg q).toInt ∧ (flg q).toInt ≤ 40) : Met l yX11_lay (Cond.code yX11_lay cX11_lay 4 (some .int) :: GT) ({ frames := 1, cells := 0, slots := 0, locals := 25 } : Room) (PcW [.ref h0, .int k, .int i, .int v] dC dI G [(h0, .inr (11, [.ref st, .int (nI N), .int (nI B), .ref rp, .int vrs, .int vrb, .int vhs, .int vca, .int vxs, .int vxb, .ref tp, .int (nI T), .int vfa, .int vbr, .int vba, .int vsp, .int vhe, .int vtk, .int vva, .ref cu, .ref lt, .ref od, .ref th, .ref be, .ref ln, .int (nI S), .ref ma, .int (nI M), .ref ah, .ref bh, .ref ik, .ref la, .ref lg, .ref ce, .int vto])), (la, .inl (G 0, 4, .inl fla)), (lg, .inl (G 0, 4, .inl flg)), (ce, .inl (G 0, 160, .inl fce))] sz) (va_Qi (fun (r : Int32) (u : (Nat → Int32)) => match u with | oce => (r = if 0 ≤ k.toInt ∧ k.toInt < 4 then (if fla k.toNatClampNeg = -4 then -11 else if 0 ≤ i.toInt ∧ i.toInt < (flg k.toNatClampNeg).toInt then 1 else -12) else -1) ∧ oce = (if ((0 ≤ k.toInt ∧ k.toInt < 4) ∧ ¬ fla k.toNatClampNeg = -4 ∧ 0 ≤ i.toInt ∧ i.toInt < (flg k.toNatClampNeg).toInt) then upd fce (40 * k.toNatClampNeg + i.toNatClampNeg) (nrR (fla k.toNatClampNeg) v) else fce)) (fun (u : (Nat → Int32)) (t : State) => match u with | oce => va_P (dC, dI) vwCl [(h0, .inr (11, [.ref st, .int (nI N), .int (nI B), .ref rp, .int vrs, .int vrb, .int vhs, .int vca, .int vxs, .int vxb, .ref tp, .int (nI T), .int vfa, .int vbr, .int vba, .int vsp, .int vhe, .int vtk, .int vva, .ref cu, .ref lt, .ref od, .ref th, .ref be, .ref ln, .int (nI S), .ref ma, .int (nI M), .ref ah, .ref bh, .ref ik, .ref la, .ref lg, .ref ce, .int vto])), (la, .inl (G 0, 4, .inl fla)), (lg, .inl (G 0, 4, .inl flg)), (ce, .inl (G 0, 160, .inl oce))] t.heap ∧ va_D (va_A [(h0, .inr (11, [.ref st, .int (nI N), .int (nI B), .ref rp, .int vrs, .int vrb, .int vhs, .int vca, .int vxs, .int vxb, .ref tp, .int (nI T), .int vfa, .int vbr, .int vba, .int vsp, .int vhe, .int vtk, .int vva, .ref cu, .ref lt, .ref od, .ref th, .ref be, .ref ln, .int (nI S), .ref ma, .int (nI M), .ref ah, .ref bh, .ref ik, .ref la, .ref lg, .ref ce, .int vto])), (la, .inl (G 0, 4, .inl fla)), (lg, .inl (G 0, 4, .inl flg)), (ce, .inl (G 0, 160, .inl fce))] sz) [(h0, .inr (11, [.ref st, .int (nI N), .int (nI B), .ref rp, .int vrs, .int vrb, .int vhs, .int vca, .int vxs, .int vxb, .ref tp, .int (nI T), .int vfa, .int vbr, .int vba, .int vsp, .int vhe, .int vtk, .int vva, .ref cu, .ref lt, .ref od, .ref th, .ref be, .ref ln, .int (nI S), .ref ma, .int (nI M), .ref ah, .ref bh, .ref ik, .ref la, .ref lg, .ref ce, .int vto])), (la, .inl (G 0, 4, .inl fla)), (lg, .inl (G 0, 4, .inl flg)), (ce, .inl (G 0, 160, .inl oce))]) (va_A [(h0, .inr (11, [.ref st, .int (nI N), .int (nI B), .ref rp, .int vrs, .int vrb, .int vhs, .int vca, .int vxs, .int vxb, .ref tp, .int (nI T), .int vfa, .int vbr, .int vba, .int vsp, .int vhe, .int vtk, .int vva, .ref cu, .ref lt, .ref od, .ref th, .ref be, .ref ln, .int (nI S), .ref ma, .int (nI M), .ref ah, .ref bh, .ref ik, .ref la, .ref lg, .ref ce, .int vto])), (la, .inl (G 0, 4, .inl fla)), (lg, .inl (G 0, 4, .inl flg)), (ce, .inl (G 0, 160, .inl fce))] sz)) 0 0 (va_A [(h0, .inr (11, [.ref st, .int (nI N), .int (nI B), .ref rp, .int vrs, .int vrb, .int vhs, .int vca, .int vxs, .int vxb, .ref tp, .int (nI T), .int vfa, .int vbr, .int vba, .int vsp, .int vhe, .int vtk, .int vva, .ref cu, .ref lt, .ref od, .ref th, .ref be, .ref ln, .int (nI S), .ref ma, .int (nI M), .ref ah, .ref bh, .ref ik, .ref la, .ref lg, .ref ce, .int vto])), (la, .inl (G 0, 4, .inl fla)), (lg, .inl (G 0, 4, .inl flg)), (ce, .inl (G 0, 160, .inl fce))] sz) := by
  have tn2156_ : nIT N := fun _ => nI_toInt (by omega)
  have tn2157_ : nIT B := fun _ => nI_toInt (by omega)
  have tn2158_ : nIT T := fun _ => nI_toInt (by omega)
  have tn2159_ : nIT S := fun _ => nI_toInt (by omega)
  have tn2160_ : nIT M := fun _ => nI_toInt (by omega)
  refine Met.ofW (cc := cX11_lay) (maxL := 4) (ret := (some .int)) (by decide) rfl ?_
  intro p e s m args below meth c s₁ Bd hml hv
  obtain ⟨rfl, hsz, hP, hK, hD0⟩ := hv
  have hx := Bd.exec
  have hb := Bd.bytes
  have hr := Bd.returns
  have hg : ∀ w ∈ GT, w.before ([.ref h0, .int k, .int i, .int v] : List Value).toArray s = true := fun w h => atoms_spec (ws := Cond.code yX11_lay cX11_lay 4 (some .int) :: GT) Bd.pre w (List.mem_cons_of_mem _ h)
  have hown : s.vm.findClass RX11 = some m.cls := findClass_of_methodNamed Bd.named
  have hlocks := Bd.notSynchronized
  subst hsz
  have hD := hD0.self (sz := s.heap.size)
  generalize hAe : va_A [(h0, .inr (11, [.ref st, .int (nI N), .int (nI B), .ref rp, .int vrs, .int vrb, .int vhs, .int vca, .int vxs, .int vxb, .ref tp, .int (nI T), .int vfa, .int vbr, .int vba, .int vsp, .int vhe, .int vtk, .int vva, .ref cu, .ref lt, .ref od, .ref th, .ref be, .ref ln, .int (nI S), .ref ma, .int (nI M), .ref ah, .ref bh, .ref ik, .ref la, .ref lg, .ref ce, .int vto])), (la, .inl (G 0, 4, .inl fla)), (lg, .inl (G 0, 4, .inl flg)), (ce, .inl (G 0, 160, .inl fce))] s.heap.size = A at hD ⊢
  have hA : ∀ q : Nat, s.heap.size ≤ q → A q := fun q h => by rw [← hAe]; exact Or.inr h
  have hS : va_S A s.heap s.heap [] := va_S.rf
  have hl := lv_entry ([.ref h0, .int k, .int i, .int v]) (n := 4) (Nat.le_of_ble_eq_true rfl)
  rw [lg_entry_eq]
  generalize (lg_sl ([.ref h0, .int k, .int i, .int v]) ++ List.replicate (4 - (lg_sl ([.ref h0, .int k, .int i, .int v])).length) Slot.unset).toArray = ls at hl ⊢
  have hl : lv_has ls 4 [(0, .ref h0), (1, .int k), (2, .int i), (3, .int v)] := hl
  refine lv_iload_n hx hb dX11_lay_0 rfl (lv_at hl 1 rfl) ?_
  refine lv_i2l (v := k.toInt64) hx hb dX11_lay_1 rfl ?_
  refine lv_lconst (v := 0) hx hb dX11_lay_2 (by decide) ?_
  refine lv_ldc2 (v := 3) hx hb hown (hg _ wt_1023) dX11_lay_3 ?_
  have hPc := hP.sub (ws' := []) [] rfl
  refine va_calli (va_runS (As := [.long k.toInt64, .long 0, .long 3]) (rest := []) ⟨hx, hb, hml, hown, hg⟩ (c_X11_in l dC dI G _ k.toInt64 0 3) (kwS hg mfX11_in wt_992 ⟨Nat.le_of_ble_eq_true rfl, Nat.le_of_ble_eq_true rfl⟩) (preSR hK hPc) rfl rfl hl.1 rfl (lv_room (Nat.le_of_ble_eq_true rfl)) dX11_lay_6 ⟨Nat.le_of_ble_eq_true rfl, Nat.le_of_ble_eq_true rfl⟩) hS (fun q h1 h2 => absurd h2 (Nat.not_le.mpr h1)) (fun q h => hA q (Nat.le_trans hS.1 h)) (fun r1 ur1 t H1 locs ht hvm w2 hB hz1 hk1 hS => ?_)
  have hP := keepR hP hk1
  obtain ⟨w2, w2x⟩ := w2
  try simp only [l_ii, show (0 : Int64).toInt = 0 from by decide, show (3 : Int64).toInt = 3 from by decide] at w2
  subst w2
  refine lv_if_ne (tgt := 14) hx hb dX11_lay_9 rfl (fun c3 => ?_) (fun c3 => ?_)
  · skip
    have b4 := if10_p c3
    obtain ⟨kk, hkk, rfl⟩ : ∃ j : Nat, j < 4 ∧ k = nI j := by
      have t_b4 := b4
      have t_n0 : (nI N).toInt = (N : Int) := tn2156_ ()
      have t_n1 : (nI B).toInt = (B : Int) := tn2157_ ()
      have t_n2 : (nI T).toInt = (T : Int) := tn2158_ ()
      have t_n3 : (nI S).toInt = (S : Int) := tn2159_ ()
      have t_n4 : (nI M).toInt = (M : Int) := tn2160_ ()
      exact i32_nat (by omega) (by omega)
    refine lv_aload_n hx hb dX11_lay_14 rfl (lv_at hl 0 rfl) ?_
    refine va_get (D := (dC, dI)) (ci := 11) (v := .ref la) (C := RX11) (T := TX11) (N := 35) hx hb hg inG11 hown hK.1 hP 0 rfl rfl 31 (Nat.le_of_ble_eq_true rfl) (hg _ wt_909) (fun _ h9 => h9) rfl dX11_lay_15 ?_
    refine lv_iload_n hx hb dX11_lay_18 rfl (lv_at hl 1 rfl) ?_
    have tn2161_ : nIT kk := fun _ => nI_toInt (by first | omega | (have t_b4 := b4; have t_hkk := hkk; omega))
    refine va_iald hx hb hK.1 hP 1 0 rfl rfl (vp_in_nI (by first | omega | (have t_b4 := b4; have t_hkk := hkk; have tnb_ := nib6 tn2156_ tn2157_ tn2158_ tn2159_ tn2160_ tn2161_; omega)) (by decide)) dX11_lay_19 ?_
    refine lv_cg (y := fla kk) (by rw [nI_clamp (by omega)]) ?_
    refine lv_bipush (v := (-4)) hx hb dX11_lay_20 rfl ?_
    refine lv_icmp_ne (tgt := 28) hx hb dX11_lay_22 rfl (fun c5 => ?_) (fun c5 => ?_)
    · skip
      refine lv_iload_n hx hb dX11_lay_28 rfl (lv_at hl 2 rfl) ?_
      refine lv_i2l (v := i.toInt64) hx hb dX11_lay_29 rfl ?_
      refine lv_lconst (v := 0) hx hb dX11_lay_30 (by decide) ?_
      refine lv_aload_n hx hb dX11_lay_31 rfl (lv_at hl 0 rfl) ?_
      refine va_get (D := (dC, dI)) (ci := 11) (v := .ref lg) (C := RX11) (T := TX11) (N := 35) hx hb hg inG11 hown hK.1 hP 0 rfl rfl 32 (Nat.le_of_ble_eq_true rfl) (hg _ wt_910) (fun _ h9 => h9) rfl dX11_lay_32 ?_
      refine lv_iload_n hx hb dX11_lay_35 rfl (lv_at hl 1 rfl) ?_
      refine va_iald hx hb hK.1 hP 2 0 rfl rfl (vp_in_nI (by first | omega | (have t_b4 := b4; have t_hkk := hkk; have t_c5 := neI c5; have : ((-4) : Int32).toInt = -4 := qI_m4; have tnb_ := nib6 tn2156_ tn2157_ tn2158_ tn2159_ tn2160_ tn2161_; omega)) (by decide)) dX11_lay_36 ?_
      refine lv_cg (y := flg kk) (by rw [nI_clamp (by omega)]) ?_
      refine lv_iconst (v := 1) hx hb dX11_lay_37 rfl ?_
      refine lv_isub hx hb dX11_lay_38 ?_
      refine lv_i2l (v := ((flg kk) - 1).toInt64) hx hb dX11_lay_39 rfl ?_
      have hPc := hP.sub (ws' := []) [] rfl
      refine va_calli (va_runS (As := [.long i.toInt64, .long 0, .long (((flg kk) - 1).toInt64)]) (rest := []) ⟨hx, hb, hml, hown, hg⟩ (c_X11_in l dC dI G _ i.toInt64 0 (((flg kk) - 1).toInt64)) (kwS hg mfX11_in wt_992 ⟨Nat.le_of_ble_eq_true rfl, Nat.le_of_ble_eq_true rfl⟩) (preSR hK hPc) rfl rfl hl.1 rfl (lv_room (Nat.le_of_ble_eq_true rfl)) dX11_lay_40 ⟨Nat.le_of_ble_eq_true rfl, Nat.le_of_ble_eq_true rfl⟩) hS (fun q h1 h2 => absurd h2 (Nat.not_le.mpr h1)) (fun q h => hA q (Nat.le_trans hS.1 h)) (fun r6 ur6 t H1 locs ht hvm w7 hB hz1 hk1 hS => ?_)
      have hP := keepR hP hk1
      obtain ⟨w7, w7x⟩ := w7
      try simp only [l_ii, show (0 : Int64).toInt = 0 from by decide] at w7
      subst w7
      refine lv_if_ne (tgt := 49) hx hb dX11_lay_43 rfl (fun c8 => ?_) (fun c8 => ?_)
      · skip
        have b9 := if10_p c8
        have hzk := hz kk (by omega)
        have e9 := im1 (x := flg kk) hzk.1 hzk.2
        obtain ⟨ii, hii, rfl⟩ : ∃ j : Nat, j < 40 ∧ i = nI j := by
          have t_b4 := b4
          have t_hkk := hkk
          have t_c5 := neI c5
          have t_b9 := b9
          have : ((-4) : Int32).toInt = -4 := qI_m4
          have t_n0 : (nI N).toInt = (N : Int) := tn2156_ ()
          have t_n1 : (nI B).toInt = (B : Int) := tn2157_ ()
          have t_n2 : (nI T).toInt = (T : Int) := tn2158_ ()
          have t_n3 : (nI S).toInt = (S : Int) := tn2159_ ()
          have t_n4 : (nI M).toInt = (M : Int) := tn2160_ ()
          have t_n5 : (nI kk).toInt = (kk : Int) := tn2161_ ()
          exact i32_nat (by omega) (by omega)
        refine lv_aload_n hx hb dX11_lay_49 rfl (lv_at hl 0 rfl) ?_
        refine va_get (D := (dC, dI)) (ci := 11) (v := .ref ce) (C := RX11) (T := TX11) (N := 35) hx hb hg inG11 hown hK.1 hP 0 rfl rfl 33 (Nat.le_of_ble_eq_true rfl) (hg _ wt_911) (fun _ h9 => h9) rfl dX11_lay_50 ?_
        refine lv_bipush (v := 40) hx hb dX11_lay_53 rfl ?_
        refine lv_iload_n hx hb dX11_lay_55 rfl (lv_at hl 1 rfl) ?_
        refine lv_imul hx hb dX11_lay_56 ?_
        refine lv_cg (y := nI (40 * kk)) (by rw [show (40 : Int32) = nI 40 from rfl]; exact pk_mul _ _) ?_
        refine lv_iload_n hx hb dX11_lay_57 rfl (lv_at hl 2 rfl) ?_
        refine lv_iadd hx hb dX11_lay_58 ?_
        refine lv_cg (y := nI ((40 * kk) + ii)) (by exact nI_add _ _) ?_
        refine lv_aload_n hx hb dX11_lay_59 rfl (lv_at hl 0 rfl) ?_
        refine va_get (D := (dC, dI)) (ci := 11) (v := .ref la) (C := RX11) (T := TX11) (N := 35) hx hb hg inG11 hown hK.1 hP 0 rfl rfl 31 (Nat.le_of_ble_eq_true rfl) (hg _ wt_909) (fun _ h9 => h9) rfl dX11_lay_60 ?_
        refine lv_iload_n hx hb dX11_lay_63 rfl (lv_at hl 1 rfl) ?_
        have tn2162_ : nIT ii := fun _ => nI_toInt (by first | omega | (have t_b4 := b4; have t_hkk := hkk; have t_c5 := neI c5; have t_b9 := b9; have t_hii := hii; have : ((-4) : Int32).toInt = -4 := qI_m4; omega))
        refine va_iald hx hb hK.1 hP 1 0 rfl rfl (vp_in_nI (by first | omega | (have t_b4 := b4; have t_hkk := hkk; have t_c5 := neI c5; have t_b9 := b9; have t_hii := hii; have : ((-4) : Int32).toInt = -4 := qI_m4; have tnb_ := nib7 tn2156_ tn2157_ tn2158_ tn2159_ tn2160_ tn2161_ tn2162_; omega)) (by decide)) dX11_lay_64 ?_
        refine lv_cg (y := fla kk) (by rw [nI_clamp (by omega)]) ?_
        refine lv_if_ne (tgt := 78) hx hb dX11_lay_65 rfl (fun c10 => ?_) (fun c10 => ?_)
        · skip
          refine lv_aload_n hx hb dX11_lay_78 rfl (lv_at hl 0 rfl) ?_
          refine va_get (D := (dC, dI)) (ci := 11) (v := .ref la) (C := RX11) (T := TX11) (N := 35) hx hb hg inG11 hown hK.1 hP 0 rfl rfl 31 (Nat.le_of_ble_eq_true rfl) (hg _ wt_909) (fun _ h9 => h9) rfl dX11_lay_79 ?_
          refine lv_iload_n hx hb dX11_lay_82 rfl (lv_at hl 1 rfl) ?_
          refine va_iald hx hb hK.1 hP 1 0 rfl rfl (vp_in_nI (by first | omega | (have t_b4 := b4; have t_hkk := hkk; have t_c5 := neI c5; have t_b9 := b9; have t_hii := hii; have t_c10 := neI c10; have tqz_ := qz8_; have tnb_ := nib7 tn2156_ tn2157_ tn2158_ tn2159_ tn2160_ tn2161_ tn2162_; omega)) (by decide)) dX11_lay_83 ?_
          refine lv_cg (y := fla kk) (by rw [nI_clamp (by omega)]) ?_
          refine lv_iconst (v := 1) hx hb dX11_lay_84 rfl ?_
          refine lv_icmp_ne (tgt := 98) hx hb dX11_lay_85 rfl (fun c11 => ?_) (fun c11 => ?_)
          · skip
            refine lv_iload_n hx hb dX11_lay_98 rfl (lv_at hl 3 rfl) ?_
            refine va_iast hx hb hK.1 hP hD hS 3 0 rfl rfl (vp_in_nI (by first | omega | (have t_b4 := b4; have t_hkk := hkk; have t_c5 := neI c5; have t_b9 := b9; have t_hii := hii; have t_c10 := neI c10; have t_c11 := neI c11; have tqz_ := qz40_; have tnb_ := nib7 tn2156_ tn2157_ tn2158_ tn2159_ tn2160_ tn2161_ tn2162_; omega)) (by decide)) dX11_lay_99 (fun H locs hP hD hS => ?_)
            rw [nI_clamp (by omega)] at hP hD
            refine lv_iconst (v := 1) hx hb dX11_lay_100 rfl ?_
            have hpost : (1 : Int32) = if 0 ≤ (nI kk).toInt ∧ (nI kk).toInt < 4 then (if fla (nI kk).toNatClampNeg = -4 then -11 else if 0 ≤ (nI ii).toInt ∧ (nI ii).toInt < (flg (nI kk).toNatClampNeg).toInt then 1 else -12) else -1 := by
              rw [nI_clamp (by (have t_b4 := b4; have t_hkk := hkk; have t_c5 := neI c5; have t_b9 := b9; have t_hii := hii; have t_c10 := neI c10; have t_c11 := neI c11; have tqz_ := qz40_; have tnb_ := nib7 tn2156_ tn2157_ tn2158_ tn2159_ tn2160_ tn2161_ tn2162_; omega)), if_pos (by (have t_b4 := b4; have t_hkk := hkk; have t_c5 := neI c5; have t_b9 := b9; have t_hii := hii; have t_c10 := neI c10; have t_c11 := neI c11; have tqz_ := qz40_; have tnb_ := nib7 tn2156_ tn2157_ tn2158_ tn2159_ tn2160_ tn2161_ tn2162_; omega)), if_neg (by first | with_reducible assumption | assumption), if_pos (by (have t_b4 := b4; have t_hkk := hkk; have t_c5 := neI c5; have t_b9 := b9; have t_hii := hii; have t_c10 := neI c10; have t_c11 := neI c11; have tqz_ := qz40_; have tnb_ := nib7 tn2156_ tn2157_ tn2158_ tn2159_ tn2160_ tn2161_ tn2162_; omega))]
            obtain ⟨hP9, hD9⟩ := va_sub2 (ws' := [(h0, .inr (11, [.ref st, .int (nI N), .int (nI B), .ref rp, .int vrs, .int vrb, .int vhs, .int vca, .int vxs, .int vxb, .ref tp, .int (nI T), .int vfa, .int vbr, .int vba, .int vsp, .int vhe, .int vtk, .int vva, .ref cu, .ref lt, .ref od, .ref th, .ref be, .ref ln, .int (nI S), .ref ma, .int (nI M), .ref ah, .ref bh, .ref ik, .ref la, .ref lg, .ref ce, .int vto])), (la, .inl (G 0, 4, .inl fla)), (lg, .inl (G 0, 4, .inl flg)), (ce, .inl (G 0, 160, .inl (upd fce ((40 * kk) + ii) v)))]) hP hD [0, 1, 2, 3] (by decide +kernel) rfl
            refine W.widen (k := 0) (n := 0) (Nat.le_of_ble_eq_true rfl) (Nat.le_of_ble_eq_true rfl) ?_
            exact W.iret (v := 1) hx hb hr (fun t ht hW => ⟨⟨1, (upd fce ((40 * kk) + ii) v), rfl, ⟨hpost, (by clear hpost; have t_b4 := b4; have t_hkk := hkk; have t_c5 := neI c5; have t_b9 := b9; have t_hii := hii; have t_c10 := neI c10; have t_c11 := neI c11; have tqz_ := qz40_; have tnb_ := nib7 tn2156_ tn2157_ tn2158_ tn2159_ tn2160_ tn2161_ tn2162_; have tqz_ := qz46_; have z4 : (-4 : Int32).toInt = -4 := (by decide); have z10 : (10 : Int32).toInt = 10 := qI_10; have hzk := hz kk (by omega); have e9 := im1 (x := flg kk) hzk.1 hzk.2; rw [nI_clamp (by omega), nI_clamp (by omega), if_pos ⟨by omega, by assumption, by omega, by omega⟩]; unfold nrR; (try rw [if_pos (by first | with_reducible assumption | assumption)]); (try rw [if_neg (by first | with_reducible assumption | assumption)]); (try rw [if_pos (by first | with_reducible assumption | assumption)]); (try rw [if_neg (by first | with_reducible assumption | assumption)]); first | done | rfl)⟩, ⟨by rw [ht]; exact hP9, hD9⟩⟩, hS.F ht⟩) hS.2.2 dX11_lay_101
          · skip
            refine lv_iload_n hx hb dX11_lay_88 rfl (lv_at hl 3 rfl) ?_
            refine lv_bipush (v := 16) hx hb dX11_lay_89 rfl ?_
            refine lv_ishl hx hb dX11_lay_91 ?_
            refine lv_bipush (v := 16) hx hb dX11_lay_92 rfl ?_
            refine lv_ishr hx hb dX11_lay_94 ?_
            refine lv_goto (tgt := 99) hx hb dX11_lay_95 rfl ?_
            refine va_iast hx hb hK.1 hP hD hS 3 0 rfl rfl (vp_in_nI (by first | omega | (have t_b4 := b4; have t_hkk := hkk; have t_c5 := neI c5; have t_b9 := b9; have t_hii := hii; have t_c10 := neI c10; have t_c11 := eqI c11; have tqz_ := qz40_; have tnb_ := nib7 tn2156_ tn2157_ tn2158_ tn2159_ tn2160_ tn2161_ tn2162_; omega)) (by decide)) dX11_lay_99 (fun H locs hP hD hS => ?_)
            rw [nI_clamp (by omega)] at hP hD
            refine lv_iconst (v := 1) hx hb dX11_lay_100 rfl ?_
            have hpost : (1 : Int32) = if 0 ≤ (nI kk).toInt ∧ (nI kk).toInt < 4 then (if fla (nI kk).toNatClampNeg = -4 then -11 else if 0 ≤ (nI ii).toInt ∧ (nI ii).toInt < (flg (nI kk).toNatClampNeg).toInt then 1 else -12) else -1 := by
              rw [nI_clamp (by (have t_b4 := b4; have t_hkk := hkk; have t_c5 := neI c5; have t_b9 := b9; have t_hii := hii; have t_c10 := neI c10; have t_c11 := eqI c11; have tqz_ := qz40_; have tnb_ := nib7 tn2156_ tn2157_ tn2158_ tn2159_ tn2160_ tn2161_ tn2162_; omega)), if_pos (by (have t_b4 := b4; have t_hkk := hkk; have t_c5 := neI c5; have t_b9 := b9; have t_hii := hii; have t_c10 := neI c10; have t_c11 := eqI c11; have tqz_ := qz40_; have tnb_ := nib7 tn2156_ tn2157_ tn2158_ tn2159_ tn2160_ tn2161_ tn2162_; omega)), if_neg (by first | with_reducible assumption | assumption), if_pos (by (have t_b4 := b4; have t_hkk := hkk; have t_c5 := neI c5; have t_b9 := b9; have t_hii := hii; have t_c10 := neI c10; have t_c11 := eqI c11; have tqz_ := qz40_; have tnb_ := nib7 tn2156_ tn2157_ tn2158_ tn2159_ tn2160_ tn2161_ tn2162_; omega))]
            obtain ⟨hP9, hD9⟩ := va_sub2 (ws' := [(h0, .inr (11, [.ref st, .int (nI N), .int (nI B), .ref rp, .int vrs, .int vrb, .int vhs, .int vca, .int vxs, .int vxb, .ref tp, .int (nI T), .int vfa, .int vbr, .int vba, .int vsp, .int vhe, .int vtk, .int vva, .ref cu, .ref lt, .ref od, .ref th, .ref be, .ref ln, .int (nI S), .ref ma, .int (nI M), .ref ah, .ref bh, .ref ik, .ref la, .ref lg, .ref ce, .int vto])), (la, .inl (G 0, 4, .inl fla)), (lg, .inl (G 0, 4, .inl flg)), (ce, .inl (G 0, 160, .inl (upd fce ((40 * kk) + ii) ((v <<< ((16 : Int32) &&& 31)) >>> ((16 : Int32) &&& 31)))))]) hP hD [0, 1, 2, 3] (by decide +kernel) rfl
            refine W.widen (k := 0) (n := 0) (Nat.le_of_ble_eq_true rfl) (Nat.le_of_ble_eq_true rfl) ?_
            exact W.iret (v := 1) hx hb hr (fun t ht hW => ⟨⟨1, (upd fce ((40 * kk) + ii) ((v <<< ((16 : Int32) &&& 31)) >>> ((16 : Int32) &&& 31))), rfl, ⟨hpost, (by clear hpost; have t_b4 := b4; have t_hkk := hkk; have t_c5 := neI c5; have t_b9 := b9; have t_hii := hii; have t_c10 := neI c10; have t_c11 := eqI c11; have tqz_ := qz40_; have tnb_ := nib7 tn2156_ tn2157_ tn2158_ tn2159_ tn2160_ tn2161_ tn2162_; have tqz_ := qz46_; have z4 : (-4 : Int32).toInt = -4 := (by decide); have z10 : (10 : Int32).toInt = 10 := qI_10; have hzk := hz kk (by omega); have e9 := im1 (x := flg kk) hzk.1 hzk.2; rw [nI_clamp (by omega), nI_clamp (by omega), if_pos ⟨by omega, by assumption, by omega, by omega⟩]; unfold nrR; (try rw [if_pos (by first | with_reducible assumption | assumption)]); (try rw [if_neg (by first | with_reducible assumption | assumption)]); (try rw [if_pos (by first | with_reducible assumption | assumption)]); (try rw [if_neg (by first | with_reducible assumption | assumption)]); first | done | rfl)⟩, ⟨by rw [ht]; exact hP9, hD9⟩⟩, hS.F ht⟩) hS.2.2 dX11_lay_101
        · skip
          refine lv_iload_n hx hb dX11_lay_68 rfl (lv_at hl 3 rfl) ?_
          refine lv_bipush (v := 24) hx hb dX11_lay_69 rfl ?_
          refine lv_ishl hx hb dX11_lay_71 ?_
          refine lv_bipush (v := 24) hx hb dX11_lay_72 rfl ?_
          refine lv_ishr hx hb dX11_lay_74 ?_
          refine lv_goto (tgt := 99) hx hb dX11_lay_75 rfl ?_
          refine va_iast hx hb hK.1 hP hD hS 3 0 rfl rfl (vp_in_nI (by first | omega | (have t_b4 := b4; have t_hkk := hkk; have t_c5 := neI c5; have t_b9 := b9; have t_hii := hii; have t_c10 := eqI c10; have tqz_ := qz8_; have tnb_ := nib7 tn2156_ tn2157_ tn2158_ tn2159_ tn2160_ tn2161_ tn2162_; omega)) (by decide)) dX11_lay_99 (fun H locs hP hD hS => ?_)
          rw [nI_clamp (by omega)] at hP hD
          refine lv_iconst (v := 1) hx hb dX11_lay_100 rfl ?_
          have hpost : (1 : Int32) = if 0 ≤ (nI kk).toInt ∧ (nI kk).toInt < 4 then (if fla (nI kk).toNatClampNeg = -4 then -11 else if 0 ≤ (nI ii).toInt ∧ (nI ii).toInt < (flg (nI kk).toNatClampNeg).toInt then 1 else -12) else -1 := by
            rw [nI_clamp (by (have t_b4 := b4; have t_hkk := hkk; have t_c5 := neI c5; have t_b9 := b9; have t_hii := hii; have t_c10 := eqI c10; have tqz_ := qz8_; have tnb_ := nib7 tn2156_ tn2157_ tn2158_ tn2159_ tn2160_ tn2161_ tn2162_; omega)), if_pos (by (have t_b4 := b4; have t_hkk := hkk; have t_c5 := neI c5; have t_b9 := b9; have t_hii := hii; have t_c10 := eqI c10; have tqz_ := qz8_; have tnb_ := nib7 tn2156_ tn2157_ tn2158_ tn2159_ tn2160_ tn2161_ tn2162_; omega)), if_neg (by first | with_reducible assumption | assumption), if_pos (by (have t_b4 := b4; have t_hkk := hkk; have t_c5 := neI c5; have t_b9 := b9; have t_hii := hii; have t_c10 := eqI c10; have tqz_ := qz8_; have tnb_ := nib7 tn2156_ tn2157_ tn2158_ tn2159_ tn2160_ tn2161_ tn2162_; omega))]
          obtain ⟨hP9, hD9⟩ := va_sub2 (ws' := [(h0, .inr (11, [.ref st, .int (nI N), .int (nI B), .ref rp, .int vrs, .int vrb, .int vhs, .int vca, .int vxs, .int vxb, .ref tp, .int (nI T), .int vfa, .int vbr, .int vba, .int vsp, .int vhe, .int vtk, .int vva, .ref cu, .ref lt, .ref od, .ref th, .ref be, .ref ln, .int (nI S), .ref ma, .int (nI M), .ref ah, .ref bh, .ref ik, .ref la, .ref lg, .ref ce, .int vto])), (la, .inl (G 0, 4, .inl fla)), (lg, .inl (G 0, 4, .inl flg)), (ce, .inl (G 0, 160, .inl (upd fce ((40 * kk) + ii) ((v <<< ((24 : Int32) &&& 31)) >>> ((24 : Int32) &&& 31)))))]) hP hD [0, 1, 2, 3] (by decide +kernel) rfl
          refine W.widen (k := 0) (n := 0) (Nat.le_of_ble_eq_true rfl) (Nat.le_of_ble_eq_true rfl) ?_
          exact W.iret (v := 1) hx hb hr (fun t ht hW => ⟨⟨1, (upd fce ((40 * kk) + ii) ((v <<< ((24 : Int32) &&& 31)) >>> ((24 : Int32) &&& 31))), rfl, ⟨hpost, (by clear hpost; have t_b4 := b4; have t_hkk := hkk; have t_c5 := neI c5; have t_b9 := b9; have t_hii := hii; have t_c10 := eqI c10; have tqz_ := qz8_; have tnb_ := nib7 tn2156_ tn2157_ tn2158_ tn2159_ tn2160_ tn2161_ tn2162_; have tqz_ := qz46_; have z4 : (-4 : Int32).toInt = -4 := (by decide); have z10 : (10 : Int32).toInt = 10 := qI_10; have hzk := hz kk (by omega); have e9 := im1 (x := flg kk) hzk.1 hzk.2; rw [nI_clamp (by omega), nI_clamp (by omega), if_pos ⟨by omega, by assumption, by omega, by omega⟩]; unfold nrR; (try rw [if_pos (by first | with_reducible assumption | assumption)]); (try rw [if_neg (by first | with_reducible assumption | assumption)]); (try rw [if_pos (by first | with_reducible assumption | assumption)]); (try rw [if_neg (by first | with_reducible assumption | assumption)]); first | done | rfl)⟩, ⟨by rw [ht]; exact hP9, hD9⟩⟩, hS.F ht⟩) hS.2.2 dX11_lay_101
      · skip
        have b12 := if10_n c8
        refine lv_bipush (v := (-12)) hx hb dX11_lay_46 rfl ?_
        have hpost : ((-12) : Int32) = if 0 ≤ (nI kk).toInt ∧ (nI kk).toInt < 4 then (if fla (nI kk).toNatClampNeg = -4 then -11 else if 0 ≤ i.toInt ∧ i.toInt < (flg (nI kk).toNatClampNeg).toInt then 1 else -12) else -1 := by
          have hzk := hz kk (by (have t_b4 := b4; have t_hkk := hkk; have t_c5 := neI c5; have t_b12 := b12; have : ((-4) : Int32).toInt = -4 := qI_m4; have tnb_ := nib6 tn2156_ tn2157_ tn2158_ tn2159_ tn2160_ tn2161_; omega))
          have e9 := im1 (x := flg kk) hzk.1 hzk.2
          rw [nI_clamp (by (have t_b4 := b4; have t_hkk := hkk; have t_c5 := neI c5; have t_b12 := b12; have : ((-4) : Int32).toInt = -4 := qI_m4; have tnb_ := nib6 tn2156_ tn2157_ tn2158_ tn2159_ tn2160_ tn2161_; omega)), if_pos (by (have t_b4 := b4; have t_hkk := hkk; have t_c5 := neI c5; have t_b12 := b12; have : ((-4) : Int32).toInt = -4 := qI_m4; have tnb_ := nib6 tn2156_ tn2157_ tn2158_ tn2159_ tn2160_ tn2161_; omega)), if_neg (by first | with_reducible assumption | assumption), if_neg (by (have t_b4 := b4; have t_hkk := hkk; have t_c5 := neI c5; have t_b12 := b12; have : ((-4) : Int32).toInt = -4 := qI_m4; have tnb_ := nib6 tn2156_ tn2157_ tn2158_ tn2159_ tn2160_ tn2161_; omega))]
        obtain ⟨hP9, hD9⟩ := va_sub2 (ws' := [(h0, .inr (11, [.ref st, .int (nI N), .int (nI B), .ref rp, .int vrs, .int vrb, .int vhs, .int vca, .int vxs, .int vxb, .ref tp, .int (nI T), .int vfa, .int vbr, .int vba, .int vsp, .int vhe, .int vtk, .int vva, .ref cu, .ref lt, .ref od, .ref th, .ref be, .ref ln, .int (nI S), .ref ma, .int (nI M), .ref ah, .ref bh, .ref ik, .ref la, .ref lg, .ref ce, .int vto])), (la, .inl (G 0, 4, .inl fla)), (lg, .inl (G 0, 4, .inl flg)), (ce, .inl (G 0, 160, .inl fce))]) hP hD [0, 1, 2, 3] (by decide +kernel) rfl
        refine W.widen (k := 0) (n := 0) (Nat.le_of_ble_eq_true rfl) (Nat.le_of_ble_eq_true rfl) ?_
        exact W.iret (v := (-12)) hx hb hr (fun t ht hW => ⟨⟨(-12), fce, rfl, ⟨hpost, (by clear hpost; have t_b4 := b4; have t_hkk := hkk; have t_c5 := neI c5; have t_b12 := b12; have : ((-4) : Int32).toInt = -4 := qI_m4; have tnb_ := nib6 tn2156_ tn2157_ tn2158_ tn2159_ tn2160_ tn2161_; have tqz_ := qz46_; have z4 : (-4 : Int32).toInt = -4 := (by decide); have z10 : (10 : Int32).toInt = 10 := qI_10; first | (rw [if_neg (fun h9 => by have h8 := h9.1; omega)]; done) | (rw [nI_clamp (by omega), if_neg (fun h9 => h9.2.1 (by first | with_reducible assumption | assumption))]; done) | (have hzk := hz kk (by omega); have e9 := im1 (x := flg kk) hzk.1 hzk.2; rw [nI_clamp (by omega), if_neg (fun h9 => by have h8 := h9.2.2; omega)]; done))⟩, ⟨by rw [ht]; exact hP9, hD9⟩⟩, hS.F ht⟩) hS.2.2 dX11_lay_48
    · skip
      refine lv_bipush (v := (-11)) hx hb dX11_lay_25 rfl ?_
      have hpost : ((-11) : Int32) = if 0 ≤ (nI kk).toInt ∧ (nI kk).toInt < 4 then (if fla (nI kk).toNatClampNeg = -4 then -11 else if 0 ≤ i.toInt ∧ i.toInt < (flg (nI kk).toNatClampNeg).toInt then 1 else -12) else -1 := by
        rw [nI_clamp (by (have t_b4 := b4; have t_hkk := hkk; have t_c5 := eqI c5; have : ((-4) : Int32).toInt = -4 := qI_m4; have tnb_ := nib6 tn2156_ tn2157_ tn2158_ tn2159_ tn2160_ tn2161_; omega)), if_pos (by (have t_b4 := b4; have t_hkk := hkk; have t_c5 := eqI c5; have : ((-4) : Int32).toInt = -4 := qI_m4; have tnb_ := nib6 tn2156_ tn2157_ tn2158_ tn2159_ tn2160_ tn2161_; omega)), if_pos (by first | with_reducible assumption | assumption)]
      obtain ⟨hP9, hD9⟩ := va_sub2 (ws' := [(h0, .inr (11, [.ref st, .int (nI N), .int (nI B), .ref rp, .int vrs, .int vrb, .int vhs, .int vca, .int vxs, .int vxb, .ref tp, .int (nI T), .int vfa, .int vbr, .int vba, .int vsp, .int vhe, .int vtk, .int vva, .ref cu, .ref lt, .ref od, .ref th, .ref be, .ref ln, .int (nI S), .ref ma, .int (nI M), .ref ah, .ref bh, .ref ik, .ref la, .ref lg, .ref ce, .int vto])), (la, .inl (G 0, 4, .inl fla)), (lg, .inl (G 0, 4, .inl flg)), (ce, .inl (G 0, 160, .inl fce))]) hP hD [0, 1, 2, 3] (by decide +kernel) rfl
      refine W.widen (k := 0) (n := 0) (Nat.le_of_ble_eq_true rfl) (Nat.le_of_ble_eq_true rfl) ?_
      exact W.iret (v := (-11)) hx hb hr (fun t ht hW => ⟨⟨(-11), fce, rfl, ⟨hpost, (by clear hpost; have t_b4 := b4; have t_hkk := hkk; have t_c5 := eqI c5; have : ((-4) : Int32).toInt = -4 := qI_m4; have tnb_ := nib6 tn2156_ tn2157_ tn2158_ tn2159_ tn2160_ tn2161_; have tqz_ := qz46_; have z4 : (-4 : Int32).toInt = -4 := (by decide); have z10 : (10 : Int32).toInt = 10 := qI_10; first | (rw [if_neg (fun h9 => by have h8 := h9.1; omega)]; done) | (rw [nI_clamp (by omega), if_neg (fun h9 => h9.2.1 (by first | with_reducible assumption | assumption))]; done) | (have hzk := hz kk (by omega); have e9 := im1 (x := flg kk) hzk.1 hzk.2; rw [nI_clamp (by omega), if_neg (fun h9 => by have h8 := h9.2.2; omega)]; done))⟩, ⟨by rw [ht]; exact hP9, hD9⟩⟩, hS.F ht⟩) hS.2.2 dX11_lay_27
  · skip
    have b13 := if10_n c3
    refine lv_iconst (v := (-1)) hx hb dX11_lay_12 rfl ?_
    have hpost : ((-1) : Int32) = if 0 ≤ k.toInt ∧ k.toInt < 4 then (if fla k.toNatClampNeg = -4 then -11 else if 0 ≤ i.toInt ∧ i.toInt < (flg k.toNatClampNeg).toInt then 1 else -12) else -1 := by
      have t_b13 := b13
      have t_n0 : (nI N).toInt = (N : Int) := tn2156_ ()
      have t_n1 : (nI B).toInt = (B : Int) := tn2157_ ()
      have t_n2 : (nI T).toInt = (T : Int) := tn2158_ ()
      have t_n3 : (nI S).toInt = (S : Int) := tn2159_ ()
      have t_n4 : (nI M).toInt = (M : Int) := tn2160_ ()
      rw [if_neg (by omega)]
    obtain ⟨hP9, hD9⟩ := va_sub2 (ws' := [(h0, .inr (11, [.ref st, .int (nI N), .int (nI B), .ref rp, .int vrs, .int vrb, .int vhs, .int vca, .int vxs, .int vxb, .ref tp, .int (nI T), .int vfa, .int vbr, .int vba, .int vsp, .int vhe, .int vtk, .int vva, .ref cu, .ref lt, .ref od, .ref th, .ref be, .ref ln, .int (nI S), .ref ma, .int (nI M), .ref ah, .ref bh, .ref ik, .ref la, .ref lg, .ref ce, .int vto])), (la, .inl (G 0, 4, .inl fla)), (lg, .inl (G 0, 4, .inl flg)), (ce, .inl (G 0, 160, .inl fce))]) hP hD [0, 1, 2, 3] (by decide +kernel) rfl
    refine W.widen (k := 0) (n := 0) (Nat.le_of_ble_eq_true rfl) (Nat.le_of_ble_eq_true rfl) ?_
    exact W.iret (v := (-1)) hx hb hr (fun t ht hW => ⟨⟨(-1), fce, rfl, ⟨hpost, (by clear hpost; have t_b13 := b13; have tnb_ := nib5 tn2156_ tn2157_ tn2158_ tn2159_ tn2160_; have tqz_ := qz46_; have z4 : (-4 : Int32).toInt = -4 := (by decide); have z10 : (10 : Int32).toInt = 10 := qI_10; first | (rw [if_neg (fun h9 => by have h8 := h9.1; omega)]; done) | (rw [nI_clamp (by omega), if_neg (fun h9 => h9.2.1 (by first | with_reducible assumption | assumption))]; done) | (have hzk := hz kk (by omega); have e9 := im1 (x := flg kk) hzk.1 hzk.2; rw [nI_clamp (by omega), if_neg (fun h9 => by have h8 := h9.2.2; omega)]; done))⟩, ⟨by rw [ht]; exact hP9, hD9⟩⟩, hS.F ht⟩) hS.2.2 dX11_lay_13

set_option maxHeartbeats 1000000 in
set_option maxRecDepth 100000 in
theorem c_X10_layE (l : Launch) (dC : Nat → ClassId) (dI : Nat → Nat → Nat) (G : Nat → ClassId) (sz : Nat) (h0 rd wy tr im kp od ch cr le mk tl sh la si ce fi se : Nat) (tf rf k i v x8 x9 : Int32) (fl fz : Nat → Int32) (rc : Nat → Nat) (F : Nat → Nat → Int32) (hz : ∀ q : Nat, q < 4 → 0 ≤ (fz q).toInt ∧ (fz q).toInt ≤ 40) : Met l yX10_lay (Cond.code yX10_lay cX10_lay 5 (some .int) :: GT) ({ frames := 2, cells := 0, slots := 0, locals := 46 } : Room) (PcW [.ref h0, .int k, .int i, .int v] dC dI G (([(h0, .inr (10, [.ref rd, .ref wy, .ref tr, .ref im, .ref kp, .ref od, .ref ch, .ref cr, .ref le, .ref mk, .ref tl, .ref sh, .int tf, .int rf])), (sh, .inr (6, [.ref la, .ref si, .ref ce, .int x8, .int x9, .ref fi, .ref se])), (la, .inl (G 0, 4, .inl fl)), (si, .inl (G 0, 4, .inl fz)), (ce, .inl (G 4, 4, .inr (.inr (.inr (.inr (fun ir => if ir < 4 then some (rc ir) else none))))))] : va_W) ++ ((((List.range 4).map (fun iq => (rc iq, .inl (G 0, 40, .inl (F iq))))) : va_W) ++ [])) sz) (va_Qi (fun (r : Int32) (u : (Nat → Nat → Int32)) => match u with | u0 => (r = if 0 ≤ k.toInt ∧ k.toInt < 4 then (if fl k.toNatClampNeg = -1 then -11 else if 0 ≤ i.toInt ∧ i.toInt < (fz k.toNatClampNeg).toInt then 1 else -12) else -1) ∧ u0 = (if ((0 ≤ k.toInt ∧ k.toInt < 4) ∧ ¬ fl k.toNatClampNeg = -1 ∧ 0 ≤ i.toInt ∧ i.toInt < (fz k.toNatClampNeg).toInt) then va_up F k.toNatClampNeg (upd (F k.toNatClampNeg) i.toNatClampNeg (nrw (fl k.toNatClampNeg) v)) else F)) (fun (u : (Nat → Nat → Int32)) (t : State) => match u with | u0 => va_P (dC, dI) vwCl (([(h0, .inr (10, [.ref rd, .ref wy, .ref tr, .ref im, .ref kp, .ref od, .ref ch, .ref cr, .ref le, .ref mk, .ref tl, .ref sh, .int tf, .int rf])), (sh, .inr (6, [.ref la, .ref si, .ref ce, .int x8, .int x9, .ref fi, .ref se])), (la, .inl (G 0, 4, .inl fl)), (si, .inl (G 0, 4, .inl fz)), (ce, .inl (G 4, 4, .inr (.inr (.inr (.inr (fun ir => if ir < 4 then some (rc ir) else none))))))] : va_W) ++ ((((List.range 4).map (fun iq => (rc iq, .inl (G 0, 40, .inl (u0 iq))))) : va_W) ++ [])) t.heap ∧ va_D (va_A (([(h0, .inr (10, [.ref rd, .ref wy, .ref tr, .ref im, .ref kp, .ref od, .ref ch, .ref cr, .ref le, .ref mk, .ref tl, .ref sh, .int tf, .int rf])), (sh, .inr (6, [.ref la, .ref si, .ref ce, .int x8, .int x9, .ref fi, .ref se])), (la, .inl (G 0, 4, .inl fl)), (si, .inl (G 0, 4, .inl fz)), (ce, .inl (G 4, 4, .inr (.inr (.inr (.inr (fun ir => if ir < 4 then some (rc ir) else none))))))] : va_W) ++ ((((List.range 4).map (fun iq => (rc iq, .inl (G 0, 40, .inl (F iq))))) : va_W) ++ [])) sz) (([(h0, .inr (10, [.ref rd, .ref wy, .ref tr, .ref im, .ref kp, .ref od, .ref ch, .ref cr, .ref le, .ref mk, .ref tl, .ref sh, .int tf, .int rf])), (sh, .inr (6, [.ref la, .ref si, .ref ce, .int x8, .int x9, .ref fi, .ref se])), (la, .inl (G 0, 4, .inl fl)), (si, .inl (G 0, 4, .inl fz)), (ce, .inl (G 4, 4, .inr (.inr (.inr (.inr (fun ir => if ir < 4 then some (rc ir) else none))))))] : va_W) ++ ((((List.range 4).map (fun iq => (rc iq, .inl (G 0, 40, .inl (u0 iq))))) : va_W) ++ []))) (va_A (([(h0, .inr (10, [.ref rd, .ref wy, .ref tr, .ref im, .ref kp, .ref od, .ref ch, .ref cr, .ref le, .ref mk, .ref tl, .ref sh, .int tf, .int rf])), (sh, .inr (6, [.ref la, .ref si, .ref ce, .int x8, .int x9, .ref fi, .ref se])), (la, .inl (G 0, 4, .inl fl)), (si, .inl (G 0, 4, .inl fz)), (ce, .inl (G 4, 4, .inr (.inr (.inr (.inr (fun ir => if ir < 4 then some (rc ir) else none))))))] : va_W) ++ ((((List.range 4).map (fun iq => (rc iq, .inl (G 0, 40, .inl (F iq))))) : va_W) ++ [])) sz)) 0 0 (va_A (([(h0, .inr (10, [.ref rd, .ref wy, .ref tr, .ref im, .ref kp, .ref od, .ref ch, .ref cr, .ref le, .ref mk, .ref tl, .ref sh, .int tf, .int rf])), (sh, .inr (6, [.ref la, .ref si, .ref ce, .int x8, .int x9, .ref fi, .ref se])), (la, .inl (G 0, 4, .inl fl)), (si, .inl (G 0, 4, .inl fz)), (ce, .inl (G 4, 4, .inr (.inr (.inr (.inr (fun ir => if ir < 4 then some (rc ir) else none))))))] : va_W) ++ ((((List.range 4).map (fun iq => (rc iq, .inl (G 0, 40, .inl (F iq))))) : va_W) ++ [])) sz) := by
  refine Met.ofW (cc := cX10_lay) (maxL := 5) (ret := (some .int)) (by decide) rfl ?_
  intro p e s m args below meth c s₁ Bd hml hv
  obtain ⟨rfl, hsz, hP, hK, hD0⟩ := hv
  have hx := Bd.exec
  have hb := Bd.bytes
  have hr := Bd.returns
  have hg : ∀ w ∈ GT, w.before ([.ref h0, .int k, .int i, .int v] : List Value).toArray s = true := fun w h => atoms_spec (ws := Cond.code yX10_lay cX10_lay 5 (some .int) :: GT) Bd.pre w (List.mem_cons_of_mem _ h)
  have hown : s.vm.findClass RX10 = some m.cls := findClass_of_methodNamed Bd.named
  have hlocks := Bd.notSynchronized
  subst hsz
  have hD := hD0.self (sz := s.heap.size)
  generalize hAe : va_A (([(h0, .inr (10, [.ref rd, .ref wy, .ref tr, .ref im, .ref kp, .ref od, .ref ch, .ref cr, .ref le, .ref mk, .ref tl, .ref sh, .int tf, .int rf])), (sh, .inr (6, [.ref la, .ref si, .ref ce, .int x8, .int x9, .ref fi, .ref se])), (la, .inl (G 0, 4, .inl fl)), (si, .inl (G 0, 4, .inl fz)), (ce, .inl (G 4, 4, .inr (.inr (.inr (.inr (fun ir => if ir < 4 then some (rc ir) else none))))))] : va_W) ++ ((((List.range 4).map (fun iq => (rc iq, .inl (G 0, 40, .inl (F iq))))) : va_W) ++ [])) s.heap.size = A at hD ⊢
  have hA : ∀ q : Nat, s.heap.size ≤ q → A q := fun q h => by rw [← hAe]; exact Or.inr h
  have hS : va_S A s.heap s.heap [] := va_S.rf
  have hl := lv_entry ([.ref h0, .int k, .int i, .int v]) (n := 5) (Nat.le_of_ble_eq_true rfl)
  rw [lg_entry_eq]
  generalize (lg_sl ([.ref h0, .int k, .int i, .int v]) ++ List.replicate (5 - (lg_sl ([.ref h0, .int k, .int i, .int v])).length) Slot.unset).toArray = ls at hl ⊢
  have hl : lv_has ls 5 [(0, .ref h0), (1, .int k), (2, .int i), (3, .int v)] := hl
  refine lv_iload_n hx hb dX10_lay_0 rfl (lv_at hl 1 rfl) ?_
  have hPc := hP.sub (ws' := []) [] rfl
  refine va_calli (va_runSN (As := [.int k]) (rest := []) ⟨hx, hb, hml, hown, hg⟩ (c_X6_isSheet l dC dI G _ k) (kwSN hg hK mfX6_isSheet wn_823 ⟨Nat.le_of_ble_eq_true rfl, Nat.le_of_ble_eq_true rfl⟩) (preSR hK hPc) rfl rfl hl.1 rfl (lv_room (Nat.le_of_ble_eq_true rfl)) dX10_lay_1 ⟨Nat.le_of_ble_eq_true rfl, Nat.le_of_ble_eq_true rfl⟩) hS (fun q h1 h2 => absurd h2 (Nat.not_le.mpr h1)) (fun q h => hA q (Nat.le_trans hS.1 h)) (fun r1 ur1 t H1 locs ht hvm w2 hB hz1 hk1 hS => ?_)
  have hP := keepR hP hk1
  obtain ⟨w2, w2x⟩ := w2
  try simp only [l_ii, show (0 : Int32).toInt = 0 from by decide, show (4 : Int32).toInt = 4 from by decide] at w2
  subst w2
  refine lv_if_ne (tgt := 9) hx hb dX10_lay_4 rfl (fun c3 => ?_) (fun c3 => ?_)
  · skip
    have b4 := if10_p c3
    obtain ⟨kk, hkk, rfl⟩ : ∃ j : Nat, j < 4 ∧ k = nI j := by
      have t_b4 := b4
      exact i32_nat (by omega) (by omega)
    refine lv_aload_n hx hb dX10_lay_9 rfl (lv_at hl 0 rfl) ?_
    refine va_get (D := (dC, dI)) (ci := 10) (v := .ref sh) (C := RX10) (T := TX10) (N := 14) hx hb hg inG10 hown hK.1 hP 0 rfl rfl 11 (Nat.le_of_ble_eq_true rfl) (hg _ wt_313) (fun _ h9 => h9) rfl dX10_lay_10 ?_
    refine lv_iload_n hx hb dX10_lay_13 rfl (lv_at hl 1 rfl) ?_
    refine lv_iload_n hx hb dX10_lay_14 rfl (lv_at hl 2 rfl) ?_
    refine lv_i2l (v := i.toInt64) hx hb dX10_lay_15 rfl ?_
    have hPc := hP.sub (ws' := [(sh, .inr (6, [.ref la, .ref si, .ref ce, .int x8, .int x9, .ref fi, .ref se])), (la, .inl (G 0, 4, .inl fl)), (si, .inl (G 0, 4, .inl fz))]) [1, 2, 3] rfl
    have tn2163_ : nIT kk := fun _ => nI_toInt (by first | omega | (have t_b4 := b4; have t_hkk := hkk; omega))
    refine va_calli (va_runVN (As := [.int (nI kk), .long i.toInt64]) (rest := []) ⟨hx, hb, hml, hown, hg⟩ (c_X6_faultAt l dC dI G _ sh la si ce fi se kk x8 x9 i.toInt64 fl fz (by first | omega | (have t_b4 := b4; have t_hkk := hkk; have t_n0 : (nI kk).toInt = (kk : Int) := tn2163_ (); omega))) (kwVN hg hK mfX6_faultAt wn_838 ⟨Nat.le_of_ble_eq_true rfl, Nat.le_of_ble_eq_true rfl⟩) (preVR hK hPc (ci := 6) (r := (RX6, TX6, 7)) rfl rfl) rfl rfl hl.1 rfl (lv_room (Nat.le_of_ble_eq_true rfl)) dX10_lay_16 ⟨Nat.le_of_ble_eq_true rfl, Nat.le_of_ble_eq_true rfl⟩) hS (fun q h1 h2 => absurd h2 (Nat.not_le.mpr h1)) (fun q h => hA q (Nat.le_trans hS.1 h)) (fun r5 ur5 t H1 locs ht hvm w6 hB hz1 hk1 hS => ?_)
    have hP := keepR hP hk1
    obtain ⟨w6, w6x⟩ := w6
    refine lv_istore (lv' := [(4, .int r5), (0, .ref h0), (1, .int (nI kk)), (2, .int i), (3, .int v)]) hx hb dX10_lay_19 hl (by decide) rfl (fun ls hl => ?_)
    refine lv_iload hx hb dX10_lay_21 (lv_at hl 0 rfl) ?_
    refine lv_if_eq (tgt := 32) hx hb dX10_lay_23 rfl (fun c7 => ?_) (fun c7 => ?_)
    · skip
      have b8 := fz0 w6 c7
      refine lv_aload_n hx hb dX10_lay_32 rfl (lv_at hl 1 rfl) ?_
      refine va_get (D := (dC, dI)) (ci := 10) (v := .ref sh) (C := RX10) (T := TX10) (N := 14) hx hb hg inG10 hown hK.1 hP 0 rfl rfl 11 (Nat.le_of_ble_eq_true rfl) (hg _ wt_313) (fun _ h9 => h9) rfl dX10_lay_33 ?_
      refine lv_iload_n hx hb dX10_lay_36 rfl (lv_at hl 2 rfl) ?_
      refine lv_iload_n hx hb dX10_lay_37 rfl (lv_at hl 3 rfl) ?_
      refine lv_iload_n hx hb dX10_lay_38 rfl (lv_at hl 4 rfl) ?_
      obtain ⟨hPc, hDc, hFc⟩ := va_sub3 (ws' := (([(sh, .inr (6, [.ref la, .ref si, .ref ce, .int x8, .int x9, .ref fi, .ref se])), (la, .inl (G 0, 4, .inl fl)), (si, .inl (G 0, 4, .inl fz)), (ce, .inl (G 4, 4, .inr (.inr (.inr (.inr (fun ir => if ir < 4 then some (rc ir) else none))))))] : va_W) ++ ((((List.range 4).map (fun iq => (rc iq, .inl (G 0, 40, .inl (F iq))))) : va_W) ++ []))) hP hD hS hA [1, 2, 3, 4, 5, 6, 7, 8] (by decide +kernel) rfl
      refine va_callv (va_runVN (As := [.int (nI kk), .int i, .int v]) (rest := []) ⟨hx, hb, hml, hown, hg⟩ (c_X6_fillE l dC dI G _ sh la si ce fi se kk x8 x9 i v fl fz rc F (by omega) hz) (kwVN hg hK mfX6_fill wn_842 ⟨Nat.le_of_ble_eq_true rfl, Nat.le_of_ble_eq_true rfl⟩) (preVW hK hPc hDc (ci := 6) (r := (RX6, TX6, 7)) rfl rfl) rfl rfl hl.1 rfl (lv_room (Nat.le_of_ble_eq_true rfl)) dX10_lay_39 ⟨Nat.le_of_ble_eq_true rfl, Nat.le_of_ble_eq_true rfl⟩) hS (fun q _ h => hFc q h) hFc (fun ur9 t H1 locs ht hvm w10 hB hz1 hk1 hS => ?_)
      obtain ⟨u11, rfl⟩ : ∃ z, z = ur9 := ⟨_, rfl⟩
      obtain ⟨hP1, hD1⟩ := hB
      rw [ht] at hP1
      obtain ⟨hP, hD⟩ := va_join (wr := [(h0, .inr (10, [.ref rd, .ref wy, .ref tr, .ref im, .ref kp, .ref od, .ref ch, .ref cr, .ref le, .ref mk, .ref tl, .ref sh, .int tf, .int rf]))]) (w1 := (([(sh, .inr (6, [.ref la, .ref si, .ref ce, .int x8, .int x9, .ref fi, .ref se])), (la, .inl (G 0, 4, .inl fl)), (si, .inl (G 0, 4, .inl fz)), (ce, .inl (G 4, 4, .inr (.inr (.inr (.inr (fun ir => if ir < 4 then some (rc ir) else none))))))] : va_W) ++ ((((List.range 4).map (fun iq => (rc iq, .inl (G 0, 40, .inl (u11 iq))))) : va_W) ++ []))) hP hD [1, 2, 3, 4, 5, 6, 7, 8] [0] rfl rfl (by decide +kernel) (by decide +kernel) hk1 hFc hP1 hD1
      have w10 : u11 = (if (¬ fl kk = -1 ∧ 0 ≤ i.toInt ∧ i.toInt < (fz kk).toInt) then va_up F kk (upd (F kk) i.toNatClampNeg (nrw (fl kk) v)) else F) := w10
      generalize H1 = H at hP hS ⊢
      refine lv_iconst (v := 1) hx hb dX10_lay_42 rfl ?_
      have hpost : (1 : Int32) = if 0 ≤ (nI kk).toInt ∧ (nI kk).toInt < 4 then (if fl (nI kk).toNatClampNeg = -1 then -11 else if 0 ≤ i.toInt ∧ i.toInt < (fz (nI kk).toNatClampNeg).toInt then 1 else -12) else -1 := by
        have t_b4 := b4
        have t_hkk := hkk
        have t_b8 := b8
        have t_n0 : (nI kk).toInt = (kk : Int) := tn2163_ ()
        rw [nI_clamp (by omega), if_pos (by omega)]
        have q9 := w6
        simp only [l_ii] at q9
        have c9 : r5 = 0 := by assumption
        rw [c9] at q9
        split at q9
        · exact absurd q9 (by decide)
        · rename_i d; rw [if_neg d]; split at q9
          · exact absurd q9 (by decide)
          · rename_i g; rw [if_pos (by omega)]
      obtain ⟨hP9, hD9⟩ := va_sub2 (ws' := (([(h0, .inr (10, [.ref rd, .ref wy, .ref tr, .ref im, .ref kp, .ref od, .ref ch, .ref cr, .ref le, .ref mk, .ref tl, .ref sh, .int tf, .int rf])), (sh, .inr (6, [.ref la, .ref si, .ref ce, .int x8, .int x9, .ref fi, .ref se])), (la, .inl (G 0, 4, .inl fl)), (si, .inl (G 0, 4, .inl fz)), (ce, .inl (G 4, 4, .inr (.inr (.inr (.inr (fun ir => if ir < 4 then some (rc ir) else none))))))] : va_W) ++ ((((List.range 4).map (fun iq => (rc iq, .inl (G 0, 40, .inl (u11 iq))))) : va_W) ++ []))) hP hD [0, 1, 2, 3, 4, 5, 6, 7, 8] (by decide +kernel) rfl
      refine W.widen (k := 0) (n := 0) (Nat.le_of_ble_eq_true rfl) (Nat.le_of_ble_eq_true rfl) ?_
      exact W.iret (v := 1) hx hb hr (fun t ht hW => ⟨⟨1, u11, rfl, ⟨hpost, (by clear hpost; have t_b4 := b4; have t_hkk := hkk; have t_b8 := b8; have t_n0 : (nI kk).toInt = (kk : Int) := tn2163_ (); have tqz_ := qz46_; have z4 : (-4 : Int32).toInt = -4 := (by decide); have z10 : (10 : Int32).toInt = 10 := qI_10; have e64 := l_ii i; have q9 := fa0 w6 (by first | with_reducible assumption | assumption); rw [e64] at q9; have q8 := w10; rw [if_pos q9] at q8; rw [nI_clamp (by omega), if_pos ⟨by omega, q9⟩]; exact q8)⟩, ⟨by rw [ht]; exact hP9, hD9⟩⟩, hS.F ht⟩) hS.2.2 dX10_lay_43
    · skip
      refine lv_bipush (v := (-10)) hx hb dX10_lay_26 rfl ?_
      refine lv_iload hx hb dX10_lay_28 (lv_at hl 0 rfl) ?_
      refine lv_isub hx hb dX10_lay_30 ?_
      have hpost : ((-10) - r5 : Int32) = if 0 ≤ (nI kk).toInt ∧ (nI kk).toInt < 4 then (if fl (nI kk).toNatClampNeg = -1 then -11 else if 0 ≤ i.toInt ∧ i.toInt < (fz (nI kk).toNatClampNeg).toInt then 1 else -12) else -1 := by
        have t_b4 := b4
        have t_hkk := hkk
        have t_c7 := neI c7
        have : (0 : Int32).toInt = 0 := qI_0
        have t_n0 : (nI kk).toInt = (kk : Int) := tn2163_ ()
        rw [nI_clamp (by omega), if_pos (by omega)]
        have q9 := w6
        simp only [l_ii] at q9
        split at q9
        · rename_i d; rw [q9, if_pos d]; decide
        · rename_i d; rw [if_neg d]; split at q9
          · rename_i g; rw [q9, if_neg (by omega)]; decide
          · exact absurd q9 (by first | with_reducible assumption | assumption)
      obtain ⟨hP9, hD9⟩ := va_sub2 (ws' := (([(h0, .inr (10, [.ref rd, .ref wy, .ref tr, .ref im, .ref kp, .ref od, .ref ch, .ref cr, .ref le, .ref mk, .ref tl, .ref sh, .int tf, .int rf])), (sh, .inr (6, [.ref la, .ref si, .ref ce, .int x8, .int x9, .ref fi, .ref se])), (la, .inl (G 0, 4, .inl fl)), (si, .inl (G 0, 4, .inl fz)), (ce, .inl (G 4, 4, .inr (.inr (.inr (.inr (fun ir => if ir < 4 then some (rc ir) else none))))))] : va_W) ++ ((((List.range 4).map (fun iq => (rc iq, .inl (G 0, 40, .inl (F iq))))) : va_W) ++ []))) hP hD [0, 1, 2, 3, 4, 5, 6, 7, 8] (by decide +kernel) rfl
      refine W.widen (k := 0) (n := 0) (Nat.le_of_ble_eq_true rfl) (Nat.le_of_ble_eq_true rfl) ?_
      exact W.iret (v := (-10) - r5) hx hb hr (fun t ht hW => ⟨⟨(-10) - r5, F, rfl, ⟨hpost, (by clear hpost; have t_b4 := b4; have t_hkk := hkk; have t_c7 := neI c7; have : (0 : Int32).toInt = 0 := qI_0; have t_n0 : (nI kk).toInt = (kk : Int) := tn2163_ (); have tqz_ := qz46_; have z4 : (-4 : Int32).toInt = -4 := (by decide); have z10 : (10 : Int32).toInt = 10 := qI_10; have e64 := l_ii i; have q9 := faN w6 (by first | with_reducible assumption | assumption); rw [e64] at q9; rw [nI_clamp (by omega), if_neg (fun h9 => q9 h9.2)])⟩, ⟨by rw [ht]; exact hP9, hD9⟩⟩, hS.F ht⟩) hS.2.2 dX10_lay_31
  · skip
    have b12 := if10_n c3
    refine lv_iconst (v := (-1)) hx hb dX10_lay_7 rfl ?_
    have hpost : ((-1) : Int32) = if 0 ≤ k.toInt ∧ k.toInt < 4 then (if fl k.toNatClampNeg = -1 then -11 else if 0 ≤ i.toInt ∧ i.toInt < (fz k.toNatClampNeg).toInt then 1 else -12) else -1 := by
      have t_b12 := b12
      rw [if_neg (by omega)]
    obtain ⟨hP9, hD9⟩ := va_sub2 (ws' := (([(h0, .inr (10, [.ref rd, .ref wy, .ref tr, .ref im, .ref kp, .ref od, .ref ch, .ref cr, .ref le, .ref mk, .ref tl, .ref sh, .int tf, .int rf])), (sh, .inr (6, [.ref la, .ref si, .ref ce, .int x8, .int x9, .ref fi, .ref se])), (la, .inl (G 0, 4, .inl fl)), (si, .inl (G 0, 4, .inl fz)), (ce, .inl (G 4, 4, .inr (.inr (.inr (.inr (fun ir => if ir < 4 then some (rc ir) else none))))))] : va_W) ++ ((((List.range 4).map (fun iq => (rc iq, .inl (G 0, 40, .inl (F iq))))) : va_W) ++ []))) hP hD [0, 1, 2, 3, 4, 5, 6, 7, 8] (by decide +kernel) rfl
    refine W.widen (k := 0) (n := 0) (Nat.le_of_ble_eq_true rfl) (Nat.le_of_ble_eq_true rfl) ?_
    exact W.iret (v := (-1)) hx hb hr (fun t ht hW => ⟨⟨(-1), F, rfl, ⟨hpost, (by clear hpost; have t_b12 := b12; have tqz_ := qz46_; have z4 : (-4 : Int32).toInt = -4 := (by decide); have z10 : (10 : Int32).toInt = 10 := qI_10; have e64 := l_ii i; rw [if_neg (fun h9 => by have h8 := h9.1; omega)])⟩, ⟨by rw [ht]; exact hP9, hD9⟩⟩, hS.F ht⟩) hS.2.2 dX10_lay_8

set_option maxHeartbeats 1000000 in
set_option maxRecDepth 100000 in
theorem c_X10_sheetE (l : Launch) (dC : Nat → ClassId) (dI : Nat → Nat → Nat) (G : Nat → ClassId) (sz : Nat) (h0 rd wy tr im kp od ch cr le mk tl sh la si ce fi se : Nat) (tf rf k lane n x8 x9 : Int32) (fl fz : Nat → Int32) (rc : Nat → Nat) (F : Nat → Nat → Int32) (hz : ∀ q : Nat, q < 4 → 0 ≤ (fz q).toInt ∧ (fz q).toInt ≤ 40) : Met l yX10_sheet (Cond.code yX10_sheet cX10_sheet 4 (some .int) :: GT) ({ frames := 2, cells := 0, slots := 0, locals := 44 } : Room) (PcW [.ref h0, .int k, .int lane, .int n] dC dI G (([(h0, .inr (10, [.ref rd, .ref wy, .ref tr, .ref im, .ref kp, .ref od, .ref ch, .ref cr, .ref le, .ref mk, .ref tl, .ref sh, .int tf, .int rf])), (sh, .inr (6, [.ref la, .ref si, .ref ce, .int x8, .int x9, .ref fi, .ref se])), (la, .inl (G 0, 4, .inl fl)), (si, .inl (G 0, 4, .inl fz)), (ce, .inl (G 4, 4, .inr (.inr (.inr (.inr (fun ir => if ir < 4 then some (rc ir) else none))))))] : va_W) ++ ((((List.range 4).map (fun iq => (rc iq, .inl (G 0, 40, .inl (F iq))))) : va_W) ++ [])) sz) (va_Qi (fun (r : Int32) (u : (Nat → Int32) × (Nat → Int32) × (Nat → Nat → Int32)) => match u with | (u0, u1, u2) => (r = if (0 ≤ k.toInt ∧ k.toInt < 4) ∧ (0 ≤ lane.toInt ∧ lane.toInt ≤ 2) ∧ n.toInt ≤ 40 then (if n.toInt < 0 then -14 else 1) else -1) ∧ ((u0 = (if ((0 ≤ k.toInt ∧ k.toInt < 4) ∧ (0 ≤ lane.toInt ∧ lane.toInt ≤ 2) ∧ n.toInt ≤ 40 ∧ 0 ≤ n.toInt) then upd fl k.toNatClampNeg lane else fl) ∧ u1 = (if ((0 ≤ k.toInt ∧ k.toInt < 4) ∧ (0 ≤ lane.toInt ∧ lane.toInt ≤ 2) ∧ n.toInt ≤ 40 ∧ 0 ≤ n.toInt) then upd fz k.toNatClampNeg n else fz)) ∧ ∀ q : Nat, q < 4 → 0 ≤ (u1 q).toInt ∧ (u1 q).toInt ≤ 40) ∧ u2 = (if ((0 ≤ k.toInt ∧ k.toInt < 4) ∧ (0 ≤ lane.toInt ∧ lane.toInt ≤ 2) ∧ n.toInt ≤ 40 ∧ 0 ≤ n.toInt) then va_up F k.toNatClampNeg (zpF n.toNatClampNeg (F k.toNatClampNeg)) else F)) (fun (u : (Nat → Int32) × (Nat → Int32) × (Nat → Nat → Int32)) (t : State) => match u with | (u0, u1, u2) => va_P (dC, dI) vwCl (([(h0, .inr (10, [.ref rd, .ref wy, .ref tr, .ref im, .ref kp, .ref od, .ref ch, .ref cr, .ref le, .ref mk, .ref tl, .ref sh, .int tf, .int rf])), (sh, .inr (6, [.ref la, .ref si, .ref ce, .int x8, .int x9, .ref fi, .ref se])), (la, .inl (G 0, 4, .inl u0)), (si, .inl (G 0, 4, .inl u1)), (ce, .inl (G 4, 4, .inr (.inr (.inr (.inr (fun ir => if ir < 4 then some (rc ir) else none))))))] : va_W) ++ ((((List.range 4).map (fun iq => (rc iq, .inl (G 0, 40, .inl (u2 iq))))) : va_W) ++ [])) t.heap ∧ va_D (va_A (([(h0, .inr (10, [.ref rd, .ref wy, .ref tr, .ref im, .ref kp, .ref od, .ref ch, .ref cr, .ref le, .ref mk, .ref tl, .ref sh, .int tf, .int rf])), (sh, .inr (6, [.ref la, .ref si, .ref ce, .int x8, .int x9, .ref fi, .ref se])), (la, .inl (G 0, 4, .inl fl)), (si, .inl (G 0, 4, .inl fz)), (ce, .inl (G 4, 4, .inr (.inr (.inr (.inr (fun ir => if ir < 4 then some (rc ir) else none))))))] : va_W) ++ ((((List.range 4).map (fun iq => (rc iq, .inl (G 0, 40, .inl (F iq))))) : va_W) ++ [])) sz) (([(h0, .inr (10, [.ref rd, .ref wy, .ref tr, .ref im, .ref kp, .ref od, .ref ch, .ref cr, .ref le, .ref mk, .ref tl, .ref sh, .int tf, .int rf])), (sh, .inr (6, [.ref la, .ref si, .ref ce, .int x8, .int x9, .ref fi, .ref se])), (la, .inl (G 0, 4, .inl u0)), (si, .inl (G 0, 4, .inl u1)), (ce, .inl (G 4, 4, .inr (.inr (.inr (.inr (fun ir => if ir < 4 then some (rc ir) else none))))))] : va_W) ++ ((((List.range 4).map (fun iq => (rc iq, .inl (G 0, 40, .inl (u2 iq))))) : va_W) ++ []))) (va_A (([(h0, .inr (10, [.ref rd, .ref wy, .ref tr, .ref im, .ref kp, .ref od, .ref ch, .ref cr, .ref le, .ref mk, .ref tl, .ref sh, .int tf, .int rf])), (sh, .inr (6, [.ref la, .ref si, .ref ce, .int x8, .int x9, .ref fi, .ref se])), (la, .inl (G 0, 4, .inl fl)), (si, .inl (G 0, 4, .inl fz)), (ce, .inl (G 4, 4, .inr (.inr (.inr (.inr (fun ir => if ir < 4 then some (rc ir) else none))))))] : va_W) ++ ((((List.range 4).map (fun iq => (rc iq, .inl (G 0, 40, .inl (F iq))))) : va_W) ++ [])) sz)) 0 0 (va_A (([(h0, .inr (10, [.ref rd, .ref wy, .ref tr, .ref im, .ref kp, .ref od, .ref ch, .ref cr, .ref le, .ref mk, .ref tl, .ref sh, .int tf, .int rf])), (sh, .inr (6, [.ref la, .ref si, .ref ce, .int x8, .int x9, .ref fi, .ref se])), (la, .inl (G 0, 4, .inl fl)), (si, .inl (G 0, 4, .inl fz)), (ce, .inl (G 4, 4, .inr (.inr (.inr (.inr (fun ir => if ir < 4 then some (rc ir) else none))))))] : va_W) ++ ((((List.range 4).map (fun iq => (rc iq, .inl (G 0, 40, .inl (F iq))))) : va_W) ++ [])) sz) := by
  refine Met.ofW (cc := cX10_sheet) (maxL := 4) (ret := (some .int)) (by decide) rfl ?_
  intro p e s m args below meth c s₁ Bd hml hv
  obtain ⟨rfl, hsz, hP, hK, hD0⟩ := hv
  have hx := Bd.exec
  have hb := Bd.bytes
  have hr := Bd.returns
  have hg : ∀ w ∈ GT, w.before ([.ref h0, .int k, .int lane, .int n] : List Value).toArray s = true := fun w h => atoms_spec (ws := Cond.code yX10_sheet cX10_sheet 4 (some .int) :: GT) Bd.pre w (List.mem_cons_of_mem _ h)
  have hown : s.vm.findClass RX10 = some m.cls := findClass_of_methodNamed Bd.named
  have hlocks := Bd.notSynchronized
  subst hsz
  have hD := hD0.self (sz := s.heap.size)
  generalize hAe : va_A (([(h0, .inr (10, [.ref rd, .ref wy, .ref tr, .ref im, .ref kp, .ref od, .ref ch, .ref cr, .ref le, .ref mk, .ref tl, .ref sh, .int tf, .int rf])), (sh, .inr (6, [.ref la, .ref si, .ref ce, .int x8, .int x9, .ref fi, .ref se])), (la, .inl (G 0, 4, .inl fl)), (si, .inl (G 0, 4, .inl fz)), (ce, .inl (G 4, 4, .inr (.inr (.inr (.inr (fun ir => if ir < 4 then some (rc ir) else none))))))] : va_W) ++ ((((List.range 4).map (fun iq => (rc iq, .inl (G 0, 40, .inl (F iq))))) : va_W) ++ [])) s.heap.size = A at hD ⊢
  have hA : ∀ q : Nat, s.heap.size ≤ q → A q := fun q h => by rw [← hAe]; exact Or.inr h
  have hS : va_S A s.heap s.heap [] := va_S.rf
  have hl := lv_entry ([.ref h0, .int k, .int lane, .int n]) (n := 4) (Nat.le_of_ble_eq_true rfl)
  rw [lg_entry_eq]
  generalize (lg_sl ([.ref h0, .int k, .int lane, .int n]) ++ List.replicate (4 - (lg_sl ([.ref h0, .int k, .int lane, .int n])).length) Slot.unset).toArray = ls at hl ⊢
  have hl : lv_has ls 4 [(0, .ref h0), (1, .int k), (2, .int lane), (3, .int n)] := hl
  refine lv_iload_n hx hb dX10_sheet_0 rfl (lv_at hl 1 rfl) ?_
  have hPc := hP.sub (ws' := []) [] rfl
  refine va_calli (va_runSN (As := [.int k]) (rest := []) ⟨hx, hb, hml, hown, hg⟩ (c_X6_isSheet l dC dI G _ k) (kwSN hg hK mfX6_isSheet wn_823 ⟨Nat.le_of_ble_eq_true rfl, Nat.le_of_ble_eq_true rfl⟩) (preSR hK hPc) rfl rfl hl.1 rfl (lv_room (Nat.le_of_ble_eq_true rfl)) dX10_sheet_1 ⟨Nat.le_of_ble_eq_true rfl, Nat.le_of_ble_eq_true rfl⟩) hS (fun q h1 h2 => absurd h2 (Nat.not_le.mpr h1)) (fun q h => hA q (Nat.le_trans hS.1 h)) (fun r1 ur1 t H1 locs ht hvm w2 hB hz1 hk1 hS => ?_)
  have hP := keepR hP hk1
  obtain ⟨w2, w2x⟩ := w2
  try simp only [l_ii, show (0 : Int32).toInt = 0 from by decide, show (4 : Int32).toInt = 4 from by decide] at w2
  subst w2
  refine lv_if_eq (tgt := 20) hx hb dX10_sheet_4 rfl (fun c3 => ?_) (fun c3 => ?_)
  · skip
    have b4 := if10_n c3
    refine lv_iconst (v := (-1)) hx hb dX10_sheet_20 rfl ?_
    have hpost : ((-1) : Int32) = if (0 ≤ k.toInt ∧ k.toInt < 4) ∧ (0 ≤ lane.toInt ∧ lane.toInt ≤ 2) ∧ n.toInt ≤ 40 then (if n.toInt < 0 then -14 else 1) else -1 := by
      have t_b4 := b4
      first | rfl | ((repeat' split) <;> first | rfl | omega)
    obtain ⟨hP9, hD9⟩ := va_sub2 (ws' := (([(h0, .inr (10, [.ref rd, .ref wy, .ref tr, .ref im, .ref kp, .ref od, .ref ch, .ref cr, .ref le, .ref mk, .ref tl, .ref sh, .int tf, .int rf])), (sh, .inr (6, [.ref la, .ref si, .ref ce, .int x8, .int x9, .ref fi, .ref se])), (la, .inl (G 0, 4, .inl fl)), (si, .inl (G 0, 4, .inl fz)), (ce, .inl (G 4, 4, .inr (.inr (.inr (.inr (fun ir => if ir < 4 then some (rc ir) else none))))))] : va_W) ++ ((((List.range 4).map (fun iq => (rc iq, .inl (G 0, 40, .inl (F iq))))) : va_W) ++ []))) hP hD [0, 1, 2, 3, 4, 5, 6, 7, 8] (by decide +kernel) rfl
    refine W.widen (k := 0) (n := 0) (Nat.le_of_ble_eq_true rfl) (Nat.le_of_ble_eq_true rfl) ?_
    exact W.iret (v := (-1)) hx hb hr (fun t ht hW => ⟨⟨(-1), (fl, fz, F), rfl, ⟨hpost, ⟨(by have t_b4 := b4; refine ⟨⟨?_, ?_⟩, hz⟩ <;> rw [if_neg (by omega)]), (by have t_b4 := b4; rw [if_neg (by omega)])⟩⟩, ⟨by rw [ht]; exact hP9, hD9⟩⟩, hS.F ht⟩) hS.2.2 dX10_sheet_21
  · skip
    have b5 := if10_p c3
    refine lv_iload_n hx hb dX10_sheet_7 rfl (lv_at hl 2 rfl) ?_
    have hPc := hP.sub (ws' := []) [] rfl
    refine va_calli (va_runSN (As := [.int lane]) (rest := []) ⟨hx, hb, hml, hown, hg⟩ (c_X6_isLane l dC dI G _ lane) (kwSN hg hK mfX6_isLane wn_826 ⟨Nat.le_of_ble_eq_true rfl, Nat.le_of_ble_eq_true rfl⟩) (preSR hK hPc) rfl rfl hl.1 rfl (lv_room (Nat.le_of_ble_eq_true rfl)) dX10_sheet_8 ⟨Nat.le_of_ble_eq_true rfl, Nat.le_of_ble_eq_true rfl⟩) hS (fun q h1 h2 => absurd h2 (Nat.not_le.mpr h1)) (fun q h => hA q (Nat.le_trans hS.1 h)) (fun r6 ur6 t H1 locs ht hvm w7 hB hz1 hk1 hS => ?_)
    have hP := keepR hP hk1
    obtain ⟨w7, w7x⟩ := w7
    try simp only [l_ii, show (0 : Int32).toInt = 0 from by decide, show (2 : Int32).toInt = 2 from by decide] at w7
    subst w7
    refine lv_if_eq (tgt := 20) hx hb dX10_sheet_11 rfl (fun c8 => ?_) (fun c8 => ?_)
    · skip
      have b9 := if10_n c8
      refine lv_iconst (v := (-1)) hx hb dX10_sheet_20 rfl ?_
      have hpost : ((-1) : Int32) = if (0 ≤ k.toInt ∧ k.toInt < 4) ∧ (0 ≤ lane.toInt ∧ lane.toInt ≤ 2) ∧ n.toInt ≤ 40 then (if n.toInt < 0 then -14 else 1) else -1 := by
        have t_b5 := b5
        have t_b9 := b9
        first | rfl | ((repeat' split) <;> first | rfl | omega)
      obtain ⟨hP9, hD9⟩ := va_sub2 (ws' := (([(h0, .inr (10, [.ref rd, .ref wy, .ref tr, .ref im, .ref kp, .ref od, .ref ch, .ref cr, .ref le, .ref mk, .ref tl, .ref sh, .int tf, .int rf])), (sh, .inr (6, [.ref la, .ref si, .ref ce, .int x8, .int x9, .ref fi, .ref se])), (la, .inl (G 0, 4, .inl fl)), (si, .inl (G 0, 4, .inl fz)), (ce, .inl (G 4, 4, .inr (.inr (.inr (.inr (fun ir => if ir < 4 then some (rc ir) else none))))))] : va_W) ++ ((((List.range 4).map (fun iq => (rc iq, .inl (G 0, 40, .inl (F iq))))) : va_W) ++ []))) hP hD [0, 1, 2, 3, 4, 5, 6, 7, 8] (by decide +kernel) rfl
      refine W.widen (k := 0) (n := 0) (Nat.le_of_ble_eq_true rfl) (Nat.le_of_ble_eq_true rfl) ?_
      exact W.iret (v := (-1)) hx hb hr (fun t ht hW => ⟨⟨(-1), (fl, fz, F), rfl, ⟨hpost, ⟨(by have t_b5 := b5; have t_b9 := b9; refine ⟨⟨?_, ?_⟩, hz⟩ <;> rw [if_neg (by omega)]), (by have t_b5 := b5; have t_b9 := b9; rw [if_neg (by omega)])⟩⟩, ⟨by rw [ht]; exact hP9, hD9⟩⟩, hS.F ht⟩) hS.2.2 dX10_sheet_21
    · skip
      have b10 := if10_p c8
      refine lv_iload_n hx hb dX10_sheet_14 rfl (lv_at hl 3 rfl) ?_
      refine lv_bipush (v := 40) hx hb dX10_sheet_15 rfl ?_
      refine lv_icmp_le (tgt := 22) hx hb dX10_sheet_17 rfl (fun c11 => ?_) (fun c11 => ?_)
      · skip
        refine lv_iload_n hx hb dX10_sheet_22 rfl (lv_at hl 3 rfl) ?_
        refine lv_if_ge (tgt := 29) hx hb dX10_sheet_23 rfl (fun c12 => ?_) (fun c12 => ?_)
        · skip
          obtain ⟨kk, hkk, rfl⟩ : ∃ j : Nat, j < 4 ∧ k = nI j := by
            have t_b5 := b5
            have t_b10 := b10
            have t_c11 := leI c11
            have t_c12 := leI c12
            have : (0 : Int32).toInt = 0 := qI_0
            have : (40 : Int32).toInt = 40 := qI_40
            exact i32_nat (by omega) (by omega)
          obtain ⟨nn, hnn, rfl⟩ : ∃ j : Nat, j < 41 ∧ n = nI j := by
            have t_b5 := b5
            have t_b10 := b10
            have t_c11 := leI c11
            have t_c12 := leI c12
            have t_hkk := hkk
            have : (0 : Int32).toInt = 0 := qI_0
            have : (40 : Int32).toInt = 40 := qI_40
            have tn2164_ : nIT kk := fun _ => nI_toInt (by omega)
            have t_n0 : (nI kk).toInt = (kk : Int) := tn2164_ ()
            exact i32_nat (by omega) (by omega)
          refine lv_aload_n hx hb dX10_sheet_29 rfl (lv_at hl 0 rfl) ?_
          refine va_get (D := (dC, dI)) (ci := 10) (v := .ref sh) (C := RX10) (T := TX10) (N := 14) hx hb hg inG10 hown hK.1 hP 0 rfl rfl 11 (Nat.le_of_ble_eq_true rfl) (hg _ wt_313) (fun _ h9 => h9) rfl dX10_sheet_30 ?_
          refine lv_iload_n hx hb dX10_sheet_33 rfl (lv_at hl 1 rfl) ?_
          refine lv_iload_n hx hb dX10_sheet_34 rfl (lv_at hl 2 rfl) ?_
          refine lv_iload_n hx hb dX10_sheet_35 rfl (lv_at hl 3 rfl) ?_
          obtain ⟨hPc, hDc, hFc⟩ := va_sub3 (ws' := (([(sh, .inr (6, [.ref la, .ref si, .ref ce, .int x8, .int x9, .ref fi, .ref se])), (la, .inl (G 0, 4, .inl fl)), (si, .inl (G 0, 4, .inl fz)), (ce, .inl (G 4, 4, .inr (.inr (.inr (.inr (fun ir => if ir < 4 then some (rc ir) else none))))))] : va_W) ++ ((((List.range 4).map (fun iq => (rc iq, .inl (G 0, 40, .inl (F iq))))) : va_W) ++ []))) hP hD hS hA [1, 2, 3, 4, 5, 6, 7, 8] (by decide +kernel) rfl
          have tn2165_ : nIT kk := fun _ => nI_toInt (by first | omega | (have t_b5 := b5; have t_b10 := b10; have t_c11 := leI c11; have t_c12 := leI c12; have t_hkk := hkk; have t_hnn := hnn; have tqz_ := qz11_; omega))
          have tn2166_ : nIT nn := fun _ => nI_toInt (by first | omega | (have t_b5 := b5; have t_b10 := b10; have t_c11 := leI c11; have t_c12 := leI c12; have t_hkk := hkk; have t_hnn := hnn; have tqz_ := qz11_; omega))
          refine va_callv (va_runVN (As := [.int (nI kk), .int lane, .int (nI nn)]) (rest := []) ⟨hx, hb, hml, hown, hg⟩ (c_X6_renewE l dC dI G _ sh la si ce fi se kk nn x8 x9 lane fl fz rc F (by first | omega | (have t_b5 := b5; have t_b10 := b10; have t_c11 := leI c11; have t_c12 := leI c12; have t_hkk := hkk; have t_hnn := hnn; have tqz_ := qz11_; have tnb_ := nib2 tn2165_ tn2166_; omega)) (by first | omega | (have t_b5 := b5; have t_b10 := b10; have t_c11 := leI c11; have t_c12 := leI c12; have t_hkk := hkk; have t_hnn := hnn; have tqz_ := qz11_; have tnb_ := nib2 tn2165_ tn2166_; omega))) (kwVN hg hK mfX6_renew wn_829 ⟨Nat.le_of_ble_eq_true rfl, Nat.le_of_ble_eq_true rfl⟩) (preVW hK hPc hDc (ci := 6) (r := (RX6, TX6, 7)) rfl rfl) rfl rfl hl.1 rfl (lv_room (Nat.le_of_ble_eq_true rfl)) dX10_sheet_36 ⟨Nat.le_of_ble_eq_true rfl, Nat.le_of_ble_eq_true rfl⟩) hS (fun q _ h => hFc q h) hFc (fun ur13 t H1 locs ht hvm w14 hB hz1 hk1 hS => ?_)
          obtain ⟨u15, u16, u17⟩ := ur13
          obtain ⟨hP1, hD1⟩ := hB
          rw [ht] at hP1
          obtain ⟨hP, hD⟩ := va_join (wr := [(h0, .inr (10, [.ref rd, .ref wy, .ref tr, .ref im, .ref kp, .ref od, .ref ch, .ref cr, .ref le, .ref mk, .ref tl, .ref sh, .int tf, .int rf]))]) (w1 := (([(sh, .inr (6, [.ref la, .ref si, .ref ce, .int x8, .int x9, .ref fi, .ref se])), (la, .inl (G 0, 4, .inl u16)), (si, .inl (G 0, 4, .inl u17)), (ce, .inl (G 4, 4, .inr (.inr (.inr (.inr (fun ir => if ir < 4 then some (rc ir) else none))))))] : va_W) ++ ((((List.range 4).map (fun iq => (rc iq, .inl (G 0, 40, .inl (u15 iq))))) : va_W) ++ []))) hP hD [1, 2, 3, 4, 5, 6, 7, 8] [0] rfl rfl (by decide +kernel) (by decide +kernel) hk1 hFc hP1 hD1
          have w14 : u16 = upd fl kk lane ∧ u17 = upd fz kk (nI nn) ∧ u15 = va_up F kk (zpF nn (F kk)) := w14
          generalize H1 = H at hP hS ⊢
          refine lv_iconst (v := 1) hx hb dX10_sheet_39 rfl ?_
          have hpost : (1 : Int32) = if (0 ≤ (nI kk).toInt ∧ (nI kk).toInt < 4) ∧ (0 ≤ lane.toInt ∧ lane.toInt ≤ 2) ∧ (nI nn).toInt ≤ 40 then (if (nI nn).toInt < 0 then -14 else 1) else -1 := by
            have t_b5 := b5
            have t_b10 := b10
            have t_c11 := leI c11
            have t_c12 := leI c12
            have t_hkk := hkk
            have t_hnn := hnn
            have : (0 : Int32).toInt = 0 := qI_0
            have : (40 : Int32).toInt = 40 := qI_40
            have t_n0 : (nI kk).toInt = (kk : Int) := tn2165_ ()
            have t_n1 : (nI nn).toInt = (nn : Int) := tn2166_ ()
            first | rfl | ((repeat' split) <;> first | rfl | omega)
          obtain ⟨hP9, hD9⟩ := va_sub2 (ws' := (([(h0, .inr (10, [.ref rd, .ref wy, .ref tr, .ref im, .ref kp, .ref od, .ref ch, .ref cr, .ref le, .ref mk, .ref tl, .ref sh, .int tf, .int rf])), (sh, .inr (6, [.ref la, .ref si, .ref ce, .int x8, .int x9, .ref fi, .ref se])), (la, .inl (G 0, 4, .inl u16)), (si, .inl (G 0, 4, .inl u17)), (ce, .inl (G 4, 4, .inr (.inr (.inr (.inr (fun ir => if ir < 4 then some (rc ir) else none))))))] : va_W) ++ ((((List.range 4).map (fun iq => (rc iq, .inl (G 0, 40, .inl (u15 iq))))) : va_W) ++ []))) hP hD [0, 1, 2, 3, 4, 5, 6, 7, 8] (by decide +kernel) rfl
          refine W.widen (k := 0) (n := 0) (Nat.le_of_ble_eq_true rfl) (Nat.le_of_ble_eq_true rfl) ?_
          exact W.iret (v := 1) hx hb hr (fun t ht hW => ⟨⟨1, (u16, u17, u15), rfl, ⟨hpost, ⟨(by have t_b5 := b5; have t_b10 := b10; have t_c11 := leI c11; have t_c12 := leI c12; have t_hkk := hkk; have t_hnn := hnn; have tqz_ := qz11_; have tnb_ := nib2 tn2165_ tn2166_; have q9 := w14; refine ⟨⟨?_, ?_⟩, q9.2.1 ▸ hz_upd hz (by omega)⟩; (rw [if_pos (by omega), nI_clamp (by omega)]; exact q9.1); (rw [if_pos (by omega), nI_clamp (by omega)]; exact q9.2.1)), (by have t_b5 := b5; have t_b10 := b10; have t_c11 := leI c11; have t_c12 := leI c12; have t_hkk := hkk; have t_hnn := hnn; have tqz_ := qz11_; have tnb_ := nib2 tn2165_ tn2166_; rw [if_pos (by omega), nI_clamp (by omega), nI_clamp (by omega)]; exact w14.2.2)⟩⟩, ⟨by rw [ht]; exact hP9, hD9⟩⟩, hS.F ht⟩) hS.2.2 dX10_sheet_40
        · skip
          refine lv_bipush (v := (-14)) hx hb dX10_sheet_26 rfl ?_
          have hpost : ((-14) : Int32) = if (0 ≤ k.toInt ∧ k.toInt < 4) ∧ (0 ≤ lane.toInt ∧ lane.toInt ≤ 2) ∧ n.toInt ≤ 40 then (if n.toInt < 0 then -14 else 1) else -1 := by
            have t_b5 := b5
            have t_b10 := b10
            have t_c11 := leI c11
            have t_c12 := nleI c12
            have : (0 : Int32).toInt = 0 := qI_0
            have : (40 : Int32).toInt = 40 := qI_40
            first | rfl | ((repeat' split) <;> first | rfl | omega)
          obtain ⟨hP9, hD9⟩ := va_sub2 (ws' := (([(h0, .inr (10, [.ref rd, .ref wy, .ref tr, .ref im, .ref kp, .ref od, .ref ch, .ref cr, .ref le, .ref mk, .ref tl, .ref sh, .int tf, .int rf])), (sh, .inr (6, [.ref la, .ref si, .ref ce, .int x8, .int x9, .ref fi, .ref se])), (la, .inl (G 0, 4, .inl fl)), (si, .inl (G 0, 4, .inl fz)), (ce, .inl (G 4, 4, .inr (.inr (.inr (.inr (fun ir => if ir < 4 then some (rc ir) else none))))))] : va_W) ++ ((((List.range 4).map (fun iq => (rc iq, .inl (G 0, 40, .inl (F iq))))) : va_W) ++ []))) hP hD [0, 1, 2, 3, 4, 5, 6, 7, 8] (by decide +kernel) rfl
          refine W.widen (k := 0) (n := 0) (Nat.le_of_ble_eq_true rfl) (Nat.le_of_ble_eq_true rfl) ?_
          exact W.iret (v := (-14)) hx hb hr (fun t ht hW => ⟨⟨(-14), (fl, fz, F), rfl, ⟨hpost, ⟨(by have t_b5 := b5; have t_b10 := b10; have t_c11 := leI c11; have t_c12 := nleI c12; have tqz_ := qz11_; refine ⟨⟨?_, ?_⟩, hz⟩ <;> rw [if_neg (by omega)]), (by have t_b5 := b5; have t_b10 := b10; have t_c11 := leI c11; have t_c12 := nleI c12; have tqz_ := qz11_; rw [if_neg (by omega)])⟩⟩, ⟨by rw [ht]; exact hP9, hD9⟩⟩, hS.F ht⟩) hS.2.2 dX10_sheet_28
      · skip
        refine lv_iconst (v := (-1)) hx hb dX10_sheet_20 rfl ?_
        have hpost : ((-1) : Int32) = if (0 ≤ k.toInt ∧ k.toInt < 4) ∧ (0 ≤ lane.toInt ∧ lane.toInt ≤ 2) ∧ n.toInt ≤ 40 then (if n.toInt < 0 then -14 else 1) else -1 := by
          have t_b5 := b5
          have t_b10 := b10
          have t_c11 := nleI c11
          have : (40 : Int32).toInt = 40 := qI_40
          first | rfl | ((repeat' split) <;> first | rfl | omega)
        obtain ⟨hP9, hD9⟩ := va_sub2 (ws' := (([(h0, .inr (10, [.ref rd, .ref wy, .ref tr, .ref im, .ref kp, .ref od, .ref ch, .ref cr, .ref le, .ref mk, .ref tl, .ref sh, .int tf, .int rf])), (sh, .inr (6, [.ref la, .ref si, .ref ce, .int x8, .int x9, .ref fi, .ref se])), (la, .inl (G 0, 4, .inl fl)), (si, .inl (G 0, 4, .inl fz)), (ce, .inl (G 4, 4, .inr (.inr (.inr (.inr (fun ir => if ir < 4 then some (rc ir) else none))))))] : va_W) ++ ((((List.range 4).map (fun iq => (rc iq, .inl (G 0, 40, .inl (F iq))))) : va_W) ++ []))) hP hD [0, 1, 2, 3, 4, 5, 6, 7, 8] (by decide +kernel) rfl
        refine W.widen (k := 0) (n := 0) (Nat.le_of_ble_eq_true rfl) (Nat.le_of_ble_eq_true rfl) ?_
        exact W.iret (v := (-1)) hx hb hr (fun t ht hW => ⟨⟨(-1), (fl, fz, F), rfl, ⟨hpost, ⟨(by have t_b5 := b5; have t_b10 := b10; have t_c11 := nleI c11; have : (40 : Int32).toInt = 40 := qI_40; refine ⟨⟨?_, ?_⟩, hz⟩ <;> rw [if_neg (by omega)]), (by have t_b5 := b5; have t_b10 := b10; have t_c11 := nleI c11; have : (40 : Int32).toInt = 40 := qI_40; rw [if_neg (by omega)])⟩⟩, ⟨by rw [ht]; exact hP9, hD9⟩⟩, hS.F ht⟩) hS.2.2 dX10_sheet_21

set_option maxHeartbeats 1000000 in
set_option maxRecDepth 100000 in
theorem c_X11_changesO (l : Launch) (dC : Nat → ClassId) (dI : Nat → Nat → Nat) (G : Nat → ClassId) (sz : Nat) (h0 i k st N B rp tp T cu lt od th be ln S ma M ah bh ik la lg ce : Nat) (vrs vrb vhs vca vxs vxb vfa vbr vba vsp vhe vtk vva vto : Int32) (fst : Nat → Int32) (hN : N ≤ 10) (hB : B ≤ 6) (hT : T ≤ 320) (hS0 : S ≤ 8) (hM : M ≤ 6) (hst : OKS fst) (hi : i < 10) (hk : k < 10) : Met l yX11_changes (Cond.code yX11_changes cX11_changes 4 none :: GT) ({ frames := 0, cells := 0, slots := 0, locals := 0 } : Room) (PcW [.ref h0, .int (nI i), .int (nI k)] dC dI G [(h0, .inr (11, [.ref st, .int (nI N), .int (nI B), .ref rp, .int vrs, .int vrb, .int vhs, .int vca, .int vxs, .int vxb, .ref tp, .int (nI T), .int vfa, .int vbr, .int vba, .int vsp, .int vhe, .int vtk, .int vva, .ref cu, .ref lt, .ref od, .ref th, .ref be, .ref ln, .int (nI S), .ref ma, .int (nI M), .ref ah, .ref bh, .ref ik, .ref la, .ref lg, .ref ce, .int vto])), (st, .inl (G 0, 196, .inl fst))] sz) (va_Qv (fun (u : (Nat → Int32)) => match u with | ost => OKS ost ∧ ost = xch fst i k) (fun (u : (Nat → Int32)) (t : State) => match u with | ost => va_P (dC, dI) vwCl [(h0, .inr (11, [.ref st, .int (nI N), .int (nI B), .ref rp, .int vrs, .int vrb, .int vhs, .int vca, .int vxs, .int vxb, .ref tp, .int (nI T), .int vfa, .int vbr, .int vba, .int vsp, .int vhe, .int vtk, .int vva, .ref cu, .ref lt, .ref od, .ref th, .ref be, .ref ln, .int (nI S), .ref ma, .int (nI M), .ref ah, .ref bh, .ref ik, .ref la, .ref lg, .ref ce, .int vto])), (st, .inl (G 0, 196, .inl ost))] t.heap ∧ va_D (va_A [(h0, .inr (11, [.ref st, .int (nI N), .int (nI B), .ref rp, .int vrs, .int vrb, .int vhs, .int vca, .int vxs, .int vxb, .ref tp, .int (nI T), .int vfa, .int vbr, .int vba, .int vsp, .int vhe, .int vtk, .int vva, .ref cu, .ref lt, .ref od, .ref th, .ref be, .ref ln, .int (nI S), .ref ma, .int (nI M), .ref ah, .ref bh, .ref ik, .ref la, .ref lg, .ref ce, .int vto])), (st, .inl (G 0, 196, .inl fst))] sz) [(h0, .inr (11, [.ref st, .int (nI N), .int (nI B), .ref rp, .int vrs, .int vrb, .int vhs, .int vca, .int vxs, .int vxb, .ref tp, .int (nI T), .int vfa, .int vbr, .int vba, .int vsp, .int vhe, .int vtk, .int vva, .ref cu, .ref lt, .ref od, .ref th, .ref be, .ref ln, .int (nI S), .ref ma, .int (nI M), .ref ah, .ref bh, .ref ik, .ref la, .ref lg, .ref ce, .int vto])), (st, .inl (G 0, 196, .inl ost))]) (va_A [(h0, .inr (11, [.ref st, .int (nI N), .int (nI B), .ref rp, .int vrs, .int vrb, .int vhs, .int vca, .int vxs, .int vxb, .ref tp, .int (nI T), .int vfa, .int vbr, .int vba, .int vsp, .int vhe, .int vtk, .int vva, .ref cu, .ref lt, .ref od, .ref th, .ref be, .ref ln, .int (nI S), .ref ma, .int (nI M), .ref ah, .ref bh, .ref ik, .ref la, .ref lg, .ref ce, .int vto])), (st, .inl (G 0, 196, .inl fst))] sz)) 0 0 (va_A [(h0, .inr (11, [.ref st, .int (nI N), .int (nI B), .ref rp, .int vrs, .int vrb, .int vhs, .int vca, .int vxs, .int vxb, .ref tp, .int (nI T), .int vfa, .int vbr, .int vba, .int vsp, .int vhe, .int vtk, .int vva, .ref cu, .ref lt, .ref od, .ref th, .ref be, .ref ln, .int (nI S), .ref ma, .int (nI M), .ref ah, .ref bh, .ref ik, .ref la, .ref lg, .ref ce, .int vto])), (st, .inl (G 0, 196, .inl fst))] sz) := by
  have tn2167_ : nIT N := fun _ => nI_toInt (by omega)
  have tn2168_ : nIT B := fun _ => nI_toInt (by omega)
  have tn2169_ : nIT T := fun _ => nI_toInt (by omega)
  have tn2170_ : nIT S := fun _ => nI_toInt (by omega)
  have tn2171_ : nIT M := fun _ => nI_toInt (by omega)
  refine Met.ofW (cc := cX11_changes) (maxL := 4) (ret := none) (by decide) rfl ?_
  intro p e s m args below meth c s₁ Bd hml hv
  obtain ⟨rfl, hsz, hP, hK, hD0⟩ := hv
  have hx := Bd.exec
  have hb := Bd.bytes
  have hr := Bd.returns
  have hg : ∀ w ∈ GT, w.before ([.ref h0, .int (nI i), .int (nI k)] : List Value).toArray s = true := fun w h => atoms_spec (ws := Cond.code yX11_changes cX11_changes 4 none :: GT) Bd.pre w (List.mem_cons_of_mem _ h)
  have hown : s.vm.findClass RX11 = some m.cls := findClass_of_methodNamed Bd.named
  have hlocks := Bd.notSynchronized
  subst hsz
  have hD := hD0.self (sz := s.heap.size)
  generalize hAe : va_A [(h0, .inr (11, [.ref st, .int (nI N), .int (nI B), .ref rp, .int vrs, .int vrb, .int vhs, .int vca, .int vxs, .int vxb, .ref tp, .int (nI T), .int vfa, .int vbr, .int vba, .int vsp, .int vhe, .int vtk, .int vva, .ref cu, .ref lt, .ref od, .ref th, .ref be, .ref ln, .int (nI S), .ref ma, .int (nI M), .ref ah, .ref bh, .ref ik, .ref la, .ref lg, .ref ce, .int vto])), (st, .inl (G 0, 196, .inl fst))] s.heap.size = A at hD ⊢
  have hA : ∀ q : Nat, s.heap.size ≤ q → A q := fun q h => by rw [← hAe]; exact Or.inr h
  have hS : va_S A s.heap s.heap [] := va_S.rf
  have hl := lv_entry ([.ref h0, .int (nI i), .int (nI k)]) (n := 4) (Nat.le_of_ble_eq_true rfl)
  rw [lg_entry_eq]
  generalize (lg_sl ([.ref h0, .int (nI i), .int (nI k)]) ++ List.replicate (4 - (lg_sl ([.ref h0, .int (nI i), .int (nI k)])).length) Slot.unset).toArray = ls at hl ⊢
  have hl : lv_has ls 4 [(0, .ref h0), (1, .int (nI i)), (2, .int (nI k))] := hl
  refine lv_aload_n hx hb dX11_changes_0 rfl (lv_at hl 0 rfl) ?_
  refine va_get (D := (dC, dI)) (ci := 11) (v := .ref st) (C := RX11) (T := TX11) (N := 35) hx hb hg inG11 hown hK.1 hP 0 rfl rfl 0 (Nat.le_of_ble_eq_true rfl) (hg _ wt_878) (fun _ h9 => h9) rfl dX11_changes_1 ?_
  refine lv_bipush (v := 38) hx hb dX11_changes_4 rfl ?_
  refine lv_iload_n hx hb dX11_changes_6 rfl (lv_at hl 1 rfl) ?_
  refine lv_iadd hx hb dX11_changes_7 ?_
  refine lv_cg (y := nI (38 + i)) (by rw [show (38 : Int32) = nI 38 from rfl]; exact nI_add _ _) ?_
  have tn2172_ : nIT i := fun _ => nI_toInt (by omega)
  have tn2173_ : nIT k := fun _ => nI_toInt (by omega)
  refine va_iald hx hb hK.1 hP 1 0 rfl rfl (vp_in_nI (by first | omega | (have tnb_ := nib7 tn2172_ tn2173_ tn2167_ tn2168_ tn2169_ tn2170_ tn2171_; omega)) (by decide)) dX11_changes_8 ?_
  refine lv_cg (y := fst (38 + i)) (by rw [nI_clamp (by omega)]) ?_
  refine lv_istore_n (lv' := [(3, .int (fst (38 + i))), (0, .ref h0), (1, .int (nI i)), (2, .int (nI k))]) hx hb dX11_changes_9 rfl hl (by decide) rfl (fun ls hl => ?_)
  refine lv_aload_n hx hb dX11_changes_10 rfl (lv_at hl 1 rfl) ?_
  refine va_get (D := (dC, dI)) (ci := 11) (v := .ref st) (C := RX11) (T := TX11) (N := 35) hx hb hg inG11 hown hK.1 hP 0 rfl rfl 0 (Nat.le_of_ble_eq_true rfl) (hg _ wt_878) (fun _ h9 => h9) rfl dX11_changes_11 ?_
  refine lv_bipush (v := 38) hx hb dX11_changes_14 rfl ?_
  refine lv_iload_n hx hb dX11_changes_16 rfl (lv_at hl 2 rfl) ?_
  refine lv_iadd hx hb dX11_changes_17 ?_
  refine lv_cg (y := nI (38 + i)) (by rw [show (38 : Int32) = nI 38 from rfl]; exact nI_add _ _) ?_
  refine lv_aload_n hx hb dX11_changes_18 rfl (lv_at hl 1 rfl) ?_
  refine va_get (D := (dC, dI)) (ci := 11) (v := .ref st) (C := RX11) (T := TX11) (N := 35) hx hb hg inG11 hown hK.1 hP 0 rfl rfl 0 (Nat.le_of_ble_eq_true rfl) (hg _ wt_878) (fun _ h9 => h9) rfl dX11_changes_19 ?_
  refine lv_bipush (v := 38) hx hb dX11_changes_22 rfl ?_
  refine lv_iload_n hx hb dX11_changes_24 rfl (lv_at hl 3 rfl) ?_
  refine lv_iadd hx hb dX11_changes_25 ?_
  refine lv_cg (y := nI (38 + k)) (by rw [show (38 : Int32) = nI 38 from rfl]; exact nI_add _ _) ?_
  refine va_iald hx hb hK.1 hP 1 0 rfl rfl (vp_in_nI (by first | omega | (have tnb_ := nib7 tn2172_ tn2173_ tn2167_ tn2168_ tn2169_ tn2170_ tn2171_; omega)) (by decide)) dX11_changes_26 ?_
  refine lv_cg (y := fst (38 + k)) (by rw [nI_clamp (by omega)]) ?_
  refine va_iast hx hb hK.1 hP hD hS 1 0 rfl rfl (vp_in_nI (by first | omega | (have tnb_ := nib7 tn2172_ tn2173_ tn2167_ tn2168_ tn2169_ tn2170_ tn2171_; omega)) (by decide)) dX11_changes_27 (fun H locs hP hD hS => ?_)
  rw [nI_clamp (by omega)] at hP hD
  refine lv_aload_n hx hb dX11_changes_28 rfl (lv_at hl 1 rfl) ?_
  refine va_get (D := (dC, dI)) (ci := 11) (v := .ref st) (C := RX11) (T := TX11) (N := 35) hx hb hg inG11 hown hK.1 hP 0 rfl rfl 0 (Nat.le_of_ble_eq_true rfl) (hg _ wt_878) (fun _ h9 => h9) rfl dX11_changes_29 ?_
  refine lv_bipush (v := 38) hx hb dX11_changes_32 rfl ?_
  refine lv_iload_n hx hb dX11_changes_34 rfl (lv_at hl 3 rfl) ?_
  refine lv_iadd hx hb dX11_changes_35 ?_
  refine lv_cg (y := nI (38 + k)) (by rw [show (38 : Int32) = nI 38 from rfl]; exact nI_add _ _) ?_
  refine lv_iload_n hx hb dX11_changes_36 rfl (lv_at hl 0 rfl) ?_
  refine va_iast hx hb hK.1 hP hD hS 1 0 rfl rfl (vp_in_nI (by first | omega | (have tnb_ := nib7 tn2172_ tn2173_ tn2167_ tn2168_ tn2169_ tn2170_ tn2171_; omega)) (by decide)) dX11_changes_37 (fun H locs hP hD hS => ?_)
  rw [nI_clamp (by omega)] at hP hD
  obtain ⟨hP9, hD9⟩ := va_sub2 (ws' := [(h0, .inr (11, [.ref st, .int (nI N), .int (nI B), .ref rp, .int vrs, .int vrb, .int vhs, .int vca, .int vxs, .int vxb, .ref tp, .int (nI T), .int vfa, .int vbr, .int vba, .int vsp, .int vhe, .int vtk, .int vva, .ref cu, .ref lt, .ref od, .ref th, .ref be, .ref ln, .int (nI S), .ref ma, .int (nI M), .ref ah, .ref bh, .ref ik, .ref la, .ref lg, .ref ce, .int vto])), (st, .inl (G 0, 196, .inl (upd (upd fst (38 + i) (fst (38 + k))) (38 + k) (fst (38 + i)))))]) hP hD [0, 1] (by decide +kernel) rfl
  refine W.widen (k := 0) (n := 0) (Nat.le_of_ble_eq_true rfl) (Nat.le_of_ble_eq_true rfl) ?_
  exact W.vret hx hb hr (fun t ht hW => ⟨⟨(upd (upd fst (38 + i) (fst (38 + k))) (38 + k) (fst (38 + i))), rfl, ⟨((hst.upd (okS_mv hst (by omega) (by omega) (by omega) (by omega))).upd (okS_mv hst (by omega) (by omega) (by omega) (by omega))), rfl⟩, ⟨by rw [ht]; exact hP9, hD9⟩⟩, hS.F ht⟩) hS.2.2 dX11_changes_38

set_option maxHeartbeats 1000000 in
set_option maxRecDepth 100000 in
theorem c_X11_swapO (l : Launch) (dC : Nat → ClassId) (dI : Nat → Nat → Nat) (G : Nat → ClassId) (sz : Nat) (h0 st N B rp tp T cu lt od th be ln S ma M ah bh ik la lg ce : Nat) (what vrs vrb vhs vca vxs vxb vfa vbr vba vsp vhe vtk vva vto : Int32) (fst : Nat → Int32) (fod : Nat → Int64) (fth : Nat → Int64) (hN : N ≤ 10) (hB : B ≤ 6) (hT : T ≤ 320) (hS0 : S ≤ 8) (hM : M ≤ 6) (hst : OKS fst) : Met l yX11_swap (Cond.code yX11_swap cX11_swap 7 (some .long) :: GT) ({ frames := 4, cells := 0, slots := 0, locals := 99 } : Room) (PcW [.ref h0, .int what] dC dI G [(h0, .inr (11, [.ref st, .int (nI N), .int (nI B), .ref rp, .int vrs, .int vrb, .int vhs, .int vca, .int vxs, .int vxb, .ref tp, .int (nI T), .int vfa, .int vbr, .int vba, .int vsp, .int vhe, .int vtk, .int vva, .ref cu, .ref lt, .ref od, .ref th, .ref be, .ref ln, .int (nI S), .ref ma, .int (nI M), .ref ah, .ref bh, .ref ik, .ref la, .ref lg, .ref ce, .int vto])), (st, .inl (G 0, 196, .inl fst)), (od, .inl (G 1, 10, .inr (.inl fod))), (th, .inl (G 1, 10, .inr (.inl fth)))] sz) (va_Ql (fun (r : Int64) (u : (Nat → Int32) × (Nat → Int64) × (Nat → Int64)) => match u with | (ost, ood, oth) => (True) ∧ OKS ost ∧ ost = fst) (fun (u : (Nat → Int32) × (Nat → Int64) × (Nat → Int64)) (t : State) => match u with | (ost, ood, oth) => va_P (dC, dI) vwCl [(h0, .inr (11, [.ref st, .int (nI N), .int (nI B), .ref rp, .int vrs, .int vrb, .int vhs, .int vca, .int vxs, .int vxb, .ref tp, .int (nI T), .int vfa, .int vbr, .int vba, .int vsp, .int vhe, .int vtk, .int vva, .ref cu, .ref lt, .ref od, .ref th, .ref be, .ref ln, .int (nI S), .ref ma, .int (nI M), .ref ah, .ref bh, .ref ik, .ref la, .ref lg, .ref ce, .int vto])), (st, .inl (G 0, 196, .inl ost)), (od, .inl (G 1, 10, .inr (.inl ood))), (th, .inl (G 1, 10, .inr (.inl oth)))] t.heap ∧ va_D (va_A [(h0, .inr (11, [.ref st, .int (nI N), .int (nI B), .ref rp, .int vrs, .int vrb, .int vhs, .int vca, .int vxs, .int vxb, .ref tp, .int (nI T), .int vfa, .int vbr, .int vba, .int vsp, .int vhe, .int vtk, .int vva, .ref cu, .ref lt, .ref od, .ref th, .ref be, .ref ln, .int (nI S), .ref ma, .int (nI M), .ref ah, .ref bh, .ref ik, .ref la, .ref lg, .ref ce, .int vto])), (st, .inl (G 0, 196, .inl fst)), (od, .inl (G 1, 10, .inr (.inl fod))), (th, .inl (G 1, 10, .inr (.inl fth)))] sz) [(h0, .inr (11, [.ref st, .int (nI N), .int (nI B), .ref rp, .int vrs, .int vrb, .int vhs, .int vca, .int vxs, .int vxb, .ref tp, .int (nI T), .int vfa, .int vbr, .int vba, .int vsp, .int vhe, .int vtk, .int vva, .ref cu, .ref lt, .ref od, .ref th, .ref be, .ref ln, .int (nI S), .ref ma, .int (nI M), .ref ah, .ref bh, .ref ik, .ref la, .ref lg, .ref ce, .int vto])), (st, .inl (G 0, 196, .inl ost)), (od, .inl (G 1, 10, .inr (.inl ood))), (th, .inl (G 1, 10, .inr (.inl oth)))]) (va_A [(h0, .inr (11, [.ref st, .int (nI N), .int (nI B), .ref rp, .int vrs, .int vrb, .int vhs, .int vca, .int vxs, .int vxb, .ref tp, .int (nI T), .int vfa, .int vbr, .int vba, .int vsp, .int vhe, .int vtk, .int vva, .ref cu, .ref lt, .ref od, .ref th, .ref be, .ref ln, .int (nI S), .ref ma, .int (nI M), .ref ah, .ref bh, .ref ik, .ref la, .ref lg, .ref ce, .int vto])), (st, .inl (G 0, 196, .inl fst)), (od, .inl (G 1, 10, .inr (.inl fod))), (th, .inl (G 1, 10, .inr (.inl fth)))] sz)) 0 0 (va_A [(h0, .inr (11, [.ref st, .int (nI N), .int (nI B), .ref rp, .int vrs, .int vrb, .int vhs, .int vca, .int vxs, .int vxb, .ref tp, .int (nI T), .int vfa, .int vbr, .int vba, .int vsp, .int vhe, .int vtk, .int vva, .ref cu, .ref lt, .ref od, .ref th, .ref be, .ref ln, .int (nI S), .ref ma, .int (nI M), .ref ah, .ref bh, .ref ik, .ref la, .ref lg, .ref ce, .int vto])), (st, .inl (G 0, 196, .inl fst)), (od, .inl (G 1, 10, .inr (.inl fod))), (th, .inl (G 1, 10, .inr (.inl fth)))] sz) := by
  have hB_ := hB
  have hM_ := hM
  have hT_ := hT
  have tn2174_ : nIT N := fun _ => nI_toInt (by omega)
  have tn2175_ : nIT B := fun _ => nI_toInt (by omega)
  have tn2176_ : nIT T := fun _ => nI_toInt (by omega)
  have tn2177_ : nIT S := fun _ => nI_toInt (by omega)
  have tn2178_ : nIT M := fun _ => nI_toInt (by omega)
  refine Met.ofW (cc := cX11_swap) (maxL := 7) (ret := (some .long)) (by decide) rfl ?_
  intro p e s m args below meth c s₁ Bd hml hv
  obtain ⟨rfl, hsz, hP, hK, hD0⟩ := hv
  have hx := Bd.exec
  have hb := Bd.bytes
  have hr := Bd.returns
  have hg : ∀ w ∈ GT, w.before ([.ref h0, .int what] : List Value).toArray s = true := fun w h => atoms_spec (ws := Cond.code yX11_swap cX11_swap 7 (some .long) :: GT) Bd.pre w (List.mem_cons_of_mem _ h)
  have hown : s.vm.findClass RX11 = some m.cls := findClass_of_methodNamed Bd.named
  have hlocks := Bd.notSynchronized
  subst hsz
  have hD := hD0.self (sz := s.heap.size)
  generalize hAe : va_A [(h0, .inr (11, [.ref st, .int (nI N), .int (nI B), .ref rp, .int vrs, .int vrb, .int vhs, .int vca, .int vxs, .int vxb, .ref tp, .int (nI T), .int vfa, .int vbr, .int vba, .int vsp, .int vhe, .int vtk, .int vva, .ref cu, .ref lt, .ref od, .ref th, .ref be, .ref ln, .int (nI S), .ref ma, .int (nI M), .ref ah, .ref bh, .ref ik, .ref la, .ref lg, .ref ce, .int vto])), (st, .inl (G 0, 196, .inl fst)), (od, .inl (G 1, 10, .inr (.inl fod))), (th, .inl (G 1, 10, .inr (.inl fth)))] s.heap.size = A at hD ⊢
  have hA : ∀ q : Nat, s.heap.size ≤ q → A q := fun q h => by rw [← hAe]; exact Or.inr h
  have hS : va_S A s.heap s.heap [] := va_S.rf
  have hl := lv_entry ([.ref h0, .int what]) (n := 7) (Nat.le_of_ble_eq_true rfl)
  rw [lg_entry_eq]
  generalize (lg_sl ([.ref h0, .int what]) ++ List.replicate (7 - (lg_sl ([.ref h0, .int what])).length) Slot.unset).toArray = ls at hl ⊢
  have hl : lv_has ls 7 [(0, .ref h0), (1, .int what)] := hl
  refine lv_iload_n hx hb dX11_swap_0 rfl (lv_at hl 1 rfl) ?_
  refine lv_i2l (v := what.toInt64) hx hb dX11_swap_1 rfl ?_
  refine lv_lconst (v := 0) hx hb dX11_swap_2 (by decide) ?_
  refine lv_ldc2 (v := 2) hx hb hown (hg _ wt_1056) dX11_swap_3 ?_
  have hPc := hP.sub (ws' := []) [] rfl
  refine va_calli (va_runS (As := [.long what.toInt64, .long 0, .long 2]) (rest := []) ⟨hx, hb, hml, hown, hg⟩ (c_X11_in l dC dI G _ what.toInt64 0 2) (kwS hg mfX11_in wt_992 ⟨Nat.le_of_ble_eq_true rfl, Nat.le_of_ble_eq_true rfl⟩) (preSR hK hPc) rfl rfl hl.1 rfl (lv_room (Nat.le_of_ble_eq_true rfl)) dX11_swap_6 ⟨Nat.le_of_ble_eq_true rfl, Nat.le_of_ble_eq_true rfl⟩) hS (fun q h1 h2 => absurd h2 (Nat.not_le.mpr h1)) (fun q h => hA q (Nat.le_trans hS.1 h)) (fun r1 ur1 t H1 locs ht hvm w2 hB hz1 hk1 hS => ?_)
  have hP := keepR hP hk1
  obtain ⟨w2, w2x⟩ := w2
  try simp only [l_ii, show (0 : Int64).toInt = 0 from by decide, show (2 : Int64).toInt = 2 from by decide] at w2
  subst w2
  refine lv_if_ne (tgt := 16) hx hb dX11_swap_9 rfl (fun c3 => ?_) (fun c3 => ?_)
  · skip
    have b4 := if10_p c3
    refine lv_aload_n hx hb dX11_swap_16 rfl (lv_at hl 0 rfl) ?_
    refine lv_aload_n hx hb dX11_swap_17 rfl (lv_at hl 0 rfl) ?_
    refine va_get (D := (dC, dI)) (ci := 11) (v := .int (nI N)) (C := RX11) (T := TX11) (N := 35) hx hb hg inG11 hown hK.1 hP 0 rfl rfl 1 (Nat.le_of_ble_eq_true rfl) (hg _ wt_879) (fun _ h9 => h9) rfl dX11_swap_18 ?_
    refine lv_iconst (v := 0) hx hb dX11_swap_21 rfl ?_
    refine lv_bipush (v := (-4)) hx hb dX11_swap_22 rfl ?_
    obtain ⟨hPc, hDc, hFc⟩ := va_sub3 (ws' := [(h0, .inr (11, [.ref st, .int (nI N), .int (nI B), .ref rp, .int vrs, .int vrb, .int vhs, .int vca, .int vxs, .int vxb, .ref tp, .int (nI T), .int vfa, .int vbr, .int vba, .int vsp, .int vhe, .int vtk, .int vva, .ref cu, .ref lt, .ref od, .ref th, .ref be, .ref ln, .int (nI S), .ref ma, .int (nI M), .ref ah, .ref bh, .ref ik, .ref la, .ref lg, .ref ce, .int vto])), (st, .inl (G 0, 196, .inl fst)), (od, .inl (G 1, 10, .inr (.inl fod))), (th, .inl (G 1, 10, .inr (.inl fth)))]) hP hD hS hA [0, 1, 2, 3] (by decide +kernel) rfl
    refine va_callv (va_runV (As := [.int (nI N), .int 0, .int (-4)]) (rest := []) ⟨hx, hb, hml, hown, hg⟩ (c_X11_layOdds l dC dI G _ h0 N st N B rp tp T cu lt od th be ln S ma M ah bh ik la lg ce 0 (-4) vrs vrb vhs vca vxs vxb vfa vbr vba vsp vhe vtk vva vto fst fod fth hN hB_ hT_ hS0 hM_ hst hN) (kwV hg mfX11_layOdds wt_1119 ⟨Nat.le_of_ble_eq_true rfl, Nat.le_of_ble_eq_true rfl⟩) (preVW hK hPc hDc (ci := 11) (r := (RX11, TX11, 35)) rfl rfl) rfl rfl hl.1 rfl (lv_room (Nat.le_of_ble_eq_true rfl)) dX11_swap_24 ⟨Nat.le_of_ble_eq_true rfl, Nat.le_of_ble_eq_true rfl⟩) hS (fun q _ h => hFc q h) hFc (fun ur5 t H1 locs ht hvm w6 hB hz1 hk1 hS => ?_)
    obtain ⟨u7, u8⟩ := ur5
    obtain ⟨hP1, hD1⟩ := hB
    rw [ht] at hP1
    obtain ⟨hP, hD⟩ := va_join (wr := []) (w1 := [(h0, .inr (11, [.ref st, .int (nI N), .int (nI B), .ref rp, .int vrs, .int vrb, .int vhs, .int vca, .int vxs, .int vxb, .ref tp, .int (nI T), .int vfa, .int vbr, .int vba, .int vsp, .int vhe, .int vtk, .int vva, .ref cu, .ref lt, .ref od, .ref th, .ref be, .ref ln, .int (nI S), .ref ma, .int (nI M), .ref ah, .ref bh, .ref ik, .ref la, .ref lg, .ref ce, .int vto])), (st, .inl (G 0, 196, .inl fst)), (od, .inl (G 1, 10, .inr (.inl u7))), (th, .inl (G 1, 10, .inr (.inl u8)))]) hP hD [0, 1, 2, 3] [] rfl rfl (by decide +kernel) (by decide +kernel) hk1 hFc hP1 hD1
    generalize H1 = H at hP hS ⊢
    refine lv_aload_n hx hb dX11_swap_27 rfl (lv_at hl 0 rfl) ?_
    refine va_get (D := (dC, dI)) (ci := 11) (v := .ref od) (C := RX11) (T := TX11) (N := 35) hx hb hg inG11 hown hK.1 hP 0 rfl rfl 21 (Nat.le_of_ble_eq_true rfl) (hg _ wt_899) (fun _ h9 => h9) rfl dX11_swap_28 ?_
    refine lv_iconst (v := 0) hx hb dX11_swap_31 rfl ?_
    refine va_lald hx hb hK.1 hP 2 1 rfl rfl (vp_in_iff.mpr ⟨by decide, by decide⟩) dX11_swap_32 ?_
    refine lv_cgl (y := u7 0) (by rfl) ?_
    refine lv_lstore_n (lv' := [(2, .long (u7 0)), (0, .ref h0), (1, .int what)]) hx hb dX11_swap_33 rfl hl (by decide) rfl (fun ls hl => ?_)
    refine lv_bipush (v := (-4)) hx hb dX11_swap_34 rfl ?_
    refine lv_istore (lv' := [(4, .int (-4)), (2, .long (u7 0)), (0, .ref h0), (1, .int what)]) hx hb dX11_swap_36 hl (by decide) rfl (fun ls hl => ?_)
    refine lv_iconst (v := 0) hx hb dX11_swap_38 rfl ?_
    refine lv_istore (lv' := [(5, .int 0), (4, .int (-4)), (2, .long (u7 0)), (0, .ref h0), (1, .int what)]) hx hb dX11_swap_39 hl (by decide) rfl (fun ls hl => ?_)
    have loop41_15 : ∀ (nf j9 : Nat), N + 1 ≤ j9 + nf → j9 ≤ N → ∀ (y10 : Int32) (y11 : Int64) (g12 : Nat → Int32) (g13 : Nat → Int64) (g14 : Nat → Int64) (H : Heap) (locs : List Loc), (OKS g12 ∧ g12 = fst) → va_P (dC, dI) vwCl [(h0, .inr (11, [.ref st, .int (nI N), .int (nI B), .ref rp, .int vrs, .int vrb, .int vhs, .int vca, .int vxs, .int vxb, .ref tp, .int (nI T), .int vfa, .int vbr, .int vba, .int vsp, .int vhe, .int vtk, .int vva, .ref cu, .ref lt, .ref od, .ref th, .ref be, .ref ln, .int (nI S), .ref ma, .int (nI M), .ref ah, .ref bh, .ref ik, .ref la, .ref lg, .ref ce, .int vto])), (st, .inl (G 0, 196, .inl g12)), (od, .inl (G 1, 10, .inr (.inl g13))), (th, .inl (G 1, 10, .inr (.inl g14)))] H → va_D A [(h0, .inr (11, [.ref st, .int (nI N), .int (nI B), .ref rp, .int vrs, .int vrb, .int vhs, .int vca, .int vxs, .int vxb, .ref tp, .int (nI T), .int vfa, .int vbr, .int vba, .int vsp, .int vhe, .int vtk, .int vva, .ref cu, .ref lt, .ref od, .ref th, .ref be, .ref ln, .int (nI S), .ref ma, .int (nI M), .ref ah, .ref bh, .ref ik, .ref la, .ref lg, .ref ce, .int vto])), (st, .inl (G 0, 196, .inl g12)), (od, .inl (G 1, 10, .inr (.inl g13))), (th, .inl (G 1, 10, .inr (.inl g14)))] → va_S A s.heap H locs → ∀ (ls : Array Slot), lv_has ls 7 [(5, .int (nI j9)), (4, .int y10), (2, .long y11), (0, .ref h0), (1, .int what)] → W p l e (headSpec (Cond.code yX11_swap cX11_swap 7 (some .long) :: GT) ({ frames := 4, cells := 0, slots := 0, locals := 99 } : Room)).room s m ([.ref h0, .int what] : List Value).toArray below meth c H locs 0 0 (MQ below (va_Ql (fun (r : Int64) (u : (Nat → Int32) × (Nat → Int64) × (Nat → Int64)) => match u with | (ost, ood, oth) => (True) ∧ OKS ost ∧ ost = fst) (fun (u : (Nat → Int32) × (Nat → Int64) × (Nat → Int64)) (t : State) => match u with | (ost, ood, oth) => va_P (dC, dI) vwCl [(h0, .inr (11, [.ref st, .int (nI N), .int (nI B), .ref rp, .int vrs, .int vrb, .int vhs, .int vca, .int vxs, .int vxb, .ref tp, .int (nI T), .int vfa, .int vbr, .int vba, .int vsp, .int vhe, .int vtk, .int vva, .ref cu, .ref lt, .ref od, .ref th, .ref be, .ref ln, .int (nI S), .ref ma, .int (nI M), .ref ah, .ref bh, .ref ik, .ref la, .ref lg, .ref ce, .int vto])), (st, .inl (G 0, 196, .inl ost)), (od, .inl (G 1, 10, .inr (.inl ood))), (th, .inl (G 1, 10, .inr (.inl oth)))] t.heap ∧ va_D A [(h0, .inr (11, [.ref st, .int (nI N), .int (nI B), .ref rp, .int vrs, .int vrb, .int vhs, .int vca, .int vxs, .int vxb, .ref tp, .int (nI T), .int vfa, .int vbr, .int vba, .int vsp, .int vhe, .int vtk, .int vva, .ref cu, .ref lt, .ref od, .ref th, .ref be, .ref ln, .int (nI S), .ref ma, .int (nI M), .ref ah, .ref bh, .ref ik, .ref la, .ref lg, .ref ce, .int vto])), (st, .inl (G 0, 196, .inl ost)), (od, .inl (G 1, 10, .inr (.inl ood))), (th, .inl (G 1, 10, .inr (.inl oth)))]) A) ([.ref h0, .int what] : List Value).toArray s 0 0 A) (F0 m 41 ls []) := by
      intro nf
      induction nf with
      | zero => intro j9 h1 h2; exact absurd h1 (by omega)
      | succ nf ih41_15 =>
        intro j9 hn16 hj17 y10 y11 g12 g13 g14 H locs hinv hP hD hS ls hl
        refine lv_iload hx hb dX11_swap_41 (lv_at hl 0 rfl) ?_
        refine lv_aload_n hx hb dX11_swap_43 rfl (lv_at hl 3 rfl) ?_
        refine va_get (D := (dC, dI)) (ci := 11) (v := .int (nI N)) (C := RX11) (T := TX11) (N := 35) hx hb hg inG11 hown hK.1 hP 0 rfl rfl 1 (Nat.le_of_ble_eq_true rfl) (hg _ wt_879) (fun _ h9 => h9) rfl dX11_swap_44 ?_
        refine lv_icmp_ge (tgt := 152) hx hb dX11_swap_47 rfl (fun c18 => ?_) (fun c18 => ?_)
        · skip
          have tn2179_ : nIT j9 := fun _ => nI_toInt (by first | omega | (have t := leI c18; omega))
          have n19 : N ≤ j9 := by have t := leI c18; rw [show (nI (j9)).toInt = ((j9 : Nat) : Int) from tn2179_ ()] at t; rw [show (nI (N)).toInt = ((N : Nat) : Int) from tn2174_ ()] at t; omega
          refine lv_iload hx hb dX11_swap_152 (lv_at hl 1 rfl) ?_
          refine lv_bipush (v := (-4)) hx hb dX11_swap_154 rfl ?_
          have cut182_21 : ∀ (y20 : Int64) (H : Heap) (locs : List Loc), va_P (dC, dI) vwCl [(h0, .inr (11, [.ref st, .int (nI N), .int (nI B), .ref rp, .int vrs, .int vrb, .int vhs, .int vca, .int vxs, .int vxb, .ref tp, .int (nI T), .int vfa, .int vbr, .int vba, .int vsp, .int vhe, .int vtk, .int vva, .ref cu, .ref lt, .ref od, .ref th, .ref be, .ref ln, .int (nI S), .ref ma, .int (nI M), .ref ah, .ref bh, .ref ik, .ref la, .ref lg, .ref ce, .int vto])), (st, .inl (G 0, 196, .inl g12)), (od, .inl (G 1, 10, .inr (.inl g13))), (th, .inl (G 1, 10, .inr (.inl g14)))] H → va_D A [(h0, .inr (11, [.ref st, .int (nI N), .int (nI B), .ref rp, .int vrs, .int vrb, .int vhs, .int vca, .int vxs, .int vxb, .ref tp, .int (nI T), .int vfa, .int vbr, .int vba, .int vsp, .int vhe, .int vtk, .int vva, .ref cu, .ref lt, .ref od, .ref th, .ref be, .ref ln, .int (nI S), .ref ma, .int (nI M), .ref ah, .ref bh, .ref ik, .ref la, .ref lg, .ref ce, .int vto])), (st, .inl (G 0, 196, .inl g12)), (od, .inl (G 1, 10, .inr (.inl g13))), (th, .inl (G 1, 10, .inr (.inl g14)))] → va_S A s.heap H locs → ∀ (ls : Array Slot), lv_has ls 7 [(5, .int (nI j9)), (4, .int y10), (2, .long y11), (0, .ref h0), (1, .int what)] → W p l e (headSpec (Cond.code yX11_swap cX11_swap 7 (some .long) :: GT) ({ frames := 4, cells := 0, slots := 0, locals := 99 } : Room)).room s m ([.ref h0, .int what] : List Value).toArray below meth c H locs 0 0 (MQ below (va_Ql (fun (r : Int64) (u : (Nat → Int32) × (Nat → Int64) × (Nat → Int64)) => match u with | (ost, ood, oth) => (True) ∧ OKS ost ∧ ost = fst) (fun (u : (Nat → Int32) × (Nat → Int64) × (Nat → Int64)) (t : State) => match u with | (ost, ood, oth) => va_P (dC, dI) vwCl [(h0, .inr (11, [.ref st, .int (nI N), .int (nI B), .ref rp, .int vrs, .int vrb, .int vhs, .int vca, .int vxs, .int vxb, .ref tp, .int (nI T), .int vfa, .int vbr, .int vba, .int vsp, .int vhe, .int vtk, .int vva, .ref cu, .ref lt, .ref od, .ref th, .ref be, .ref ln, .int (nI S), .ref ma, .int (nI M), .ref ah, .ref bh, .ref ik, .ref la, .ref lg, .ref ce, .int vto])), (st, .inl (G 0, 196, .inl ost)), (od, .inl (G 1, 10, .inr (.inl ood))), (th, .inl (G 1, 10, .inr (.inl oth)))] t.heap ∧ va_D A [(h0, .inr (11, [.ref st, .int (nI N), .int (nI B), .ref rp, .int vrs, .int vrb, .int vhs, .int vca, .int vxs, .int vxb, .ref tp, .int (nI T), .int vfa, .int vbr, .int vba, .int vsp, .int vhe, .int vtk, .int vva, .ref cu, .ref lt, .ref od, .ref th, .ref be, .ref ln, .int (nI S), .ref ma, .int (nI M), .ref ah, .ref bh, .ref ik, .ref la, .ref lg, .ref ce, .int vto])), (st, .inl (G 0, 196, .inl ost)), (od, .inl (G 1, 10, .inr (.inl ood))), (th, .inl (G 1, 10, .inr (.inl oth)))]) A) ([.ref h0, .int what] : List Value).toArray s 0 0 A) (F0 m 182 ls [.long y20]) := by
            intro y20 H locs hP hD hS ls hl
            have hpost : True := by
              trivial
            obtain ⟨hP9, hD9⟩ := va_sub2 (ws' := [(h0, .inr (11, [.ref st, .int (nI N), .int (nI B), .ref rp, .int vrs, .int vrb, .int vhs, .int vca, .int vxs, .int vxb, .ref tp, .int (nI T), .int vfa, .int vbr, .int vba, .int vsp, .int vhe, .int vtk, .int vva, .ref cu, .ref lt, .ref od, .ref th, .ref be, .ref ln, .int (nI S), .ref ma, .int (nI M), .ref ah, .ref bh, .ref ik, .ref la, .ref lg, .ref ce, .int vto])), (st, .inl (G 0, 196, .inl g12)), (od, .inl (G 1, 10, .inr (.inl g13))), (th, .inl (G 1, 10, .inr (.inl g14)))]) hP hD [0, 1, 2, 3] (by decide +kernel) rfl
            refine W.widen (k := 0) (n := 0) (Nat.le_of_ble_eq_true rfl) (Nat.le_of_ble_eq_true rfl) ?_
            exact W.lret (v := y20) hx hb hr (fun t ht hW => ⟨⟨y20, (g12, g13, g14), rfl, ⟨hpost, hinv⟩, ⟨by rw [ht]; exact hP9, hD9⟩⟩, hS.F ht⟩) hS.2.2 dX11_swap_182
          have cut164_22 : ∀ (H : Heap) (locs : List Loc), va_P (dC, dI) vwCl [(h0, .inr (11, [.ref st, .int (nI N), .int (nI B), .ref rp, .int vrs, .int vrb, .int vhs, .int vca, .int vxs, .int vxb, .ref tp, .int (nI T), .int vfa, .int vbr, .int vba, .int vsp, .int vhe, .int vtk, .int vva, .ref cu, .ref lt, .ref od, .ref th, .ref be, .ref ln, .int (nI S), .ref ma, .int (nI M), .ref ah, .ref bh, .ref ik, .ref la, .ref lg, .ref ce, .int vto])), (st, .inl (G 0, 196, .inl g12)), (od, .inl (G 1, 10, .inr (.inl g13))), (th, .inl (G 1, 10, .inr (.inl g14)))] H → va_D A [(h0, .inr (11, [.ref st, .int (nI N), .int (nI B), .ref rp, .int vrs, .int vrb, .int vhs, .int vca, .int vxs, .int vxb, .ref tp, .int (nI T), .int vfa, .int vbr, .int vba, .int vsp, .int vhe, .int vtk, .int vva, .ref cu, .ref lt, .ref od, .ref th, .ref be, .ref ln, .int (nI S), .ref ma, .int (nI M), .ref ah, .ref bh, .ref ik, .ref la, .ref lg, .ref ce, .int vto])), (st, .inl (G 0, 196, .inl g12)), (od, .inl (G 1, 10, .inr (.inl g13))), (th, .inl (G 1, 10, .inr (.inl g14)))] → va_S A s.heap H locs → ∀ (ls : Array Slot), lv_has ls 7 [(5, .int (nI j9)), (4, .int y10), (2, .long y11), (0, .ref h0), (1, .int what)] → W p l e (headSpec (Cond.code yX11_swap cX11_swap 7 (some .long) :: GT) ({ frames := 4, cells := 0, slots := 0, locals := 99 } : Room)).room s m ([.ref h0, .int what] : List Value).toArray below meth c H locs 0 0 (MQ below (va_Ql (fun (r : Int64) (u : (Nat → Int32) × (Nat → Int64) × (Nat → Int64)) => match u with | (ost, ood, oth) => (True) ∧ OKS ost ∧ ost = fst) (fun (u : (Nat → Int32) × (Nat → Int64) × (Nat → Int64)) (t : State) => match u with | (ost, ood, oth) => va_P (dC, dI) vwCl [(h0, .inr (11, [.ref st, .int (nI N), .int (nI B), .ref rp, .int vrs, .int vrb, .int vhs, .int vca, .int vxs, .int vxb, .ref tp, .int (nI T), .int vfa, .int vbr, .int vba, .int vsp, .int vhe, .int vtk, .int vva, .ref cu, .ref lt, .ref od, .ref th, .ref be, .ref ln, .int (nI S), .ref ma, .int (nI M), .ref ah, .ref bh, .ref ik, .ref la, .ref lg, .ref ce, .int vto])), (st, .inl (G 0, 196, .inl ost)), (od, .inl (G 1, 10, .inr (.inl ood))), (th, .inl (G 1, 10, .inr (.inl oth)))] t.heap ∧ va_D A [(h0, .inr (11, [.ref st, .int (nI N), .int (nI B), .ref rp, .int vrs, .int vrb, .int vhs, .int vca, .int vxs, .int vxb, .ref tp, .int (nI T), .int vfa, .int vbr, .int vba, .int vsp, .int vhe, .int vtk, .int vva, .ref cu, .ref lt, .ref od, .ref th, .ref be, .ref ln, .int (nI S), .ref ma, .int (nI M), .ref ah, .ref bh, .ref ik, .ref la, .ref lg, .ref ce, .int vto])), (st, .inl (G 0, 196, .inl ost)), (od, .inl (G 1, 10, .inr (.inl ood))), (th, .inl (G 1, 10, .inr (.inl oth)))]) A) ([.ref h0, .int what] : List Value).toArray s 0 0 A) (F0 m 164 ls []) := by
            intro  H locs hP hD hS ls hl
            refine lv_iload hx hb dX11_swap_164 (lv_at hl 1 rfl) ?_
            refine lv_i2l (v := y10.toInt64) hx hb dX11_swap_166 rfl ?_
            refine lv_goto (tgt := 182) hx hb dX11_swap_167 rfl ?_
            exact cut182_21 y10.toInt64 _ _ hP hD hS ls (lv_sub hl [0, 1, 2, 3, 4] rfl)
          refine lv_icmp_eq (tgt := 164) hx hb dX11_swap_156 rfl (fun c23 => ?_) (fun c23 => ?_)
          · skip
            exact cut164_22  _ _ hP hD hS ls (lv_sub hl [0, 1, 2, 3, 4] rfl)
          · skip
            refine lv_iload_n hx hb dX11_swap_159 rfl (lv_at hl 4 rfl) ?_
            refine lv_iconst (v := 2) hx hb dX11_swap_160 rfl ?_
            refine lv_icmp_ne (tgt := 170) hx hb dX11_swap_161 rfl (fun c24 => ?_) (fun c24 => ?_)
            · skip
              refine lv_lload_n hx hb dX11_swap_170 rfl (lv_at hl 2 rfl) ?_
              refine lv_aload_n hx hb dX11_swap_171 rfl (lv_at hl 3 rfl) ?_
              refine va_get (D := (dC, dI)) (ci := 11) (v := .int (nI N)) (C := RX11) (T := TX11) (N := 35) hx hb hg inG11 hown hK.1 hP 0 rfl rfl 1 (Nat.le_of_ble_eq_true rfl) (hg _ wt_879) (fun _ h9 => h9) rfl dX11_swap_172 ?_
              have hPc := hP.sub (ws' := []) [] rfl
              refine va_calll (va_runS (As := [.int (nI N)]) (rest := [.long y11]) ⟨hx, hb, hml, hown, hg⟩ (c_X11_power l dC dI G _ N hN) (kwS hg mfX11_power wt_1131 ⟨Nat.le_of_ble_eq_true rfl, Nat.le_of_ble_eq_true rfl⟩) (preSR hK hPc) rfl rfl hl.1 rfl (lv_room (Nat.le_of_ble_eq_true rfl)) dX11_swap_175 ⟨Nat.le_of_ble_eq_true rfl, Nat.le_of_ble_eq_true rfl⟩) hS (fun q h1 h2 => absurd h2 (Nat.not_le.mpr h1)) (fun q h => hA q (Nat.le_trans hS.1 h)) (fun r25 ur25 t H1 locs ht hvm w26 hB hz1 hk1 hS => ?_)
              have hP := keepR hP hk1
              obtain ⟨w26, w26x⟩ := w26
              subst w26
              refine lv_iload_n hx hb dX11_swap_178 rfl (lv_at hl 4 rfl) ?_
              have hPc := hP.sub (ws' := []) [] rfl
              refine va_calll (va_runS (As := [.long y11, .long (powF N), .int what]) (rest := []) ⟨hx, hb, hml, hown, hg⟩ (c_X11_lowest l dC dI G _ what y11 (powF N) (powF_ne (by have t_b4 := b4; have t_hj17 := hj17; have t_n19 := n19; have t_c23 := neI c23; have t_c24 := neI c24; have tqz_ := qz10_; have tnb_ := nib6 tn2174_ tn2175_ tn2176_ tn2177_ tn2178_ tn2179_; omega))) (kwS hg mfX11_lowest wt_1134 ⟨Nat.le_of_ble_eq_true rfl, Nat.le_of_ble_eq_true rfl⟩) (preSR hK hPc) rfl rfl hl.1 rfl (lv_room (Nat.le_of_ble_eq_true rfl)) dX11_swap_179 ⟨Nat.le_of_ble_eq_true rfl, Nat.le_of_ble_eq_true rfl⟩) hS (fun q h1 h2 => absurd h2 (Nat.not_le.mpr h1)) (fun q h => hA q (Nat.le_trans hS.1 h)) (fun r27 ur27 t H1 locs ht hvm w28 hB hz1 hk1 hS => ?_)
              have hP := keepR hP hk1
              obtain ⟨w28, w28x⟩ := w28
              exact cut182_21 r27 _ _ hP hD hS ls (lv_sub hl [0, 1, 2, 3, 4] rfl)
            · skip
              exact cut164_22  _ _ hP hD hS ls (lv_sub hl [0, 1, 2, 3, 4] rfl)
        · skip
          have tn2180_ : nIT j9 := fun _ => nI_toInt (by first | omega | (have t := nleI c18; omega))
          have n29 : j9 < N := by have t := nleI c18; rw [show (nI (j9)).toInt = ((j9 : Nat) : Int) from tn2180_ ()] at t; rw [show (nI (N)).toInt = ((N : Nat) : Int) from tn2174_ ()] at t; omega
          refine lv_iload hx hb dX11_swap_50 (lv_at hl 0 rfl) ?_
          refine lv_iconst (v := 1) hx hb dX11_swap_52 rfl ?_
          refine lv_iadd hx hb dX11_swap_53 ?_
          refine lv_cg (y := nI (j9 + 1)) (by rw [show (1 : Int32) = nI 1 from rfl]; exact nI_add _ _) ?_
          refine lv_istore (lv' := [(6, .int (nI (j9 + 1))), (5, .int (nI j9)), (4, .int y10), (2, .long y11), (0, .ref h0), (1, .int what)]) hx hb dX11_swap_54 hl (by decide) rfl (fun ls hl => ?_)
          have loop56_36 : ∀ (nf j30 : Nat), N + 1 ≤ j30 + nf → j30 ≤ N → (j9 + 1) ≤ j30 → ∀ (y31 : Int32) (y32 : Int64) (g33 : Nat → Int32) (g34 : Nat → Int64) (g35 : Nat → Int64) (H : Heap) (locs : List Loc), (OKS g33 ∧ g33 = fst) → va_P (dC, dI) vwCl [(h0, .inr (11, [.ref st, .int (nI N), .int (nI B), .ref rp, .int vrs, .int vrb, .int vhs, .int vca, .int vxs, .int vxb, .ref tp, .int (nI T), .int vfa, .int vbr, .int vba, .int vsp, .int vhe, .int vtk, .int vva, .ref cu, .ref lt, .ref od, .ref th, .ref be, .ref ln, .int (nI S), .ref ma, .int (nI M), .ref ah, .ref bh, .ref ik, .ref la, .ref lg, .ref ce, .int vto])), (st, .inl (G 0, 196, .inl g33)), (od, .inl (G 1, 10, .inr (.inl g34))), (th, .inl (G 1, 10, .inr (.inl g35)))] H → va_D A [(h0, .inr (11, [.ref st, .int (nI N), .int (nI B), .ref rp, .int vrs, .int vrb, .int vhs, .int vca, .int vxs, .int vxb, .ref tp, .int (nI T), .int vfa, .int vbr, .int vba, .int vsp, .int vhe, .int vtk, .int vva, .ref cu, .ref lt, .ref od, .ref th, .ref be, .ref ln, .int (nI S), .ref ma, .int (nI M), .ref ah, .ref bh, .ref ik, .ref la, .ref lg, .ref ce, .int vto])), (st, .inl (G 0, 196, .inl g33)), (od, .inl (G 1, 10, .inr (.inl g34))), (th, .inl (G 1, 10, .inr (.inl g35)))] → va_S A s.heap H locs → ∀ (ls : Array Slot), lv_has ls 7 [(6, .int (nI j30)), (5, .int (nI j9)), (4, .int y31), (2, .long y32), (0, .ref h0), (1, .int what)] → W p l e (headSpec (Cond.code yX11_swap cX11_swap 7 (some .long) :: GT) ({ frames := 4, cells := 0, slots := 0, locals := 99 } : Room)).room s m ([.ref h0, .int what] : List Value).toArray below meth c H locs 0 0 (MQ below (va_Ql (fun (r : Int64) (u : (Nat → Int32) × (Nat → Int64) × (Nat → Int64)) => match u with | (ost, ood, oth) => (True) ∧ OKS ost ∧ ost = fst) (fun (u : (Nat → Int32) × (Nat → Int64) × (Nat → Int64)) (t : State) => match u with | (ost, ood, oth) => va_P (dC, dI) vwCl [(h0, .inr (11, [.ref st, .int (nI N), .int (nI B), .ref rp, .int vrs, .int vrb, .int vhs, .int vca, .int vxs, .int vxb, .ref tp, .int (nI T), .int vfa, .int vbr, .int vba, .int vsp, .int vhe, .int vtk, .int vva, .ref cu, .ref lt, .ref od, .ref th, .ref be, .ref ln, .int (nI S), .ref ma, .int (nI M), .ref ah, .ref bh, .ref ik, .ref la, .ref lg, .ref ce, .int vto])), (st, .inl (G 0, 196, .inl ost)), (od, .inl (G 1, 10, .inr (.inl ood))), (th, .inl (G 1, 10, .inr (.inl oth)))] t.heap ∧ va_D A [(h0, .inr (11, [.ref st, .int (nI N), .int (nI B), .ref rp, .int vrs, .int vrb, .int vhs, .int vca, .int vxs, .int vxb, .ref tp, .int (nI T), .int vfa, .int vbr, .int vba, .int vsp, .int vhe, .int vtk, .int vva, .ref cu, .ref lt, .ref od, .ref th, .ref be, .ref ln, .int (nI S), .ref ma, .int (nI M), .ref ah, .ref bh, .ref ik, .ref la, .ref lg, .ref ce, .int vto])), (st, .inl (G 0, 196, .inl ost)), (od, .inl (G 1, 10, .inr (.inl ood))), (th, .inl (G 1, 10, .inr (.inl oth)))]) A) ([.ref h0, .int what] : List Value).toArray s 0 0 A) (F0 m 56 ls []) := by
            intro nf
            induction nf with
            | zero => intro j30 h1 h2; exact absurd h1 (by omega)
            | succ nf ih56_36 =>
              intro j30 hn37 hj38 hlo_j30 y31 y32 g33 g34 g35 H locs hinv hP hD hS ls hl
              refine lv_iload hx hb dX11_swap_56 (lv_at hl 0 rfl) ?_
              refine lv_aload_n hx hb dX11_swap_58 rfl (lv_at hl 4 rfl) ?_
              refine va_get (D := (dC, dI)) (ci := 11) (v := .int (nI N)) (C := RX11) (T := TX11) (N := 35) hx hb hg inG11 hown hK.1 hP 0 rfl rfl 1 (Nat.le_of_ble_eq_true rfl) (hg _ wt_879) (fun _ h9 => h9) rfl dX11_swap_59 ?_
              refine lv_icmp_ge (tgt := 146) hx hb dX11_swap_62 rfl (fun c39 => ?_) (fun c39 => ?_)
              · skip
                have tn2181_ : nIT j30 := fun _ => nI_toInt (by first | omega | (have t := leI c39; omega))
                have n40 : N ≤ j30 := by have t := leI c39; rw [show (nI (j30)).toInt = ((j30 : Nat) : Int) from tn2181_ ()] at t; rw [show (nI (N)).toInt = ((N : Nat) : Int) from tn2174_ ()] at t; omega
                refine lv_iinc (v := nI (j9 + 1)) (lv' := [(5, .int (nI (j9 + 1))), (6, .int (nI j30)), (4, .int y31), (2, .long y32), (0, .ref h0), (1, .int what)]) hx hb dX11_swap_146 hl (k := 1) rfl (by rw [show Int32.ofInt 1 = nI 1 from by decide]; exact nI_add _ _) (by decide) rfl (fun ls hl => ?_)
                refine lv_goto (tgt := 41) hx hb dX11_swap_149 rfl ?_
                exact ih41_15 (j9 + 1) (by omega) (by omega) y31 y32 g33 g34 g35 _ _ hinv hP hD hS ls (lv_sub hl [0, 2, 3, 4, 5] rfl)
              · skip
                have tn2182_ : nIT j30 := fun _ => nI_toInt (by first | omega | (have t := nleI c39; omega))
                have n41 : j30 < N := by have t := nleI c39; rw [show (nI (j30)).toInt = ((j30 : Nat) : Int) from tn2182_ ()] at t; rw [show (nI (N)).toInt = ((N : Nat) : Int) from tn2174_ ()] at t; omega
                refine lv_aload_n hx hb dX11_swap_65 rfl (lv_at hl 4 rfl) ?_
                refine lv_iload hx hb dX11_swap_66 (lv_at hl 1 rfl) ?_
                refine lv_iload hx hb dX11_swap_68 (lv_at hl 0 rfl) ?_
                obtain ⟨hPc, hDc, hFc⟩ := va_sub3 (ws' := [(h0, .inr (11, [.ref st, .int (nI N), .int (nI B), .ref rp, .int vrs, .int vrb, .int vhs, .int vca, .int vxs, .int vxb, .ref tp, .int (nI T), .int vfa, .int vbr, .int vba, .int vsp, .int vhe, .int vtk, .int vva, .ref cu, .ref lt, .ref od, .ref th, .ref be, .ref ln, .int (nI S), .ref ma, .int (nI M), .ref ah, .ref bh, .ref ik, .ref la, .ref lg, .ref ce, .int vto])), (st, .inl (G 0, 196, .inl g33))]) hP hD hS hA [0, 1] (by decide +kernel) rfl
                refine va_callv (va_runV (As := [.int (nI j9), .int (nI j30)]) (rest := []) ⟨hx, hb, hml, hown, hg⟩ (c_X11_changesO l dC dI G _ h0 j9 j30 st N B rp tp T cu lt od th be ln S ma M ah bh ik la lg ce vrs vrb vhs vca vxs vxb vfa vbr vba vsp vhe vtk vva vto g33 hN hB_ hT_ hS0 hM_ hinv.1 (by first | omega | (have t_b4 := b4; have t_hj17 := hj17; have t_n29 := n29; have t_hj38 := hj38; have t_hlo_j30 := hlo_j30; have t_n41 := n41; have tnb_ := nib7 tn2174_ tn2175_ tn2176_ tn2177_ tn2178_ tn2180_ tn2182_; omega)) (by first | omega | (have t_b4 := b4; have t_hj17 := hj17; have t_n29 := n29; have t_hj38 := hj38; have t_hlo_j30 := hlo_j30; have t_n41 := n41; have tnb_ := nib7 tn2174_ tn2175_ tn2176_ tn2177_ tn2178_ tn2180_ tn2182_; omega))) (kwV hg mfX11_changes wt_1187 ⟨Nat.le_of_ble_eq_true rfl, Nat.le_of_ble_eq_true rfl⟩) (preVW hK hPc hDc (ci := 11) (r := (RX11, TX11, 35)) rfl rfl) rfl rfl hl.1 rfl (lv_room (Nat.le_of_ble_eq_true rfl)) dX11_swap_70 ⟨Nat.le_of_ble_eq_true rfl, Nat.le_of_ble_eq_true rfl⟩) hS (fun q _ h => hFc q h) hFc (fun ur42 t H1 locs ht hvm w43 hB hz1 hk1 hS => ?_)
                obtain ⟨u44, rfl⟩ : ∃ z, z = ur42 := ⟨_, rfl⟩
                obtain ⟨hP1, hD1⟩ := hB
                rw [ht] at hP1
                obtain ⟨hP, hD⟩ := va_join (wr := [(od, .inl (G 1, 10, .inr (.inl g34))), (th, .inl (G 1, 10, .inr (.inl g35)))]) (w1 := [(h0, .inr (11, [.ref st, .int (nI N), .int (nI B), .ref rp, .int vrs, .int vrb, .int vhs, .int vca, .int vxs, .int vxb, .ref tp, .int (nI T), .int vfa, .int vbr, .int vba, .int vsp, .int vhe, .int vtk, .int vva, .ref cu, .ref lt, .ref od, .ref th, .ref be, .ref ln, .int (nI S), .ref ma, .int (nI M), .ref ah, .ref bh, .ref ik, .ref la, .ref lg, .ref ce, .int vto])), (st, .inl (G 0, 196, .inl u44))]) hP hD [0, 1] [2, 3] rfl rfl (by decide +kernel) (by decide +kernel) hk1 hFc hP1 hD1
                have w43 : OKS u44 ∧ u44 = xch g33 j9 j30 := w43
                generalize H1 = H at hP hS ⊢
                refine lv_aload_n hx hb dX11_swap_73 rfl (lv_at hl 4 rfl) ?_
                refine lv_aload_n hx hb dX11_swap_74 rfl (lv_at hl 4 rfl) ?_
                refine va_get (D := (dC, dI)) (ci := 11) (v := .int (nI N)) (C := RX11) (T := TX11) (N := 35) hx hb hg inG11 hown hK.1 hP 2 rfl rfl 1 (Nat.le_of_ble_eq_true rfl) (hg _ wt_879) (fun _ h9 => h9) rfl dX11_swap_75 ?_
                refine lv_iconst (v := 0) hx hb dX11_swap_78 rfl ?_
                refine lv_bipush (v := (-4)) hx hb dX11_swap_79 rfl ?_
                obtain ⟨hPc, hDc, hFc⟩ := va_sub3 (ws' := [(h0, .inr (11, [.ref st, .int (nI N), .int (nI B), .ref rp, .int vrs, .int vrb, .int vhs, .int vca, .int vxs, .int vxb, .ref tp, .int (nI T), .int vfa, .int vbr, .int vba, .int vsp, .int vhe, .int vtk, .int vva, .ref cu, .ref lt, .ref od, .ref th, .ref be, .ref ln, .int (nI S), .ref ma, .int (nI M), .ref ah, .ref bh, .ref ik, .ref la, .ref lg, .ref ce, .int vto])), (st, .inl (G 0, 196, .inl u44)), (od, .inl (G 1, 10, .inr (.inl g34))), (th, .inl (G 1, 10, .inr (.inl g35)))]) hP hD hS hA [2, 3, 0, 1] (by decide +kernel) rfl
                refine va_callv (va_runV (As := [.int (nI N), .int 0, .int (-4)]) (rest := []) ⟨hx, hb, hml, hown, hg⟩ (c_X11_layOdds l dC dI G _ h0 N st N B rp tp T cu lt od th be ln S ma M ah bh ik la lg ce 0 (-4) vrs vrb vhs vca vxs vxb vfa vbr vba vsp vhe vtk vva vto u44 g34 g35 hN hB_ hT_ hS0 hM_ w43.1 hN) (kwV hg mfX11_layOdds wt_1119 ⟨Nat.le_of_ble_eq_true rfl, Nat.le_of_ble_eq_true rfl⟩) (preVW hK hPc hDc (ci := 11) (r := (RX11, TX11, 35)) rfl rfl) rfl rfl hl.1 rfl (lv_room (Nat.le_of_ble_eq_true rfl)) dX11_swap_81 ⟨Nat.le_of_ble_eq_true rfl, Nat.le_of_ble_eq_true rfl⟩) hS (fun q _ h => hFc q h) hFc (fun ur45 t H1 locs ht hvm w46 hB hz1 hk1 hS => ?_)
                obtain ⟨u47, u48⟩ := ur45
                obtain ⟨hP1, hD1⟩ := hB
                rw [ht] at hP1
                obtain ⟨hP, hD⟩ := va_join (wr := []) (w1 := [(h0, .inr (11, [.ref st, .int (nI N), .int (nI B), .ref rp, .int vrs, .int vrb, .int vhs, .int vca, .int vxs, .int vxb, .ref tp, .int (nI T), .int vfa, .int vbr, .int vba, .int vsp, .int vhe, .int vtk, .int vva, .ref cu, .ref lt, .ref od, .ref th, .ref be, .ref ln, .int (nI S), .ref ma, .int (nI M), .ref ah, .ref bh, .ref ik, .ref la, .ref lg, .ref ce, .int vto])), (st, .inl (G 0, 196, .inl u44)), (od, .inl (G 1, 10, .inr (.inl u47))), (th, .inl (G 1, 10, .inr (.inl u48)))]) hP hD [2, 3, 0, 1] [] rfl rfl (by decide +kernel) (by decide +kernel) hk1 hFc hP1 hD1
                generalize H1 = H at hP hS ⊢
                refine lv_aload_n hx hb dX11_swap_84 rfl (lv_at hl 4 rfl) ?_
                refine lv_iload hx hb dX11_swap_85 (lv_at hl 1 rfl) ?_
                refine lv_iload hx hb dX11_swap_87 (lv_at hl 0 rfl) ?_
                obtain ⟨hPc, hDc, hFc⟩ := va_sub3 (ws' := [(h0, .inr (11, [.ref st, .int (nI N), .int (nI B), .ref rp, .int vrs, .int vrb, .int vhs, .int vca, .int vxs, .int vxb, .ref tp, .int (nI T), .int vfa, .int vbr, .int vba, .int vsp, .int vhe, .int vtk, .int vva, .ref cu, .ref lt, .ref od, .ref th, .ref be, .ref ln, .int (nI S), .ref ma, .int (nI M), .ref ah, .ref bh, .ref ik, .ref la, .ref lg, .ref ce, .int vto])), (st, .inl (G 0, 196, .inl u44))]) hP hD hS hA [0, 1] (by decide +kernel) rfl
                refine va_callv (va_runV (As := [.int (nI j9), .int (nI j30)]) (rest := []) ⟨hx, hb, hml, hown, hg⟩ (c_X11_changesO l dC dI G _ h0 j9 j30 st N B rp tp T cu lt od th be ln S ma M ah bh ik la lg ce vrs vrb vhs vca vxs vxb vfa vbr vba vsp vhe vtk vva vto u44 hN hB_ hT_ hS0 hM_ w43.1 (by first | omega | (have t_b4 := b4; have t_hj17 := hj17; have t_n29 := n29; have t_hj38 := hj38; have t_hlo_j30 := hlo_j30; have t_n41 := n41; have tnb_ := nib7 tn2174_ tn2175_ tn2176_ tn2177_ tn2178_ tn2180_ tn2182_; omega)) (by first | omega | (have t_b4 := b4; have t_hj17 := hj17; have t_n29 := n29; have t_hj38 := hj38; have t_hlo_j30 := hlo_j30; have t_n41 := n41; have tnb_ := nib7 tn2174_ tn2175_ tn2176_ tn2177_ tn2178_ tn2180_ tn2182_; omega))) (kwV hg mfX11_changes wt_1187 ⟨Nat.le_of_ble_eq_true rfl, Nat.le_of_ble_eq_true rfl⟩) (preVW hK hPc hDc (ci := 11) (r := (RX11, TX11, 35)) rfl rfl) rfl rfl hl.1 rfl (lv_room (Nat.le_of_ble_eq_true rfl)) dX11_swap_89 ⟨Nat.le_of_ble_eq_true rfl, Nat.le_of_ble_eq_true rfl⟩) hS (fun q _ h => hFc q h) hFc (fun ur49 t H1 locs ht hvm w50 hB hz1 hk1 hS => ?_)
                obtain ⟨u51, rfl⟩ : ∃ z, z = ur49 := ⟨_, rfl⟩
                obtain ⟨hP1, hD1⟩ := hB
                rw [ht] at hP1
                obtain ⟨hP, hD⟩ := va_join (wr := [(od, .inl (G 1, 10, .inr (.inl u47))), (th, .inl (G 1, 10, .inr (.inl u48)))]) (w1 := [(h0, .inr (11, [.ref st, .int (nI N), .int (nI B), .ref rp, .int vrs, .int vrb, .int vhs, .int vca, .int vxs, .int vxb, .ref tp, .int (nI T), .int vfa, .int vbr, .int vba, .int vsp, .int vhe, .int vtk, .int vva, .ref cu, .ref lt, .ref od, .ref th, .ref be, .ref ln, .int (nI S), .ref ma, .int (nI M), .ref ah, .ref bh, .ref ik, .ref la, .ref lg, .ref ce, .int vto])), (st, .inl (G 0, 196, .inl u51))]) hP hD [0, 1] [2, 3] rfl rfl (by decide +kernel) (by decide +kernel) hk1 hFc hP1 hD1
                have w50 : OKS u51 ∧ u51 = xch u44 j9 j30 := w50
                generalize H1 = H at hP hS ⊢
                have okw50 : OKS u51 ∧ u51 = fst := ⟨w50.1, (by rw [w50.2, w43.2, xch_xch]; exact hinv.2)⟩
                refine lv_aload_n hx hb dX11_swap_92 rfl (lv_at hl 4 rfl) ?_
                refine va_get (D := (dC, dI)) (ci := 11) (v := .ref od) (C := RX11) (T := TX11) (N := 35) hx hb hg inG11 hown hK.1 hP 2 rfl rfl 21 (Nat.le_of_ble_eq_true rfl) (hg _ wt_899) (fun _ h9 => h9) rfl dX11_swap_93 ?_
                refine lv_iconst (v := 0) hx hb dX11_swap_96 rfl ?_
                refine va_lald hx hb hK.1 hP 0 1 rfl rfl (vp_in_iff.mpr ⟨by decide, by decide⟩) dX11_swap_97 ?_
                refine lv_cgl (y := u47 0) (by rfl) ?_
                refine lv_lload_n hx hb dX11_swap_98 rfl (lv_at hl 3 rfl) ?_
                refine W.lcmp hx hb dX11_swap_99 ?_
                have cut116_53 : ∀ (y52 : Int32) (H : Heap) (locs : List Loc), va_P (dC, dI) vwCl [(od, .inl (G 1, 10, .inr (.inl u47))), (th, .inl (G 1, 10, .inr (.inl u48))), (h0, .inr (11, [.ref st, .int (nI N), .int (nI B), .ref rp, .int vrs, .int vrb, .int vhs, .int vca, .int vxs, .int vxb, .ref tp, .int (nI T), .int vfa, .int vbr, .int vba, .int vsp, .int vhe, .int vtk, .int vva, .ref cu, .ref lt, .ref od, .ref th, .ref be, .ref ln, .int (nI S), .ref ma, .int (nI M), .ref ah, .ref bh, .ref ik, .ref la, .ref lg, .ref ce, .int vto])), (st, .inl (G 0, 196, .inl u51))] H → va_D A [(od, .inl (G 1, 10, .inr (.inl u47))), (th, .inl (G 1, 10, .inr (.inl u48))), (h0, .inr (11, [.ref st, .int (nI N), .int (nI B), .ref rp, .int vrs, .int vrb, .int vhs, .int vca, .int vxs, .int vxb, .ref tp, .int (nI T), .int vfa, .int vbr, .int vba, .int vsp, .int vhe, .int vtk, .int vva, .ref cu, .ref lt, .ref od, .ref th, .ref be, .ref ln, .int (nI S), .ref ma, .int (nI M), .ref ah, .ref bh, .ref ik, .ref la, .ref lg, .ref ce, .int vto])), (st, .inl (G 0, 196, .inl u51))] → va_S A s.heap H locs → ∀ (ls : Array Slot), lv_has ls 7 [(6, .int (nI j30)), (5, .int (nI j9)), (4, .int y31), (2, .long y32), (0, .ref h0), (1, .int what)] → W p l e (headSpec (Cond.code yX11_swap cX11_swap 7 (some .long) :: GT) ({ frames := 4, cells := 0, slots := 0, locals := 99 } : Room)).room s m ([.ref h0, .int what] : List Value).toArray below meth c H locs 0 0 (MQ below (va_Ql (fun (r : Int64) (u : (Nat → Int32) × (Nat → Int64) × (Nat → Int64)) => match u with | (ost, ood, oth) => (True) ∧ OKS ost ∧ ost = fst) (fun (u : (Nat → Int32) × (Nat → Int64) × (Nat → Int64)) (t : State) => match u with | (ost, ood, oth) => va_P (dC, dI) vwCl [(h0, .inr (11, [.ref st, .int (nI N), .int (nI B), .ref rp, .int vrs, .int vrb, .int vhs, .int vca, .int vxs, .int vxb, .ref tp, .int (nI T), .int vfa, .int vbr, .int vba, .int vsp, .int vhe, .int vtk, .int vva, .ref cu, .ref lt, .ref od, .ref th, .ref be, .ref ln, .int (nI S), .ref ma, .int (nI M), .ref ah, .ref bh, .ref ik, .ref la, .ref lg, .ref ce, .int vto])), (st, .inl (G 0, 196, .inl ost)), (od, .inl (G 1, 10, .inr (.inl ood))), (th, .inl (G 1, 10, .inr (.inl oth)))] t.heap ∧ va_D A [(h0, .inr (11, [.ref st, .int (nI N), .int (nI B), .ref rp, .int vrs, .int vrb, .int vhs, .int vca, .int vxs, .int vxb, .ref tp, .int (nI T), .int vfa, .int vbr, .int vba, .int vsp, .int vhe, .int vtk, .int vva, .ref cu, .ref lt, .ref od, .ref th, .ref be, .ref ln, .int (nI S), .ref ma, .int (nI M), .ref ah, .ref bh, .ref ik, .ref la, .ref lg, .ref ce, .int vto])), (st, .inl (G 0, 196, .inl ost)), (od, .inl (G 1, 10, .inr (.inl ood))), (th, .inl (G 1, 10, .inr (.inl oth)))]) A) ([.ref h0, .int what] : List Value).toArray s 0 0 A) (F0 m 116 ls [.int y52]) := by
                  intro y52 H locs hP hD hS ls hl
                  refine lv_istore (lv' := [(4, .int y52), (6, .int (nI j30)), (5, .int (nI j9)), (2, .long y32), (0, .ref h0), (1, .int what)]) hx hb dX11_swap_116 hl (by decide) rfl (fun ls hl => ?_)
                  refine lv_aload_n hx hb dX11_swap_118 rfl (lv_at hl 4 rfl) ?_
                  refine va_get (D := (dC, dI)) (ci := 11) (v := .ref od) (C := RX11) (T := TX11) (N := 35) hx hb hg inG11 hown hK.1 hP 2 rfl rfl 21 (Nat.le_of_ble_eq_true rfl) (hg _ wt_899) (fun _ h9 => h9) rfl dX11_swap_119 ?_
                  refine lv_iconst (v := 0) hx hb dX11_swap_122 rfl ?_
                  refine va_lald hx hb hK.1 hP 0 1 rfl rfl (vp_in_iff.mpr ⟨by decide, by decide⟩) dX11_swap_123 ?_
                  refine lv_cgl (y := u47 0) (by rfl) ?_
                  refine lv_lload_n hx hb dX11_swap_124 rfl (lv_at hl 3 rfl) ?_
                  refine W.lcmp hx hb dX11_swap_125 ?_
                  have cut139_55 : ∀ (y54 : Int64) (H : Heap) (locs : List Loc), va_P (dC, dI) vwCl [(od, .inl (G 1, 10, .inr (.inl u47))), (th, .inl (G 1, 10, .inr (.inl u48))), (h0, .inr (11, [.ref st, .int (nI N), .int (nI B), .ref rp, .int vrs, .int vrb, .int vhs, .int vca, .int vxs, .int vxb, .ref tp, .int (nI T), .int vfa, .int vbr, .int vba, .int vsp, .int vhe, .int vtk, .int vva, .ref cu, .ref lt, .ref od, .ref th, .ref be, .ref ln, .int (nI S), .ref ma, .int (nI M), .ref ah, .ref bh, .ref ik, .ref la, .ref lg, .ref ce, .int vto])), (st, .inl (G 0, 196, .inl u51))] H → va_D A [(od, .inl (G 1, 10, .inr (.inl u47))), (th, .inl (G 1, 10, .inr (.inl u48))), (h0, .inr (11, [.ref st, .int (nI N), .int (nI B), .ref rp, .int vrs, .int vrb, .int vhs, .int vca, .int vxs, .int vxb, .ref tp, .int (nI T), .int vfa, .int vbr, .int vba, .int vsp, .int vhe, .int vtk, .int vva, .ref cu, .ref lt, .ref od, .ref th, .ref be, .ref ln, .int (nI S), .ref ma, .int (nI M), .ref ah, .ref bh, .ref ik, .ref la, .ref lg, .ref ce, .int vto])), (st, .inl (G 0, 196, .inl u51))] → va_S A s.heap H locs → ∀ (ls : Array Slot), lv_has ls 7 [(4, .int y52), (6, .int (nI j30)), (5, .int (nI j9)), (2, .long y32), (0, .ref h0), (1, .int what)] → W p l e (headSpec (Cond.code yX11_swap cX11_swap 7 (some .long) :: GT) ({ frames := 4, cells := 0, slots := 0, locals := 99 } : Room)).room s m ([.ref h0, .int what] : List Value).toArray below meth c H locs 0 0 (MQ below (va_Ql (fun (r : Int64) (u : (Nat → Int32) × (Nat → Int64) × (Nat → Int64)) => match u with | (ost, ood, oth) => (True) ∧ OKS ost ∧ ost = fst) (fun (u : (Nat → Int32) × (Nat → Int64) × (Nat → Int64)) (t : State) => match u with | (ost, ood, oth) => va_P (dC, dI) vwCl [(h0, .inr (11, [.ref st, .int (nI N), .int (nI B), .ref rp, .int vrs, .int vrb, .int vhs, .int vca, .int vxs, .int vxb, .ref tp, .int (nI T), .int vfa, .int vbr, .int vba, .int vsp, .int vhe, .int vtk, .int vva, .ref cu, .ref lt, .ref od, .ref th, .ref be, .ref ln, .int (nI S), .ref ma, .int (nI M), .ref ah, .ref bh, .ref ik, .ref la, .ref lg, .ref ce, .int vto])), (st, .inl (G 0, 196, .inl ost)), (od, .inl (G 1, 10, .inr (.inl ood))), (th, .inl (G 1, 10, .inr (.inl oth)))] t.heap ∧ va_D A [(h0, .inr (11, [.ref st, .int (nI N), .int (nI B), .ref rp, .int vrs, .int vrb, .int vhs, .int vca, .int vxs, .int vxb, .ref tp, .int (nI T), .int vfa, .int vbr, .int vba, .int vsp, .int vhe, .int vtk, .int vva, .ref cu, .ref lt, .ref od, .ref th, .ref be, .ref ln, .int (nI S), .ref ma, .int (nI M), .ref ah, .ref bh, .ref ik, .ref la, .ref lg, .ref ce, .int vto])), (st, .inl (G 0, 196, .inl ost)), (od, .inl (G 1, 10, .inr (.inl ood))), (th, .inl (G 1, 10, .inr (.inl oth)))]) A) ([.ref h0, .int what] : List Value).toArray s 0 0 A) (F0 m 139 ls [.long y54]) := by
                    intro y54 H locs hP hD hS ls hl
                    refine lv_lstore_n (lv' := [(2, .long y54), (4, .int y52), (6, .int (nI j30)), (5, .int (nI j9)), (0, .ref h0), (1, .int what)]) hx hb dX11_swap_139 rfl hl (by decide) rfl (fun ls hl => ?_)
                    refine lv_iinc (v := nI (j30 + 1)) (lv' := [(6, .int (nI (j30 + 1))), (2, .long y54), (4, .int y52), (5, .int (nI j9)), (0, .ref h0), (1, .int what)]) hx hb dX11_swap_140 hl (k := 2) rfl (by rw [show Int32.ofInt 1 = nI 1 from by decide]; exact nI_add _ _) (by decide) rfl (fun ls hl => ?_)
                    refine lv_goto (tgt := 56) hx hb dX11_swap_143 rfl ?_
                    exact ih56_36 (j30 + 1) (by omega) (by omega) (by omega) y52 y54 u51 u47 u48 _ _ okw50 (hP.sub [2, 3, 0, 1] rfl) (hD.sub [2, 3, 0, 1] (by decide) rfl) hS ls (lv_sub hl [0, 3, 2, 1, 4, 5] rfl)
                  refine lv_if_ge (tgt := 138) hx hb dX11_swap_126 rfl (fun c56 => ?_) (fun c56 => ?_)
                  · skip
                    refine lv_lload_n hx hb dX11_swap_138 rfl (lv_at hl 3 rfl) ?_
                    exact cut139_55 y32 _ _ hP hD hS ls (lv_sub hl [0, 1, 2, 3, 4, 5] rfl)
                  · skip
                    refine lv_aload_n hx hb dX11_swap_129 rfl (lv_at hl 4 rfl) ?_
                    refine va_get (D := (dC, dI)) (ci := 11) (v := .ref od) (C := RX11) (T := TX11) (N := 35) hx hb hg inG11 hown hK.1 hP 2 rfl rfl 21 (Nat.le_of_ble_eq_true rfl) (hg _ wt_899) (fun _ h9 => h9) rfl dX11_swap_130 ?_
                    refine lv_iconst (v := 0) hx hb dX11_swap_133 rfl ?_
                    refine va_lald hx hb hK.1 hP 0 1 rfl rfl (vp_in_iff.mpr ⟨by decide, by decide⟩) dX11_swap_134 ?_
                    refine lv_cgl (y := u47 0) (by rfl) ?_
                    refine lv_goto (tgt := 139) hx hb dX11_swap_135 rfl ?_
                    exact cut139_55 (u47 0) _ _ hP hD hS ls (lv_sub hl [0, 1, 2, 3, 4, 5] rfl)
                refine lv_if_ge (tgt := 114) hx hb dX11_swap_100 rfl (fun c57 => ?_) (fun c57 => ?_)
                · skip
                  refine lv_iload hx hb dX11_swap_114 (lv_at hl 2 rfl) ?_
                  exact cut116_53 y31 _ _ hP hD hS ls (lv_sub hl [0, 1, 2, 3, 4, 5] rfl)
                · skip
                  refine lv_bipush (v := 10) hx hb dX11_swap_103 rfl ?_
                  refine lv_iload hx hb dX11_swap_105 (lv_at hl 1 rfl) ?_
                  refine lv_imul hx hb dX11_swap_107 ?_
                  refine lv_cg (y := nI (10 * j9)) (by rw [show (10 : Int32) = nI 10 from rfl]; exact pk_mul _ _) ?_
                  refine lv_iload hx hb dX11_swap_108 (lv_at hl 0 rfl) ?_
                  refine lv_iadd hx hb dX11_swap_110 ?_
                  refine lv_cg (y := nI ((10 * j9) + j30)) (by exact nI_add _ _) ?_
                  refine lv_goto (tgt := 116) hx hb dX11_swap_111 rfl ?_
                  exact cut116_53 (nI ((10 * j9) + j30)) _ _ hP hD hS ls (lv_sub hl [0, 1, 2, 3, 4, 5] rfl)
          exact loop56_36 (N + 1) (j9 + 1) (by omega) (by omega) (by omega) y10 y11 g12 g13 g14 _ _ hinv hP hD hS ls (lv_sub hl [0, 1, 2, 3, 4, 5] rfl)
    exact loop41_15 (N + 1) 0 (by omega) (by omega) (-4) (u7 0) fst u7 u8 _ _ ⟨hst, rfl⟩ hP hD hS ls (lv_sub hl [0, 1, 2, 3, 4] rfl)
  · skip
    have b58 := if10_n c3
    refine lv_ldc2 (v := (-1)) hx hb hown (hg _ wt_1118) dX11_swap_12 ?_
    have hpost : True := by
      trivial
    obtain ⟨hP9, hD9⟩ := va_sub2 (ws' := [(h0, .inr (11, [.ref st, .int (nI N), .int (nI B), .ref rp, .int vrs, .int vrb, .int vhs, .int vca, .int vxs, .int vxb, .ref tp, .int (nI T), .int vfa, .int vbr, .int vba, .int vsp, .int vhe, .int vtk, .int vva, .ref cu, .ref lt, .ref od, .ref th, .ref be, .ref ln, .int (nI S), .ref ma, .int (nI M), .ref ah, .ref bh, .ref ik, .ref la, .ref lg, .ref ce, .int vto])), (st, .inl (G 0, 196, .inl fst)), (od, .inl (G 1, 10, .inr (.inl fod))), (th, .inl (G 1, 10, .inr (.inl fth)))]) hP hD [0, 1, 2, 3] (by decide +kernel) rfl
    refine W.widen (k := 0) (n := 0) (Nat.le_of_ble_eq_true rfl) (Nat.le_of_ble_eq_true rfl) ?_
    exact W.lret (v := (-1)) hx hb hr (fun t ht hW => ⟨⟨(-1), (fst, fod, fth), rfl, ⟨hpost, ⟨hst, rfl⟩⟩, ⟨by rw [ht]; exact hP9, hD9⟩⟩, hS.F ht⟩) hS.2.2 dX11_swap_15

def OR (f O : Nat → Int32) : Prop := ∀ i : Nat, i < 10 → O i = f i
def SO (o : Nat) (st O : Nat → Int32) : Prop := ∀ i : Nat, i < 10 → st (o + i) = O i
theorem OR.set {C : Prop} [Decidable C] {j : Nat} {v : Int32} {f O : Nat → Int32} (h : OR f O) : OR (if C then upd f j v else f) (if C then upd O j v else O) := by
  split
  · intro i hi
    show (if i = j then v else O i) = (if i = j then v else f i)
    rw [h i hi]
  · exact h
theorem SO.set {C : Prop} [Decidable C] {o j : Nat} {v : Int32} {st O : Nat → Int32} (h : SO o st O) : SO o (if C then upd st (o + j) v else st) (if C then upd O j v else O) := by
  split
  · intro i hi
    show (if o + i = o + j then v else st (o + i)) = (if i = j then v else O i)
    by_cases e : i = j
    · rw [if_pos e, if_pos (by omega)]
    · rw [if_neg e, if_neg (by omega)]; exact h i hi
  · exact h
theorem SO.oth {C : Prop} [Decidable C] {o j : Nat} {v : Int32} {st O : Nat → Int32} (h : SO o st O) (ho : C → j < o ∨ o + 10 ≤ j) : SO o (if C then upd st j v else st) O := by
  split
  · rename_i c
    intro i hi
    have := ho c
    exact (if_neg (by omega)).trans (h i hi)
  · exact h
theorem rdO_pt {a b o o2 : Nat → Int32} {i : Nat} (h : o i = o2 i) : ∀ n : Nat, rdO a b o n i = rdO a b o2 n i := by
  intro n
  induction n with
  | zero => exact h
  | succ n ih =>
    show (if i = (a n).toNatClampNeg then b n else rdO a b o n i) = (if i = (a n).toNatClampNeg then b n else rdO a b o2 n i)
    rw [ih]
theorem rdF_pt {N B m : Nat} {a b o o2 : Nat → Int32} {i : Nat} (h : o i = o2 i) : rdF N B a b m o i = rdF N B a b m o2 i := by
  unfold rdF
  split
  · exact h
  · exact rdO_pt h m
theorem rdF_cg {N B m : Nat} {a b a2 b2 o : Nat → Int32} (ha : ∀ q : Nat, q < m → a q = a2 q) (hb : ∀ q : Nat, q < m → b q = b2 q) : rdF N B a b m o = rdF N B a2 b2 m o := by
  unfold rdF
  rw [rdI_cg ha hb m 0 (by omega), rdO_cg ha hb m (Nat.le_refl m)]
theorem rdR_cg {N B m : Nat} {a b a2 b2 : Nat → Int32} (ha : ∀ q : Nat, q < m → a q = a2 q) (hb : ∀ q : Nat, q < m → b q = b2 q) : rdR N B a b m = rdR N B a2 b2 m := by
  unfold rdR
  rw [rdI_cg ha hb m 0 (by omega)]
/-- pairs that are taken lie within the size -/
theorem tpK_in {L lane : Int32} {z f : Int} {n q : Nat} (h : q < tpK L lane z f n) : 0 ≤ f + 2 * (q : Int) ∧ f + 2 * (q : Int) + 1 < z := by
  unfold tpK at h
  split at h
  · have go : ∀ (n s : Nat), s ≤ q → q < tpM z f n s → 0 ≤ f + 2 * (q : Int) ∧ f + 2 * (q : Int) + 1 < z := by
      intro n
      induction n with
      | zero => intro s h1 h2; exact absurd (show q < s from h2) (by omega)
      | succ n ih =>
        intro s h1 h2
        have h3 : q < (if 0 ≤ f + 2 * (s : Int) ∧ f + 2 * (s : Int) + 1 < z then tpM z f n (s + 1) else s) := h2
        by_cases c : 0 ≤ f + 2 * (s : Int) ∧ f + 2 * (s : Int) + 1 < z
        · rw [if_pos c] at h3
          by_cases e : s = q
          · rw [← e]; exact c
          · exact ih (s + 1) (by omega) h3
        · rw [if_neg c] at h3; exact absurd h3 (by omega)
    exact go n 0 (Nat.zero_le q) h
  · exact absurd h (Nat.not_lt_zero q)
def CEc (Z : Nat → Int32) (F : Nat → Nat → Int32) (C : Nat → Int32) : Prop := ∀ k i : Nat, k < 4 → (i : Int) < (Z k).toInt → F k i = C (40 * k + i)
def CEr (Z fc C : Nat → Int32) : Prop := ∀ k i : Nat, k < 4 → (i : Int) < (Z k).toInt → fc (40 * k + i) = C (40 * k + i)

theorem OR.cpy {f e O : Nat → Int32} (h : OR f O) : OR (va_cpy f e 0 0 10) O := fun i hi => (h i hi).trans (cpy_i hi).symm
theorem OR.kp {k c : Int32} {f e O O1 : Nat → Int32} (h : OR f O) (h1 : OR e O1) : OR (if k = c then va_cpy f e 0 0 10 else e) (if k = c then O else O1) := by
  split
  · exact h.cpy
  · exact h1
theorem OR.bk {k : Int32} {K f a b O O1 O2 : Nat → Int32} (h : OR f O) (h1 : OR a O1) (h2 : OR b O2) : OR (if k = 0 ∧ ¬ K 0 = 0 then va_cpy a f 0 0 10 else if k = 1 ∧ ¬ K 1 = 0 then va_cpy b f 0 0 10 else f) (bkW k K O O1 O2) := by
  unfold bkW
  split
  · exact h1.cpy
  · split
    · exact h2.cpy
    · exact h
def txO (f : Nat → Int32) (T : Nat) (O : Nat → Int32) : Nat → Int32 := if 0 < (txF f T).toInt then O else fun i => (TQ f T).1.2.2.2.2.2.2.2 (38 + i)
theorem OR.text {f : Nat → Int32} {T : Nat} {f3 O : Nat → Int32} (h3 : T ≤ 320) {x3 : Int32} {g1 g2 g3 g4 g5 g6 : Nat → Int32} (h : OR f3 O) : OR (if (cFN T (cRA f T x3 g1 g2 g3 g4 g5 g6).1).1 = 0 then va_cpy ((cRA f T x3 g1 g2 g3 g4 g5 g6).1.2.2.2.2.2.2.2.2.2.2.1) f3 0 0 10 else f3) (txO f T O) := by
  have ts := text_sim (f := f) h3 x3 g1 g2 g3 g4 g5 g6 0 0 0 0 (fun _ => 0)
  unfold txO txF TQ
  generalize cRA f T x3 g1 g2 g3 g4 g5 g6 = Q at ts ⊢
  generalize txQ f T 0 0 0 0 (fun _ => 0) = X at ts ⊢
  rcases ts with ⟨p, q, _, w, _⟩ | g
  · rw [if_pos p, q, if_neg (by decide)]
    obtain ⟨⟨w1, w2, w3, w4, w5, w6⟩, w7, w8, w9, w10, w11⟩ := w
    exact OR.cpy (fun i hi => w10 i hi)
  · rw [if_neg g.m, if_pos g.pos]
    exact h
theorem SO.text {f : Nat → Int32} {T : Nat} {st O : Nat → Int32} (h3 : T ≤ 320) {ba : Int32} {he : Nat} {tk va : Int32} {fp : Nat → Int32} (h : SO 38 st O) : SO 38 (if 0 < (txE (txQ f T ba he tk va fp).1).1.toInt then st else cpF 49 (txQ f T ba he tk va fp).1.2.2.2.2.2.2.2 st) (txO f T O) := by
  have ta := text_sim (f := f) h3 0 (fun _ => 0) (fun _ => 0) (fun _ => 0) (fun _ => 0) (fun _ => 0) (fun _ => 0) 0 0 0 0 (fun _ => 0)
  have tb := text_sim (f := f) h3 0 (fun _ => 0) (fun _ => 0) (fun _ => 0) (fun _ => 0) (fun _ => 0) (fun _ => 0) ba he tk va fp
  unfold txO txF TQ
  generalize cRA f T 0 (fun _ => 0) (fun _ => 0) (fun _ => 0) (fun _ => 0) (fun _ => 0) (fun _ => 0) = Q at ta tb ⊢
  generalize txQ f T 0 0 0 0 (fun _ => 0) = X0 at ta ⊢
  generalize txQ f T ba he tk va fp = X at tb ⊢
  rcases ta with ⟨p, q, _, w, _⟩ | g
  · rcases tb with ⟨p', q', _, w', _⟩ | g'
    · rw [q, q', if_neg (by decide), if_neg (by decide)]
      obtain ⟨_, _, _, _, w10, _⟩ := w
      obtain ⟨_, _, _, _, v10, _⟩ := w'
      intro i hi
      show (if 38 + i < 49 then X.1.2.2.2.2.2.2.2 (38 + i) else st (38 + i)) = X0.1.2.2.2.2.2.2.2 (38 + i)
      rw [if_pos (by omega)]
      exact (v10 i hi).trans (w10 i hi).symm
    · exact absurd p g'.m
  · rcases tb with ⟨p', q', _, w', _⟩ | g'
    · exact absurd p' g.m
    · rw [if_pos g.pos, if_pos g'.pos]
      exact h
theorem SO.texto {o : Nat} {st fp O : Nat → Int32} {C : Prop} [Decidable C] (h : SO o st O) (ho : 49 ≤ o) : SO o (if C then st else cpF 49 fp st) O := by
  split
  · exact h
  · intro i hi
    exact (if_neg (by omega)).trans (h i hi)
theorem SO.kp0 {k : Int32} {st O : Nat → Int32} (h : SO 38 st O) : SO 38 (if 0 ≤ k.toInt ∧ k.toInt < 2 then cpj 0 (49 * (k.toNatClampNeg + 1)) 49 st else st) O := by
  split
  · intro i hi
    exact (cpj_out (by omega)).trans (h i hi)
  · exact h
theorem SO.kp1 {k : Int32} {st O O1 : Nat → Int32} (h : SO 38 st O) (h1 : SO 87 st O1) : SO 87 (if 0 ≤ k.toInt ∧ k.toInt < 2 then cpj 0 (49 * (k.toNatClampNeg + 1)) 49 st else st) (if k = 0 then O else O1) := by
  by_cases c : 0 ≤ k.toInt ∧ k.toInt < 2
  · rw [if_pos c]
    rcases k01 c with e | e
    · subst e
      rw [if_pos rfl]
      intro i hi
      have q : cpj 0 (49 * ((0 : Int32).toNatClampNeg + 1)) 49 st (49 + (38 + i)) = st (0 + (38 + i)) := cpj_in (by omega)
      rw [Nat.zero_add, ← Nat.add_assoc] at q
      exact q.trans (h i hi)
    · subst e
      rw [if_neg (by decide)]
      intro i hi
      have e1 : (1 : Int32).toNatClampNeg = 1 := by decide
      rw [e1]
      exact (cpj_out (by omega)).trans (h1 i hi)
  · rw [if_neg c, if_neg (fun e => c (by rw [e]; decide))]
    exact h1
theorem SO.kp2 {k : Int32} {st O O2 : Nat → Int32} (h : SO 38 st O) (h2 : SO 136 st O2) : SO 136 (if 0 ≤ k.toInt ∧ k.toInt < 2 then cpj 0 (49 * (k.toNatClampNeg + 1)) 49 st else st) (if k = 1 then O else O2) := by
  by_cases c : 0 ≤ k.toInt ∧ k.toInt < 2
  · rw [if_pos c]
    rcases k01 c with e | e
    · subst e
      rw [if_neg (by decide)]
      intro i hi
      have e1 : (0 : Int32).toNatClampNeg = 0 := by decide
      rw [e1]
      exact (cpj_out (by omega)).trans (h2 i hi)
    · subst e
      rw [if_pos rfl]
      intro i hi
      have q : cpj 0 (49 * ((1 : Int32).toNatClampNeg + 1)) 49 st (98 + (38 + i)) = st (0 + (38 + i)) := cpj_in (by omega)
      rw [Nat.zero_add, ← Nat.add_assoc] at q
      exact q.trans (h i hi)
  · rw [if_neg c, if_neg (fun e => c (by rw [e]; decide))]
    exact h2

-- a drop, and then a stretch: the same as both at once
-- Euclid
def sdN (st : Nat → Int32) : Nat := (st 48 + 5).toNatClampNeg
theorem sdN_ok {st : Nat → Int32} (h : okS 48 (st 48)) : st 48 + 5 = nI (sdN st) ∧ 1 ≤ sdN st ∧ sdN st ≤ 9 := by
  obtain ⟨k, e, h1, h2⟩ := start_nat h
  have e2 : sdN st = k := by
    unfold sdN
    rw [e, nI_clamp (by omega)]
  rw [e2]
  exact ⟨e, h1, h2⟩
def rhO (st : Nat → Int32) (i : Nat) (q : Int32) : Int32 := if i = 0 then rhN st i (st (38 + i)).toNatClampNeg q else rhB st i (st (38 + i - 1)).toNatClampNeg (st (38 + i)).toNatClampNeg q

set_option maxHeartbeats 1000000 in
set_option maxRecDepth 100000 in
theorem c_X11_startNowS (l : Launch) (dC : Nat → ClassId) (dI : Nat → Nat → Nat) (G : Nat → ClassId) (sz : Nat) (h0 st N B rp tp T cu lt od th be ln S ma M ah bh ik la lg ce : Nat) (vrs vrb vhs vca vxs vxb vfa vbr vba vsp vhe vtk vva vto : Int32) (fst : Nat → Int32) (hN : N ≤ 10) (hB : B ≤ 6) (hT : T ≤ 320) (hS0 : S ≤ 8) (hM : M ≤ 6) (hst : OKS fst) : Met l yX11_startNow (Cond.code yX11_startNow cX11_startNow 1 (some .int) :: GT) ({ frames := 0, cells := 0, slots := 0, locals := 0 } : Room) (PcR [.ref h0] dC dI G [(h0, .inr (11, [.ref st, .int (nI N), .int (nI B), .ref rp, .int vrs, .int vrb, .int vhs, .int vca, .int vxs, .int vxb, .ref tp, .int (nI T), .int vfa, .int vbr, .int vba, .int vsp, .int vhe, .int vtk, .int vva, .ref cu, .ref lt, .ref od, .ref th, .ref be, .ref ln, .int (nI S), .ref ma, .int (nI M), .ref ah, .ref bh, .ref ik, .ref la, .ref lg, .ref ce, .int vto])), (st, .inl (G 0, 196, .inl fst))] sz) (va_Qi (fun (r : Int32) (u : Unit) => match u with | _ => (r = nI (sdN fst) ∧ 1 ≤ sdN fst ∧ sdN fst ≤ 9) ∧ True) (fun _ _ => True) (fun q : Nat => sz ≤ q)) 0 0 (fun q : Nat => sz ≤ q) := by
  refine Met.ofW (cc := cX11_startNow) (maxL := 1) (ret := (some .int)) (by decide) rfl ?_
  intro p e s m args below meth c s₁ Bd hml hv
  obtain ⟨rfl, hsz, hP, hK⟩ := hv
  have hx := Bd.exec
  have hb := Bd.bytes
  have hr := Bd.returns
  have hg : ∀ w ∈ GT, w.before ([.ref h0] : List Value).toArray s = true := fun w h => atoms_spec (ws := Cond.code yX11_startNow cX11_startNow 1 (some .int) :: GT) Bd.pre w (List.mem_cons_of_mem _ h)
  have hown : s.vm.findClass RX11 = some m.cls := findClass_of_methodNamed Bd.named
  have hlocks := Bd.notSynchronized
  subst hsz
  have hA : ∀ q : Nat, s.heap.size ≤ q → (fun q : Nat => s.heap.size ≤ q) q := fun _ h => h
  have hS : va_S (fun q : Nat => s.heap.size ≤ q) s.heap s.heap [] := va_S.rf
  have hl := lv_entry ([.ref h0]) (n := 1) (Nat.le_of_ble_eq_true rfl)
  rw [lg_entry_eq]
  generalize (lg_sl ([.ref h0]) ++ List.replicate (1 - (lg_sl ([.ref h0])).length) Slot.unset).toArray = ls at hl ⊢
  have hl : lv_has ls 1 [(0, .ref h0)] := hl
  refine lv_aload_n hx hb dX11_startNow_0 rfl (lv_at hl 0 rfl) ?_
  refine va_get (D := (dC, dI)) (ci := 11) (v := .ref st) (C := RX11) (T := TX11) (N := 35) hx hb hg inG11 hown hK.1 hP 0 rfl rfl 0 (Nat.le_of_ble_eq_true rfl) (hg _ wt_878) (fun _ h9 => h9) rfl dX11_startNow_1 ?_
  refine lv_bipush (v := 48) hx hb dX11_startNow_4 rfl ?_
  refine va_iald hx hb hK.1 hP 1 0 rfl rfl (vp_in_iff.mpr ⟨by decide, by decide⟩) dX11_startNow_6 ?_
  refine lv_cg (y := fst 48) (by rfl) ?_
  refine lv_iconst (v := 5) hx hb dX11_startNow_7 rfl ?_
  refine lv_iadd hx hb dX11_startNow_8 ?_
  have hpost : ((fst 48) + 5 : Int32) = nI (sdN fst) ∧ 1 ≤ sdN fst ∧ sdN fst ≤ 9 := by
    exact sdN_ok (hst 48 (by omega))
  refine W.widen (k := 0) (n := 0) (Nat.le_of_ble_eq_true rfl) (Nat.le_of_ble_eq_true rfl) ?_
  exact W.iret (v := (fst 48) + 5) hx hb hr (fun t ht hW => ⟨⟨(fst 48) + 5, (), rfl, ⟨hpost, trivial⟩, trivial⟩, hS.F ht⟩) hS.2.2 dX11_startNow_9

set_option maxHeartbeats 1000000 in
set_option maxRecDepth 100000 in
theorem c_X11_orderedHarmE (l : Launch) (dC : Nat → ClassId) (dI : Nat → Nat → Nat) (G : Nat → ClassId) (sz : Nat) (h0 i st N B rp tp T cu lt od th be ln S ma M ah bh ik la lg ce : Nat) (q vrs vrb vhs vca vxs vxb vfa vbr vba vsp vhe vtk vva vto : Int32) (fst : Nat → Int32) (hN : N ≤ 10) (hB : B ≤ 6) (hT : T ≤ 320) (hS0 : S ≤ 8) (hM : M ≤ 6) (hi : i < 10) (hst : OKS fst) : Met l yX11_orderedHarm (Cond.code yX11_orderedHarm cX11_orderedHarm 3 (some .int) :: GT) ({ frames := 2, cells := 0, slots := 0, locals := 50 } : Room) (PcR [.ref h0, .int (nI i), .int q] dC dI G [(h0, .inr (11, [.ref st, .int (nI N), .int (nI B), .ref rp, .int vrs, .int vrb, .int vhs, .int vca, .int vxs, .int vxb, .ref tp, .int (nI T), .int vfa, .int vbr, .int vba, .int vsp, .int vhe, .int vtk, .int vva, .ref cu, .ref lt, .ref od, .ref th, .ref be, .ref ln, .int (nI S), .ref ma, .int (nI M), .ref ah, .ref bh, .ref ik, .ref la, .ref lg, .ref ce, .int vto])), (st, .inl (G 0, 196, .inl fst))] sz) (va_Qi (fun (r : Int32) (u : Unit) => match u with | _ => (r = rhO fst i q) ∧ True) (fun _ _ => True) (fun q : Nat => sz ≤ q)) 0 0 (fun q : Nat => sz ≤ q) := by
  have hB_ := hB
  have hM_ := hM
  have hT_ := hT
  have tn2258_ : nIT N := fun _ => nI_toInt (by omega)
  have tn2259_ : nIT B := fun _ => nI_toInt (by omega)
  have tn2260_ : nIT T := fun _ => nI_toInt (by omega)
  have tn2261_ : nIT S := fun _ => nI_toInt (by omega)
  have tn2262_ : nIT M := fun _ => nI_toInt (by omega)
  refine Met.ofW (cc := cX11_orderedHarm) (maxL := 3) (ret := (some .int)) (by decide) rfl ?_
  intro p e s m args below meth c s₁ Bd hml hv
  obtain ⟨rfl, hsz, hP, hK⟩ := hv
  have hx := Bd.exec
  have hb := Bd.bytes
  have hr := Bd.returns
  have hg : ∀ w ∈ GT, w.before ([.ref h0, .int (nI i), .int q] : List Value).toArray s = true := fun w h => atoms_spec (ws := Cond.code yX11_orderedHarm cX11_orderedHarm 3 (some .int) :: GT) Bd.pre w (List.mem_cons_of_mem _ h)
  have hown : s.vm.findClass RX11 = some m.cls := findClass_of_methodNamed Bd.named
  have hlocks := Bd.notSynchronized
  subst hsz
  have hA : ∀ q : Nat, s.heap.size ≤ q → (fun q : Nat => s.heap.size ≤ q) q := fun _ h => h
  have hS : va_S (fun q : Nat => s.heap.size ≤ q) s.heap s.heap [] := va_S.rf
  have hl := lv_entry ([.ref h0, .int (nI i), .int q]) (n := 3) (Nat.le_of_ble_eq_true rfl)
  rw [lg_entry_eq]
  generalize (lg_sl ([.ref h0, .int (nI i), .int q]) ++ List.replicate (3 - (lg_sl ([.ref h0, .int (nI i), .int q])).length) Slot.unset).toArray = ls at hl ⊢
  have hl : lv_has ls 3 [(0, .ref h0), (1, .int (nI i)), (2, .int q)] := hl
  refine lv_aload_n hx hb dX11_orderedHarm_0 rfl (lv_at hl 0 rfl) ?_
  refine lv_iload_n hx hb dX11_orderedHarm_1 rfl (lv_at hl 1 rfl) ?_
  refine lv_iload_n hx hb dX11_orderedHarm_2 rfl (lv_at hl 1 rfl) ?_
  refine lv_if_ne (tgt := 11) hx hb dX11_orderedHarm_3 rfl (fun c1 => ?_) (fun c1 => ?_)
  · skip
    have tn2263_ : nIT i := fun _ => nI_toInt (by first | omega | (have t := neI c1; omega))
    have n2 : i ≠ 0 := by have t := neI c1; rw [show (nI (i)).toInt = ((i : Nat) : Int) from tn2263_ ()] at t; have : (0 : Int32).toInt = 0 := qI_0; omega
    refine lv_aload_n hx hb dX11_orderedHarm_11 rfl (lv_at hl 0 rfl) ?_
    refine va_get (D := (dC, dI)) (ci := 11) (v := .ref st) (C := RX11) (T := TX11) (N := 35) hx hb hg inG11 hown hK.1 hP 0 rfl rfl 0 (Nat.le_of_ble_eq_true rfl) (hg _ wt_878) (fun _ h9 => h9) rfl dX11_orderedHarm_12 ?_
    refine lv_bipush (v := 38) hx hb dX11_orderedHarm_15 rfl ?_
    refine lv_iload_n hx hb dX11_orderedHarm_17 rfl (lv_at hl 1 rfl) ?_
    refine lv_iadd hx hb dX11_orderedHarm_18 ?_
    refine lv_cg (y := nI (38 + i)) (by rw [show (38 : Int32) = nI 38 from rfl]; exact nI_add _ _) ?_
    refine lv_iconst (v := 1) hx hb dX11_orderedHarm_19 rfl ?_
    refine lv_isub hx hb dX11_orderedHarm_20 ?_
    refine lv_cg (y := nI ((38 + i) - 1)) (by rw [show (1 : Int32) = nI 1 from rfl]; exact pk_sub (by have t_n2 := n2; have tnb_ := nib6 tn2263_ tn2258_ tn2259_ tn2260_ tn2261_ tn2262_; omega)) ?_
    refine va_iald hx hb hK.1 hP 1 0 rfl rfl (vp_in_nI (by first | omega | (have t_n2 := n2; have tnb_ := nib6 tn2263_ tn2258_ tn2259_ tn2260_ tn2261_ tn2262_; omega)) (by decide)) dX11_orderedHarm_21 ?_
    refine lv_cg (y := fst ((38 + i) - 1)) (by rw [nI_clamp (by omega)]) ?_
    obtain ⟨o1, ho1, eo1⟩ := ord_nat hst (q := ((38 + i) - 1)) (by omega) (by omega) (by omega)
    refine lv_cg (y := nI o1) eo1 ?_
    refine lv_aload_n hx hb dX11_orderedHarm_22 rfl (lv_at hl 0 rfl) ?_
    refine va_get (D := (dC, dI)) (ci := 11) (v := .ref st) (C := RX11) (T := TX11) (N := 35) hx hb hg inG11 hown hK.1 hP 0 rfl rfl 0 (Nat.le_of_ble_eq_true rfl) (hg _ wt_878) (fun _ h9 => h9) rfl dX11_orderedHarm_23 ?_
    refine lv_bipush (v := 38) hx hb dX11_orderedHarm_26 rfl ?_
    refine lv_iload_n hx hb dX11_orderedHarm_28 rfl (lv_at hl 1 rfl) ?_
    refine lv_iadd hx hb dX11_orderedHarm_29 ?_
    refine lv_cg (y := nI (38 + i)) (by rw [show (38 : Int32) = nI 38 from rfl]; exact nI_add _ _) ?_
    have tn2264_ : nIT o1 := fun _ => nI_toInt (by first | omega | (have t_n2 := n2; have t_ho1 := ho1; omega))
    refine va_iald hx hb hK.1 hP 1 0 rfl rfl (vp_in_nI (by first | omega | (have t_n2 := n2; have t_ho1 := ho1; have tnb_ := nib7 tn2263_ tn2258_ tn2259_ tn2260_ tn2261_ tn2262_ tn2264_; omega)) (by decide)) dX11_orderedHarm_30 ?_
    refine lv_cg (y := fst (38 + i)) (by rw [nI_clamp (by omega)]) ?_
    obtain ⟨o2, ho2, eo2⟩ := ord_nat hst (q := (38 + i)) (by omega) (by omega) (by omega)
    refine lv_cg (y := nI o2) eo2 ?_
    refine lv_iload_n hx hb dX11_orderedHarm_31 rfl (lv_at hl 2 rfl) ?_
    have hPc := hP.sub (ws' := [(h0, .inr (11, [.ref st, .int (nI N), .int (nI B), .ref rp, .int vrs, .int vrb, .int vhs, .int vca, .int vxs, .int vxb, .ref tp, .int (nI T), .int vfa, .int vbr, .int vba, .int vsp, .int vhe, .int vtk, .int vva, .ref cu, .ref lt, .ref od, .ref th, .ref be, .ref ln, .int (nI S), .ref ma, .int (nI M), .ref ah, .ref bh, .ref ik, .ref la, .ref lg, .ref ce, .int vto])), (st, .inl (G 0, 196, .inl fst))]) [0, 1] rfl
    have tn2265_ : nIT o2 := fun _ => nI_toInt (by first | omega | (have t_n2 := n2; have t_ho1 := ho1; have t_ho2 := ho2; omega))
    refine va_calli (va_runV (As := [.int (nI i), .int (nI o1), .int (nI o2), .int q]) (rest := []) ⟨hx, hb, hml, hown, hg⟩ (c_X11_harmOfB l dC dI G _ h0 i o1 o2 st N B rp tp T cu lt od th be ln S ma M ah bh ik la lg ce q vrs vrb vhs vca vxs vxb vfa vbr vba vsp vhe vtk vva vto fst hN hB_ hT_ hS0 hM_ hi (by first | omega | (have t_n2 := n2; have t_ho1 := ho1; have t_ho2 := ho2; have tnb_ := nib8 tn2263_ tn2258_ tn2259_ tn2260_ tn2261_ tn2262_ tn2264_ tn2265_; omega)) (by first | omega | (have t_n2 := n2; have t_ho1 := ho1; have t_ho2 := ho2; have tnb_ := nib8 tn2263_ tn2258_ tn2259_ tn2260_ tn2261_ tn2262_ tn2264_ tn2265_; omega))) (kwV hg mfX11_harmOf wt_1106 ⟨Nat.le_of_ble_eq_true rfl, Nat.le_of_ble_eq_true rfl⟩) (preVR hK hPc (ci := 11) (r := (RX11, TX11, 35)) rfl rfl) rfl rfl hl.1 rfl (lv_room (Nat.le_of_ble_eq_true rfl)) dX11_orderedHarm_32 ⟨Nat.le_of_ble_eq_true rfl, Nat.le_of_ble_eq_true rfl⟩) hS (fun q h1 h2 => absurd h2 (Nat.not_le.mpr h1)) (fun q h => hA q (Nat.le_trans hS.1 h)) (fun r3 ur3 t H1 locs ht hvm w4 hB hz1 hk1 hS => ?_)
    have hP := keepR hP hk1
    obtain ⟨w4, w4x⟩ := w4
    subst w4
    have hpost : (rhB fst i o1 o2 q : Int32) = rhO fst i q := by
      have t_n2 := n2
      have t_ho1 := ho1
      have t_ho2 := ho2
      have t_n0 : (nI i).toInt = (i : Int) := tn2263_ ()
      have t_n1 : (nI N).toInt = (N : Int) := tn2258_ ()
      have t_n2 : (nI B).toInt = (B : Int) := tn2259_ ()
      have t_n3 : (nI T).toInt = (T : Int) := tn2260_ ()
      have t_n4 : (nI S).toInt = (S : Int) := tn2261_ ()
      have t_n5 : (nI M).toInt = (M : Int) := tn2262_ ()
      have t_n6 : (nI o1).toInt = (o1 : Int) := tn2264_ ()
      have t_n7 : (nI o2).toInt = (o2 : Int) := tn2265_ ()
      have z0 : (0 : Int32).toInt = 0 := qI_0
      have z1 : (1 : Int32).toInt = 1 := qI_1
      have z2 : (2 : Int32).toInt = 2 := qI_2
      have z3 : (3 : Int32).toInt = 3 := qI_3
      have z5 : (5 : Int32).toInt = 5 := qI_5
      have z9 : (9 : Int32).toInt = 9 := qI_9
      unfold rhO
      first | (rw [if_pos (by omega), eo2, nI_clamp (by omega)]; done) | (rw [if_neg (by omega), eo1, eo2, nI_clamp (by omega), nI_clamp (by omega)]; done)
    refine W.widen (k := 0) (n := 0) (Nat.le_of_ble_eq_true rfl) (Nat.le_of_ble_eq_true rfl) ?_
    exact W.iret (v := rhB fst i o1 o2 q) hx hb hr (fun t ht hW => ⟨⟨rhB fst i o1 o2 q, (), rfl, ⟨hpost, trivial⟩, trivial⟩, hS.F ht⟩) hS.2.2 dX11_orderedHarm_35
  · skip
    have tn2266_ : nIT i := fun _ => nI_toInt (by first | omega | (have t := eqI c1; omega))
    have n5 : i = 0 := by have t := eqI c1; rw [show (nI (i)).toInt = ((i : Nat) : Int) from tn2266_ ()] at t; have : (0 : Int32).toInt = 0 := qI_0; omega
    refine lv_bipush (v := (-4)) hx hb dX11_orderedHarm_6 rfl ?_
    refine lv_goto (tgt := 22) hx hb dX11_orderedHarm_8 rfl ?_
    refine lv_aload_n hx hb dX11_orderedHarm_22 rfl (lv_at hl 0 rfl) ?_
    refine va_get (D := (dC, dI)) (ci := 11) (v := .ref st) (C := RX11) (T := TX11) (N := 35) hx hb hg inG11 hown hK.1 hP 0 rfl rfl 0 (Nat.le_of_ble_eq_true rfl) (hg _ wt_878) (fun _ h9 => h9) rfl dX11_orderedHarm_23 ?_
    refine lv_bipush (v := 38) hx hb dX11_orderedHarm_26 rfl ?_
    refine lv_iload_n hx hb dX11_orderedHarm_28 rfl (lv_at hl 1 rfl) ?_
    refine lv_iadd hx hb dX11_orderedHarm_29 ?_
    refine lv_cg (y := nI (38 + i)) (by rw [show (38 : Int32) = nI 38 from rfl]; exact nI_add _ _) ?_
    refine va_iald hx hb hK.1 hP 1 0 rfl rfl (vp_in_nI (by first | omega | (have t_n5 := n5; have tnb_ := nib6 tn2266_ tn2258_ tn2259_ tn2260_ tn2261_ tn2262_; omega)) (by decide)) dX11_orderedHarm_30 ?_
    refine lv_cg (y := fst (38 + i)) (by rw [nI_clamp (by omega)]) ?_
    obtain ⟨o2, ho2, eo2⟩ := ord_nat hst (q := (38 + i)) (by omega) (by omega) (by omega)
    refine lv_cg (y := nI o2) eo2 ?_
    refine lv_iload_n hx hb dX11_orderedHarm_31 rfl (lv_at hl 2 rfl) ?_
    have hPc := hP.sub (ws' := [(h0, .inr (11, [.ref st, .int (nI N), .int (nI B), .ref rp, .int vrs, .int vrb, .int vhs, .int vca, .int vxs, .int vxb, .ref tp, .int (nI T), .int vfa, .int vbr, .int vba, .int vsp, .int vhe, .int vtk, .int vva, .ref cu, .ref lt, .ref od, .ref th, .ref be, .ref ln, .int (nI S), .ref ma, .int (nI M), .ref ah, .ref bh, .ref ik, .ref la, .ref lg, .ref ce, .int vto])), (st, .inl (G 0, 196, .inl fst))]) [0, 1] rfl
    have tn2267_ : nIT o2 := fun _ => nI_toInt (by first | omega | (have t_n5 := n5; have t_ho2 := ho2; omega))
    refine va_calli (va_runV (As := [.int (nI i), .int (-4), .int (nI o2), .int q]) (rest := []) ⟨hx, hb, hml, hown, hg⟩ (c_X11_harmOfN l dC dI G _ h0 i o2 st N B rp tp T cu lt od th be ln S ma M ah bh ik la lg ce q vrs vrb vhs vca vxs vxb vfa vbr vba vsp vhe vtk vva vto fst hN hB_ hT_ hS0 hM_ hi (by first | omega | (have t_n5 := n5; have t_ho2 := ho2; have tnb_ := nib7 tn2266_ tn2258_ tn2259_ tn2260_ tn2261_ tn2262_ tn2267_; have : ((-4) : Int32).toInt = -4 := qI_m4; omega))) (kwV hg mfX11_harmOf wt_1106 ⟨Nat.le_of_ble_eq_true rfl, Nat.le_of_ble_eq_true rfl⟩) (preVR hK hPc (ci := 11) (r := (RX11, TX11, 35)) rfl rfl) rfl rfl hl.1 rfl (lv_room (Nat.le_of_ble_eq_true rfl)) dX11_orderedHarm_32 ⟨Nat.le_of_ble_eq_true rfl, Nat.le_of_ble_eq_true rfl⟩) hS (fun q h1 h2 => absurd h2 (Nat.not_le.mpr h1)) (fun q h => hA q (Nat.le_trans hS.1 h)) (fun r6 ur6 t H1 locs ht hvm w7 hB hz1 hk1 hS => ?_)
    have hP := keepR hP hk1
    obtain ⟨w7, w7x⟩ := w7
    subst w7
    have hpost : (rhN fst i o2 q : Int32) = rhO fst i q := by
      have t_n5 := n5
      have t_ho2 := ho2
      have t_n0 : (nI i).toInt = (i : Int) := tn2266_ ()
      have t_n1 : (nI N).toInt = (N : Int) := tn2258_ ()
      have t_n2 : (nI B).toInt = (B : Int) := tn2259_ ()
      have t_n3 : (nI T).toInt = (T : Int) := tn2260_ ()
      have t_n4 : (nI S).toInt = (S : Int) := tn2261_ ()
      have t_n5 : (nI M).toInt = (M : Int) := tn2262_ ()
      have t_n6 : (nI o2).toInt = (o2 : Int) := tn2267_ ()
      have z0 : (0 : Int32).toInt = 0 := qI_0
      have z1 : (1 : Int32).toInt = 1 := qI_1
      have z2 : (2 : Int32).toInt = 2 := qI_2
      have z3 : (3 : Int32).toInt = 3 := qI_3
      have z5 : (5 : Int32).toInt = 5 := qI_5
      have z9 : (9 : Int32).toInt = 9 := qI_9
      unfold rhO
      first | (rw [if_pos (by omega), eo2, nI_clamp (by omega)]; done) | (rw [if_neg (by omega), eo1, eo2, nI_clamp (by omega), nI_clamp (by omega)]; done)
    refine W.widen (k := 0) (n := 0) (Nat.le_of_ble_eq_true rfl) (Nat.le_of_ble_eq_true rfl) ?_
    exact W.iret (v := rhN fst i o2 q) hx hb hr (fun t ht hW => ⟨⟨rhN fst i o2 q, (), rfl, ⟨hpost, trivial⟩, trivial⟩, hS.F ht⟩) hS.2.2 dX11_orderedHarm_35


def rm20 (x : Int32) : Int32 := ((x >>> ((16 : Int32) &&& 31)) &&& 32767) - ((x >>> ((16 : Int32) &&& 31)) &&& 32767) / 20 * 20
def crN (x : Int32) : Int32 := x * 1103515245 + 12345
abbrev CrT : Type := Int32 × Nat × Int32 × Int32
def crT (h : Int32) (j : Nat) (s : CrT) : CrT := if s.2.1 = 0 then s else if (rm20 (crN s.1)).toInt < h.toInt then (crN s.1, s.2.1 - 1, s.2.2.1 + 1, if s.2.1 - 1 = 0 then nI j else s.2.2.2) else (crN s.1, min 9 (s.2.1 + 1), s.2.2.1, s.2.2.2)
def crR (H : Nat → Int32) (sd : Int32) (d : Nat) : Nat → CrT
  | 0 => (sd, d, 0, -4)
  | j + 1 => crT (H j) j (crR H sd d j)
theorem crR_fz {H : Nat → Int32} {sd : Int32} {d j : Nat} (h : (crR H sd d j).2.1 = 0) : ∀ n : Nat, j ≤ n → crR H sd d n = crR H sd d j := by
  intro n
  induction n with
  | zero => intro hj; rw [show j = 0 by omega]
  | succ n ih =>
    intro hj
    by_cases e : j = n + 1
    · rw [e]
    · have i := ih (by omega)
      show crT (H n) n (crR H sd d n) = _
      rw [i]
      unfold crT
      rw [if_pos h]
theorem crR_cg {H H' : Nat → Int32} {sd : Int32} {d : Nat} : ∀ n : Nat, (∀ j : Nat, j < n → H j = H' j) → crR H sd d n = crR H' sd d n := by
  intro n
  induction n with
  | zero => intro _; rfl
  | succ n ih =>
    intro hh
    show crT (H n) n (crR H sd d n) = crT (H' n) n (crR H' sd d n)
    rw [hh n (by omega), ih (fun j hj => hh j (by omega))]
theorem cr_fall {H : Nat → Int32} {sd x f w : Int32} {d0 d j : Nat} (e : (x, d, f, w) = crR H sd d0 j) (hd : ¬ d = 0) (h : (rm20 (crN x)).toInt < (H j).toInt) (w' : Int32) (hw : w' = if d - 1 = 0 then nI j else w) : (crN x, d - 1, f + 1, w') = crR H sd d0 (j + 1) := by
  show _ = crT (H j) j (crR H sd d0 j)
  rw [← e, hw]
  unfold crT
  rw [if_neg hd, if_pos h]
theorem cr_rise {H : Nat → Int32} {sd x f w : Int32} {d0 d j : Nat} (e : (x, d, f, w) = crR H sd d0 j) (hd : ¬ d = 0) (h : ¬ (rm20 (crN x)).toInt < (H j).toInt) : (crN x, min 9 (d + 1), f, w) = crR H sd d0 (j + 1) := by
  show _ = crT (H j) j (crR H sd d0 j)
  rw [← e]
  unfold crT
  rw [if_neg hd, if_neg h]
theorem cr_end {H : Nat → Int32} {sd x f w : Int32} {d0 d j N : Nat} (e : (x, d, f, w) = crR H sd d0 j) (h : d = 0 ∨ N ≤ j) (hj : j ≤ N) : (x, d, f, w) = crR H sd d0 N := by
  rcases h with h | h
  · rw [e]
    exact (crR_fz (by rw [← e]; exact h) N hj).symm
  · rw [show N = j by omega]; exact e
def crA (what : Int32) (s : CrT) : Int32 := if what = 0 then nI s.2.1 else if what = 1 then s.2.2.1 else s.2.2.2
theorem cr_riseZ {H : Nat → Int32} {sd x f w : Int32} {d0 d j : Nat} (e : (x, d, f, w) = crR H sd d0 j) (hd : ¬ d = 0) (h : ¬ (rm20 (crN x)).toInt < (H j).toInt) : (crN x, min 9 (d + 1), f + 0, w) = crR H sd d0 (j + 1) := by
  rw [Int32.add_zero]
  exact cr_rise e hd h

set_option maxHeartbeats 1000000 in
set_option maxRecDepth 100000 in
theorem c_X1_crossE (l : Launch) (dC : Nat → ClassId) (dI : Nat → Nat → Nat) (G : Nat → ClassId) (sz : Nat) (h0 wy a1 a2 a3 a4 a5 a6 N B D : Nat) (x1 x2 x3 sd : Int32) (f1 f2 f3 f4 f5 f6 : Nat → Int32) (hN_N : N ≤ 10) (hB_B : B ≤ 6) (hD_D : 1 ≤ D ∧ D ≤ 9) : Met l yX1_cross (Cond.code yX1_cross cX1_cross 5 none :: GT) ({ frames := 4, cells := 0, slots := 0, locals := 88 } : Room) (PcW [.ref h0, .ref wy, .int sd] dC dI G [(h0, .inr (1, [.int x1, .int x2, .int x3])), (wy, .inr (9, [.int (nI N), .int (nI B), .int (nI D), .ref a1, .ref a2, .ref a3, .ref a4, .ref a5, .ref a6])), (a1, .inl (G 0, 10, .inl f1)), (a2, .inl (G 0, 10, .inl f2)), (a3, .inl (G 0, 10, .inl f3)), (a4, .inl (G 0, 6, .inl f4)), (a5, .inl (G 0, 6, .inl f5)), (a6, .inl (G 0, 6, .inl f6))] sz) (va_Qv (fun (u : Nat × Int32 × Int32) => match u with | (u0, u1, u2) => ∃ x9 : Int32, (x9, u0, u1, u2) = crR (fun jb => hmO N B f1 f2 f3 f4 f5 f6 (nI jb)) sd D N) (fun (u : Nat × Int32 × Int32) (t : State) => match u with | (u0, u1, u2) => va_P (dC, dI) vwCl [(h0, .inr (1, [.int (nI u0), .int u1, .int u2])), (wy, .inr (9, [.int (nI N), .int (nI B), .int (nI D), .ref a1, .ref a2, .ref a3, .ref a4, .ref a5, .ref a6])), (a1, .inl (G 0, 10, .inl f1)), (a2, .inl (G 0, 10, .inl f2)), (a3, .inl (G 0, 10, .inl f3)), (a4, .inl (G 0, 6, .inl f4)), (a5, .inl (G 0, 6, .inl f5)), (a6, .inl (G 0, 6, .inl f6))] t.heap ∧ va_D (va_A [(h0, .inr (1, [.int x1, .int x2, .int x3])), (wy, .inr (9, [.int (nI N), .int (nI B), .int (nI D), .ref a1, .ref a2, .ref a3, .ref a4, .ref a5, .ref a6])), (a1, .inl (G 0, 10, .inl f1)), (a2, .inl (G 0, 10, .inl f2)), (a3, .inl (G 0, 10, .inl f3)), (a4, .inl (G 0, 6, .inl f4)), (a5, .inl (G 0, 6, .inl f5)), (a6, .inl (G 0, 6, .inl f6))] sz) [(h0, .inr (1, [.int (nI u0), .int u1, .int u2])), (wy, .inr (9, [.int (nI N), .int (nI B), .int (nI D), .ref a1, .ref a2, .ref a3, .ref a4, .ref a5, .ref a6])), (a1, .inl (G 0, 10, .inl f1)), (a2, .inl (G 0, 10, .inl f2)), (a3, .inl (G 0, 10, .inl f3)), (a4, .inl (G 0, 6, .inl f4)), (a5, .inl (G 0, 6, .inl f5)), (a6, .inl (G 0, 6, .inl f6))]) (va_A [(h0, .inr (1, [.int x1, .int x2, .int x3])), (wy, .inr (9, [.int (nI N), .int (nI B), .int (nI D), .ref a1, .ref a2, .ref a3, .ref a4, .ref a5, .ref a6])), (a1, .inl (G 0, 10, .inl f1)), (a2, .inl (G 0, 10, .inl f2)), (a3, .inl (G 0, 10, .inl f3)), (a4, .inl (G 0, 6, .inl f4)), (a5, .inl (G 0, 6, .inl f5)), (a6, .inl (G 0, 6, .inl f6))] sz)) 0 0 (va_A [(h0, .inr (1, [.int x1, .int x2, .int x3])), (wy, .inr (9, [.int (nI N), .int (nI B), .int (nI D), .ref a1, .ref a2, .ref a3, .ref a4, .ref a5, .ref a6])), (a1, .inl (G 0, 10, .inl f1)), (a2, .inl (G 0, 10, .inl f2)), (a3, .inl (G 0, 10, .inl f3)), (a4, .inl (G 0, 6, .inl f4)), (a5, .inl (G 0, 6, .inl f5)), (a6, .inl (G 0, 6, .inl f6))] sz) := by
  have tn2306_ : nIT N := fun _ => nI_toInt (by omega)
  have tn2307_ : nIT B := fun _ => nI_toInt (by omega)
  have tn2308_ : nIT D := fun _ => nI_toInt (by omega)
  refine Met.ofW (cc := cX1_cross) (maxL := 5) (ret := none) (by decide) rfl ?_
  intro p e s m args below meth c s₁ Bd hml hv
  obtain ⟨rfl, hsz, hP, hK, hD0⟩ := hv
  have hx := Bd.exec
  have hb := Bd.bytes
  have hr := Bd.returns
  have hg : ∀ w ∈ GT, w.before ([.ref h0, .ref wy, .int sd] : List Value).toArray s = true := fun w h => atoms_spec (ws := Cond.code yX1_cross cX1_cross 5 none :: GT) Bd.pre w (List.mem_cons_of_mem _ h)
  have hown : s.vm.findClass RX1 = some m.cls := findClass_of_methodNamed Bd.named
  have hlocks := Bd.notSynchronized
  subst hsz
  have hD := hD0.self (sz := s.heap.size)
  generalize hAe : va_A [(h0, .inr (1, [.int x1, .int x2, .int x3])), (wy, .inr (9, [.int (nI N), .int (nI B), .int (nI D), .ref a1, .ref a2, .ref a3, .ref a4, .ref a5, .ref a6])), (a1, .inl (G 0, 10, .inl f1)), (a2, .inl (G 0, 10, .inl f2)), (a3, .inl (G 0, 10, .inl f3)), (a4, .inl (G 0, 6, .inl f4)), (a5, .inl (G 0, 6, .inl f5)), (a6, .inl (G 0, 6, .inl f6))] s.heap.size = A at hD ⊢
  have hA : ∀ q : Nat, s.heap.size ≤ q → A q := fun q h => by rw [← hAe]; exact Or.inr h
  have hS : va_S A s.heap s.heap [] := va_S.rf
  have hl := lv_entry ([.ref h0, .ref wy, .int sd]) (n := 5) (Nat.le_of_ble_eq_true rfl)
  rw [lg_entry_eq]
  generalize (lg_sl ([.ref h0, .ref wy, .int sd]) ++ List.replicate (5 - (lg_sl ([.ref h0, .ref wy, .int sd])).length) Slot.unset).toArray = ls at hl ⊢
  have hl : lv_has ls 5 [(0, .ref h0), (1, .ref wy), (2, .int sd)] := hl
  refine lv_aload_n hx hb dX1_cross_0 rfl (lv_at hl 0 rfl) ?_
  refine lv_aload_n hx hb dX1_cross_1 rfl (lv_at hl 1 rfl) ?_
  refine va_getN (D := (dC, dI)) (ci := 9) (v := .int (nI D)) (C := RX9) (T := TX9) (N := 9) hx hb hg inG9 hown hK.1 hP 1 rfl rfl 2 (Nat.le_of_ble_eq_true rfl) (hK.nest wn_68) (fun _ h9 => h9) rfl dX1_cross_2 ?_
  refine va_put (D := (dC, dI)) (ci := 1) (v := .int (nI D)) (ty := .int) (C := RX1) (T := TX1) (N := 3) hx hb hg inG1 tyX1 tyX1_ok nmX1 hown hK.1 hP hD hS 0 rfl rfl 0 (Nat.le_of_ble_eq_true rfl) (hg _ wt_198) (fun _ h9 => h9) rfl (by decide +kernel) rfl rfl (Nat.le_of_ble_eq_true rfl) dX1_cross_5 (fun H locs hP hD hS => ?_)
  refine lv_aload_n hx hb dX1_cross_8 rfl (lv_at hl 0 rfl) ?_
  refine lv_iconst (v := 0) hx hb dX1_cross_9 rfl ?_
  refine va_put (D := (dC, dI)) (ci := 1) (v := .int 0) (ty := .int) (C := RX1) (T := TX1) (N := 3) hx hb hg inG1 tyX1 tyX1_ok nmX1 hown hK.1 hP hD hS 0 rfl rfl 1 (Nat.le_of_ble_eq_true rfl) (hg _ wt_200) (fun _ h9 => h9) rfl (by decide +kernel) rfl rfl (Nat.le_of_ble_eq_true rfl) dX1_cross_10 (fun H locs hP hD hS => ?_)
  refine lv_aload_n hx hb dX1_cross_13 rfl (lv_at hl 0 rfl) ?_
  refine lv_bipush (v := (-4)) hx hb dX1_cross_14 rfl ?_
  refine va_put (D := (dC, dI)) (ci := 1) (v := .int (-4)) (ty := .int) (C := RX1) (T := TX1) (N := 3) hx hb hg inG1 tyX1 tyX1_ok nmX1 hown hK.1 hP hD hS 0 rfl rfl 2 (Nat.le_of_ble_eq_true rfl) (hg _ wt_202) (fun _ h9 => h9) rfl (by decide +kernel) rfl rfl (Nat.le_of_ble_eq_true rfl) dX1_cross_16 (fun H locs hP hD hS => ?_)
  refine lv_iload_n hx hb dX1_cross_19 rfl (lv_at hl 2 rfl) ?_
  refine lv_istore_n (lv' := [(3, .int sd), (0, .ref h0), (1, .ref wy), (2, .int sd)]) hx hb dX1_cross_20 rfl hl (by decide) rfl (fun ls hl => ?_)
  refine lv_iconst (v := 0) hx hb dX1_cross_21 rfl ?_
  refine lv_istore (lv' := [(4, .int 0), (3, .int sd), (0, .ref h0), (1, .ref wy), (2, .int sd)]) hx hb dX1_cross_22 hl (by decide) rfl (fun ls hl => ?_)
  have loop24_7 : ∀ (nf j1 : Nat), N + 1 ≤ j1 + nf → j1 ≤ N → ∀ (y2 : Int32) (k4 : Nat) (y5 : Int32) (y6 : Int32) (H : Heap) (locs : List Loc), (y2, k4, y5, y6) = crR (fun jb => hmO N B f1 f2 f3 f4 f5 f6 (nI jb)) sd D j1 ∧ k4 ≤ 9 → va_P (dC, dI) vwCl [(h0, .inr (1, [.int (nI k4), .int y5, .int y6])), (wy, .inr (9, [.int (nI N), .int (nI B), .int (nI D), .ref a1, .ref a2, .ref a3, .ref a4, .ref a5, .ref a6])), (a1, .inl (G 0, 10, .inl f1)), (a2, .inl (G 0, 10, .inl f2)), (a3, .inl (G 0, 10, .inl f3)), (a4, .inl (G 0, 6, .inl f4)), (a5, .inl (G 0, 6, .inl f5)), (a6, .inl (G 0, 6, .inl f6))] H → va_D A [(h0, .inr (1, [.int (nI k4), .int y5, .int y6])), (wy, .inr (9, [.int (nI N), .int (nI B), .int (nI D), .ref a1, .ref a2, .ref a3, .ref a4, .ref a5, .ref a6])), (a1, .inl (G 0, 10, .inl f1)), (a2, .inl (G 0, 10, .inl f2)), (a3, .inl (G 0, 10, .inl f3)), (a4, .inl (G 0, 6, .inl f4)), (a5, .inl (G 0, 6, .inl f5)), (a6, .inl (G 0, 6, .inl f6))] → va_S A s.heap H locs → ∀ (ls : Array Slot), lv_has ls 5 [(4, .int (nI j1)), (3, .int y2), (0, .ref h0), (1, .ref wy), (2, .int sd)] → W p l e (headSpec (Cond.code yX1_cross cX1_cross 5 none :: GT) ({ frames := 4, cells := 0, slots := 0, locals := 88 } : Room)).room s m ([.ref h0, .ref wy, .int sd] : List Value).toArray below meth c H locs 0 0 (MQ below (va_Qv (fun (u : Nat × Int32 × Int32) => match u with | (u0, u1, u2) => ∃ x9 : Int32, (x9, u0, u1, u2) = crR (fun jb => hmO N B f1 f2 f3 f4 f5 f6 (nI jb)) sd D N) (fun (u : Nat × Int32 × Int32) (t : State) => match u with | (u0, u1, u2) => va_P (dC, dI) vwCl [(h0, .inr (1, [.int (nI u0), .int u1, .int u2])), (wy, .inr (9, [.int (nI N), .int (nI B), .int (nI D), .ref a1, .ref a2, .ref a3, .ref a4, .ref a5, .ref a6])), (a1, .inl (G 0, 10, .inl f1)), (a2, .inl (G 0, 10, .inl f2)), (a3, .inl (G 0, 10, .inl f3)), (a4, .inl (G 0, 6, .inl f4)), (a5, .inl (G 0, 6, .inl f5)), (a6, .inl (G 0, 6, .inl f6))] t.heap ∧ va_D A [(h0, .inr (1, [.int (nI u0), .int u1, .int u2])), (wy, .inr (9, [.int (nI N), .int (nI B), .int (nI D), .ref a1, .ref a2, .ref a3, .ref a4, .ref a5, .ref a6])), (a1, .inl (G 0, 10, .inl f1)), (a2, .inl (G 0, 10, .inl f2)), (a3, .inl (G 0, 10, .inl f3)), (a4, .inl (G 0, 6, .inl f4)), (a5, .inl (G 0, 6, .inl f5)), (a6, .inl (G 0, 6, .inl f6))]) A) ([.ref h0, .ref wy, .int sd] : List Value).toArray s 0 0 A) (F0 m 24 ls []) := by
    intro nf
    induction nf with
    | zero => intro j1 h1 h2; exact absurd h1 (by omega)
    | succ nf ih24_7 =>
      intro j1 hn8 hj9 y2 k4 y5 y6 H locs hinv hP hD hS ls hl
      refine lv_iload hx hb dX1_cross_24 (lv_at hl 0 rfl) ?_
      refine lv_aload_n hx hb dX1_cross_26 rfl (lv_at hl 3 rfl) ?_
      refine va_getN (D := (dC, dI)) (ci := 9) (v := .int (nI N)) (C := RX9) (T := TX9) (N := 9) hx hb hg inG9 hown hK.1 hP 1 rfl rfl 0 (Nat.le_of_ble_eq_true rfl) (hK.nest wn_57) (fun _ h9 => h9) rfl dX1_cross_27 ?_
      refine lv_icmp_ge (tgt := 126) hx hb dX1_cross_30 rfl (fun c10 => ?_) (fun c10 => ?_)
      · skip
        have tn2309_ : nIT j1 := fun _ => nI_toInt (by first | omega | (have t := leI c10; omega))
        have n11 : N ≤ j1 := by have t := leI c10; rw [show (nI (j1)).toInt = ((j1 : Nat) : Int) from tn2309_ ()] at t; rw [show (nI (N)).toInt = ((N : Nat) : Int) from tn2306_ ()] at t; omega
        obtain ⟨hP9, hD9⟩ := va_sub2 (ws' := [(h0, .inr (1, [.int (nI k4), .int y5, .int y6])), (wy, .inr (9, [.int (nI N), .int (nI B), .int (nI D), .ref a1, .ref a2, .ref a3, .ref a4, .ref a5, .ref a6])), (a1, .inl (G 0, 10, .inl f1)), (a2, .inl (G 0, 10, .inl f2)), (a3, .inl (G 0, 10, .inl f3)), (a4, .inl (G 0, 6, .inl f4)), (a5, .inl (G 0, 6, .inl f5)), (a6, .inl (G 0, 6, .inl f6))]) hP hD [0, 1, 2, 3, 4, 5, 6, 7] (by decide +kernel) rfl
        refine W.widen (k := 0) (n := 0) (Nat.le_of_ble_eq_true rfl) (Nat.le_of_ble_eq_true rfl) ?_
        have tn2310_ : nIT k4 := fun _ => nI_toInt (by first | omega | (have t_hj9 := hj9; have t_hinv := hinv.2; have t_n11 := n11; omega))
        exact W.vret hx hb hr (fun t ht hW => ⟨⟨(k4, y5, y6), rfl, (by have t_hj9 := hj9; have t_hinv := hinv.2; have t_n11 := n11; have tnb_ := nib5 tn2306_ tn2307_ tn2308_ tn2309_ tn2310_; have tqz_ := qz41_; exact ⟨_, cr_end hinv.1 (by omega) (by omega)⟩), ⟨by rw [ht]; exact hP9, hD9⟩⟩, hS.F ht⟩) hS.2.2 dX1_cross_126
      · skip
        have tn2311_ : nIT j1 := fun _ => nI_toInt (by first | omega | (have t := nleI c10; omega))
        have n12 : j1 < N := by have t := nleI c10; rw [show (nI (j1)).toInt = ((j1 : Nat) : Int) from tn2311_ ()] at t; rw [show (nI (N)).toInt = ((N : Nat) : Int) from tn2306_ ()] at t; omega
        refine lv_aload_n hx hb dX1_cross_33 rfl (lv_at hl 2 rfl) ?_
        refine va_get (D := (dC, dI)) (ci := 1) (v := .int (nI k4)) (C := RX1) (T := TX1) (N := 3) hx hb hg inG1 hown hK.1 hP 0 rfl rfl 0 (Nat.le_of_ble_eq_true rfl) (hg _ wt_198) (fun _ h9 => h9) rfl dX1_cross_34 ?_
        refine lv_if_le (tgt := 126) hx hb dX1_cross_37 rfl (fun c13 => ?_) (fun c13 => ?_)
        · skip
          have tn2312_ : nIT k4 := fun _ => nI_toInt (by first | omega | (have t := leI c13; omega))
          have n14 : k4 ≤ 0 := by have t := leI c13; rw [show (nI (k4)).toInt = ((k4 : Nat) : Int) from tn2312_ ()] at t; have : (0 : Int32).toInt = 0 := qI_0; omega
          obtain ⟨hP9, hD9⟩ := va_sub2 (ws' := [(h0, .inr (1, [.int (nI k4), .int y5, .int y6])), (wy, .inr (9, [.int (nI N), .int (nI B), .int (nI D), .ref a1, .ref a2, .ref a3, .ref a4, .ref a5, .ref a6])), (a1, .inl (G 0, 10, .inl f1)), (a2, .inl (G 0, 10, .inl f2)), (a3, .inl (G 0, 10, .inl f3)), (a4, .inl (G 0, 6, .inl f4)), (a5, .inl (G 0, 6, .inl f5)), (a6, .inl (G 0, 6, .inl f6))]) hP hD [0, 1, 2, 3, 4, 5, 6, 7] (by decide +kernel) rfl
          refine W.widen (k := 0) (n := 0) (Nat.le_of_ble_eq_true rfl) (Nat.le_of_ble_eq_true rfl) ?_
          exact W.vret hx hb hr (fun t ht hW => ⟨⟨(k4, y5, y6), rfl, (by have t_hj9 := hj9; have t_hinv := hinv.2; have t_n12 := n12; have t_n14 := n14; have tnb_ := nib5 tn2306_ tn2307_ tn2308_ tn2311_ tn2312_; have tqz_ := qz41_; exact ⟨_, cr_end hinv.1 (by omega) (by omega)⟩), ⟨by rw [ht]; exact hP9, hD9⟩⟩, hS.F ht⟩) hS.2.2 dX1_cross_126
        · skip
          have tn2313_ : nIT k4 := fun _ => nI_toInt (by first | omega | (have t := nleI c13; omega))
          have n15 : 0 < k4 := by have t := nleI c13; rw [show (nI (k4)).toInt = ((k4 : Nat) : Int) from tn2313_ ()] at t; have : (0 : Int32).toInt = 0 := qI_0; omega
          refine lv_iload_n hx hb dX1_cross_40 rfl (lv_at hl 1 rfl) ?_
          refine lv_ldc (v := 1103515245) hx hb hown (hg _ wt_727) dX1_cross_41 ?_
          refine lv_imul hx hb dX1_cross_43 ?_
          refine lv_sipush (v := 12345) hx hb dX1_cross_44 rfl ?_
          refine lv_iadd hx hb dX1_cross_47 ?_
          refine lv_istore_n (lv' := [(3, .int ((y2 * 1103515245) + 12345)), (4, .int (nI j1)), (0, .ref h0), (1, .ref wy), (2, .int sd)]) hx hb dX1_cross_48 rfl hl (by decide) rfl (fun ls hl => ?_)
          refine lv_iload_n hx hb dX1_cross_49 rfl (lv_at hl 0 rfl) ?_
          refine lv_bipush (v := 16) hx hb dX1_cross_50 rfl ?_
          refine lv_ishr hx hb dX1_cross_52 ?_
          refine lv_sipush (v := 32767) hx hb dX1_cross_53 rfl ?_
          refine lv_iand hx hb dX1_cross_56 ?_
          refine lv_bipush (v := 20) hx hb dX1_cross_57 rfl ?_
          refine lv_irem hx hb dX1_cross_59 (by decide) ?_
          refine lv_aload_n hx hb dX1_cross_60 rfl (lv_at hl 3 rfl) ?_
          refine lv_iload hx hb dX1_cross_61 (lv_at hl 1 rfl) ?_
          have hPc := hP.sub (ws' := [(wy, .inr (9, [.int (nI N), .int (nI B), .int (nI D), .ref a1, .ref a2, .ref a3, .ref a4, .ref a5, .ref a6])), (a1, .inl (G 0, 10, .inl f1)), (a2, .inl (G 0, 10, .inl f2)), (a3, .inl (G 0, 10, .inl f3)), (a4, .inl (G 0, 6, .inl f4)), (a5, .inl (G 0, 6, .inl f5)), (a6, .inl (G 0, 6, .inl f6))]) [1, 2, 3, 4, 5, 6, 7] rfl
          refine va_calli (va_runVN (As := [.int (nI j1)]) (rest := [.int (((((y2 * 1103515245) + 12345) >>> ((16 : Int32) &&& 31)) &&& 32767) - ((((y2 * 1103515245) + 12345) >>> ((16 : Int32) &&& 31)) &&& 32767) / 20 * 20)]) ⟨hx, hb, hml, hown, hg⟩ (c_X9_harmInOrder l dC dI G _ wy a1 a2 a3 a4 a5 a6 N B D (nI j1) f1 f2 f3 f4 f5 f6 hN_N hB_B hD_D) (kwVN hg hK mfX9_harmInOrder wn_728 ⟨Nat.le_of_ble_eq_true rfl, Nat.le_of_ble_eq_true rfl⟩) (preVR hK hPc (ci := 9) (r := (RX9, TX9, 9)) rfl rfl) rfl rfl hl.1 rfl (lv_room (Nat.le_of_ble_eq_true rfl)) dX1_cross_63 ⟨Nat.le_of_ble_eq_true rfl, Nat.le_of_ble_eq_true rfl⟩) hS (fun q h1 h2 => absurd h2 (Nat.not_le.mpr h1)) (fun q h => hA q (Nat.le_trans hS.1 h)) (fun r16 ur16 t H1 locs ht hvm w17 hB hz1 hk1 hS => ?_)
          have hP := keepR hP hk1
          obtain ⟨w17, w17x⟩ := w17
          subst w17
          refine lv_icmp_ge (tgt := 92) hx hb dX1_cross_66 rfl (fun c18 => ?_) (fun c18 => ?_)
          · skip
            refine lv_aload_n hx hb dX1_cross_92 rfl (lv_at hl 2 rfl) ?_
            refine lv_bipush (v := 9) hx hb dX1_cross_93 rfl ?_
            refine lv_aload_n hx hb dX1_cross_95 rfl (lv_at hl 2 rfl) ?_
            refine va_get (D := (dC, dI)) (ci := 1) (v := .int (nI k4)) (C := RX1) (T := TX1) (N := 3) hx hb hg inG1 hown hK.1 hP 0 rfl rfl 0 (Nat.le_of_ble_eq_true rfl) (hg _ wt_198) (fun _ h9 => h9) rfl dX1_cross_96 ?_
            refine lv_iconst (v := 1) hx hb dX1_cross_99 rfl ?_
            refine lv_iadd hx hb dX1_cross_100 ?_
            refine lv_cg (y := nI (k4 + 1)) (by rw [show (1 : Int32) = nI 1 from rfl]; exact nI_add _ _) ?_
            have hPc := hP.sub (ws' := []) [] rfl
            refine va_calli (va_runS (As := [.int 9, .int (nI (k4 + 1))]) (rest := [.ref h0]) ⟨hx, hb, hml, hown, hg⟩ (c_J9_min l dC dI G _ 9 (nI (k4 + 1))) (kwS hg mfJ9_min_7cf53 wt_729 ⟨Nat.le_of_ble_eq_true rfl, Nat.le_of_ble_eq_true rfl⟩) (preSR hK hPc) rfl rfl hl.1 rfl (lv_room (Nat.le_of_ble_eq_true rfl)) dX1_cross_101 ⟨Nat.le_of_ble_eq_true rfl, Nat.le_of_ble_eq_true rfl⟩) hS (fun q h1 h2 => absurd h2 (Nat.not_le.mpr h1)) (fun q h => hA q (Nat.le_trans hS.1 h)) (fun r19 ur19 t H1 locs ht hvm w20 hB hz1 hk1 hS => ?_)
            have hP := keepR hP hk1
            obtain ⟨w20, w20x⟩ := w20
            have w20 : r19 = nI (min 9 (k4 + 1)) := w20.trans (mn_nI (a := 9) (b := (k4 + 1)) (by omega) (by omega))
            have hs21 : 1 ≤ (min 9 (k4 + 1)) ∧ (min 9 (k4 + 1)) ≤ 9 := (by omega)
            subst w20
            refine va_put (D := (dC, dI)) (ci := 1) (v := .int (nI (min 9 (k4 + 1)))) (ty := .int) (C := RX1) (T := TX1) (N := 3) hx hb hg inG1 tyX1 tyX1_ok nmX1 hown hK.1 hP hD hS 0 rfl rfl 0 (Nat.le_of_ble_eq_true rfl) (hg _ wt_198) (fun _ h9 => h9) rfl (by decide +kernel) rfl rfl (Nat.le_of_ble_eq_true rfl) dX1_cross_104 (fun H locs hP hD hS => ?_)
            refine lv_aload_n hx hb dX1_cross_107 rfl (lv_at hl 2 rfl) ?_
            refine va_get (D := (dC, dI)) (ci := 1) (v := .int (nI (min 9 (k4 + 1)))) (C := RX1) (T := TX1) (N := 3) hx hb hg inG1 hown hK.1 hP 0 rfl rfl 0 (Nat.le_of_ble_eq_true rfl) (hg _ wt_198) (fun _ h9 => h9) rfl dX1_cross_108 ?_
            refine lv_if_ne (tgt := 120) hx hb dX1_cross_111 rfl (fun c22 => ?_) (fun c22 => ?_)
            · skip
              have tn2314_ : nIT (min 9 (k4 + 1)) := fun _ => nI_toInt (by first | omega | (have t := neI c22; omega))
              have n23 : (min 9 (k4 + 1)) ≠ 0 := by have t := neI c22; rw [show (nI (min 9 (k4 + 1))).toInt = ((min 9 (k4 + 1) : Nat) : Int) from tn2314_ ()] at t; have : (0 : Int32).toInt = 0 := qI_0; omega
              refine lv_iinc (v := nI (j1 + 1)) (lv' := [(4, .int (nI (j1 + 1))), (3, .int ((y2 * 1103515245) + 12345)), (0, .ref h0), (1, .ref wy), (2, .int sd)]) hx hb dX1_cross_120 hl (k := 1) rfl (by rw [show Int32.ofInt 1 = nI 1 from by decide]; exact nI_add _ _) (by decide) rfl (fun ls hl => ?_)
              refine lv_goto (tgt := 24) hx hb dX1_cross_123 rfl ?_
              exact ih24_7 (j1 + 1) (by omega) (by omega) ((y2 * 1103515245) + 12345) (min 9 (k4 + 1)) y5 y6 _ _ ⟨cr_rise (H := (fun jb => hmO N B f1 f2 f3 f4 f5 f6 (nI jb))) hinv.1 (by have t_hj9 := hj9; have t_hinv := hinv.2; have t_n12 := n12; have t_n15 := n15; have t_c18 := leI c18; have t_hs21 := hs21; have t_n23 := n23; have tnb_ := nib5 tn2306_ tn2307_ tn2308_ tn2311_ tn2313_; have tqz_ := qz41_; omega) (by exact Int.not_lt.mpr (leI c18)), (by omega)⟩ hP hD hS ls (lv_sub hl [0, 1, 2, 3, 4] rfl)
            · skip
              have t_hj9 := hj9
              have t_hinv := hinv.2
              have t_n12 := n12
              have t_n15 := n15
              have t_c18 := leI c18
              have t_hs21 := hs21
              have t_c22 := eqI c22
              have : (0 : Int32).toInt = 0 := qI_0
              have t_n0 : (nI N).toInt = (N : Int) := tn2306_ ()
              have t_n1 : (nI B).toInt = (B : Int) := tn2307_ ()
              have t_n2 : (nI D).toInt = (D : Int) := tn2308_ ()
              have t_n3 : (nI j1).toInt = (j1 : Int) := tn2311_ ()
              have t_n4 : (nI k4).toInt = (k4 : Int) := tn2313_ ()
              have : (nI (min 9 (k4 + 1))).toInt = (((min 9 (k4 + 1)) : Nat) : Int) := nI_toInt (by omega)
              exfalso; omega
          · skip
            refine lv_aload_n hx hb dX1_cross_69 rfl (lv_at hl 2 rfl) ?_
            refine lv_dup hx hb dX1_cross_70 rfl ?_
            refine va_get (D := (dC, dI)) (ci := 1) (v := .int (nI k4)) (C := RX1) (T := TX1) (N := 3) hx hb hg inG1 hown hK.1 hP 0 rfl rfl 0 (Nat.le_of_ble_eq_true rfl) (hg _ wt_198) (fun _ h9 => h9) rfl dX1_cross_71 ?_
            refine lv_iconst (v := 1) hx hb dX1_cross_74 rfl ?_
            refine lv_isub hx hb dX1_cross_75 ?_
            refine lv_cg (y := nI (k4 - 1)) (by rw [show (1 : Int32) = nI 1 from rfl]; exact pk_sub (by have t_hj9 := hj9; have t_hinv := hinv.2; have t_n12 := n12; have t_n15 := n15; have t_c18 := nleI c18; have tnb_ := nib5 tn2306_ tn2307_ tn2308_ tn2311_ tn2313_; omega)) ?_
            refine va_put (D := (dC, dI)) (ci := 1) (v := .int (nI (k4 - 1))) (ty := .int) (C := RX1) (T := TX1) (N := 3) hx hb hg inG1 tyX1 tyX1_ok nmX1 hown hK.1 hP hD hS 0 rfl rfl 0 (Nat.le_of_ble_eq_true rfl) (hg _ wt_198) (fun _ h9 => h9) rfl (by decide +kernel) rfl rfl (Nat.le_of_ble_eq_true rfl) dX1_cross_76 (fun H locs hP hD hS => ?_)
            refine lv_aload_n hx hb dX1_cross_79 rfl (lv_at hl 2 rfl) ?_
            refine lv_dup hx hb dX1_cross_80 rfl ?_
            refine va_get (D := (dC, dI)) (ci := 1) (v := .int y5) (C := RX1) (T := TX1) (N := 3) hx hb hg inG1 hown hK.1 hP 0 rfl rfl 1 (Nat.le_of_ble_eq_true rfl) (hg _ wt_200) (fun _ h9 => h9) rfl dX1_cross_81 ?_
            refine lv_iconst (v := 1) hx hb dX1_cross_84 rfl ?_
            refine lv_iadd hx hb dX1_cross_85 ?_
            refine va_put (D := (dC, dI)) (ci := 1) (v := .int (y5 + 1)) (ty := .int) (C := RX1) (T := TX1) (N := 3) hx hb hg inG1 tyX1 tyX1_ok nmX1 hown hK.1 hP hD hS 0 rfl rfl 1 (Nat.le_of_ble_eq_true rfl) (hg _ wt_200) (fun _ h9 => h9) rfl (by decide +kernel) rfl rfl (Nat.le_of_ble_eq_true rfl) dX1_cross_86 (fun H locs hP hD hS => ?_)
            refine lv_goto (tgt := 107) hx hb dX1_cross_89 rfl ?_
            refine lv_aload_n hx hb dX1_cross_107 rfl (lv_at hl 2 rfl) ?_
            refine va_get (D := (dC, dI)) (ci := 1) (v := .int (nI (k4 - 1))) (C := RX1) (T := TX1) (N := 3) hx hb hg inG1 hown hK.1 hP 0 rfl rfl 0 (Nat.le_of_ble_eq_true rfl) (hg _ wt_198) (fun _ h9 => h9) rfl dX1_cross_108 ?_
            refine lv_if_ne (tgt := 120) hx hb dX1_cross_111 rfl (fun c24 => ?_) (fun c24 => ?_)
            · skip
              have tn2315_ : nIT (k4 - 1) := fun _ => nI_toInt (by first | omega | (have t := neI c24; omega))
              have n25 : (k4 - 1) ≠ 0 := by have t := neI c24; rw [show (nI (k4 - 1)).toInt = ((k4 - 1 : Nat) : Int) from tn2315_ ()] at t; have : (0 : Int32).toInt = 0 := qI_0; omega
              refine lv_iinc (v := nI (j1 + 1)) (lv' := [(4, .int (nI (j1 + 1))), (3, .int ((y2 * 1103515245) + 12345)), (0, .ref h0), (1, .ref wy), (2, .int sd)]) hx hb dX1_cross_120 hl (k := 1) rfl (by rw [show Int32.ofInt 1 = nI 1 from by decide]; exact nI_add _ _) (by decide) rfl (fun ls hl => ?_)
              refine lv_goto (tgt := 24) hx hb dX1_cross_123 rfl ?_
              exact ih24_7 (j1 + 1) (by omega) (by omega) ((y2 * 1103515245) + 12345) (k4 - 1) (y5 + 1) y6 _ _ ⟨cr_fall (H := (fun jb => hmO N B f1 f2 f3 f4 f5 f6 (nI jb))) hinv.1 (by have t_hj9 := hj9; have t_hinv := hinv.2; have t_n12 := n12; have t_n15 := n15; have t_c18 := nleI c18; have t_n25 := n25; have tnb_ := nib5 tn2306_ tn2307_ tn2308_ tn2311_ tn2313_; have tqz_ := qz41_; omega) (by exact Int.not_le.mp (nleI c18)) _ (by have t_hj9 := hj9; have t_hinv := hinv.2; have t_n12 := n12; have t_n15 := n15; have t_c18 := nleI c18; have t_n25 := n25; have tnb_ := nib5 tn2306_ tn2307_ tn2308_ tn2311_ tn2313_; have tqz_ := qz41_; first | (rw [if_pos (by omega)]; done) | (rw [if_neg (by omega)]; done)), (by omega)⟩ hP hD hS ls (lv_sub hl [0, 1, 2, 3, 4] rfl)
            · skip
              have tn2316_ : nIT (k4 - 1) := fun _ => nI_toInt (by first | omega | (have t := eqI c24; omega))
              have n26 : (k4 - 1) = 0 := by have t := eqI c24; rw [show (nI (k4 - 1)).toInt = ((k4 - 1 : Nat) : Int) from tn2316_ ()] at t; have : (0 : Int32).toInt = 0 := qI_0; omega
              refine lv_aload_n hx hb dX1_cross_114 rfl (lv_at hl 2 rfl) ?_
              refine lv_iload hx hb dX1_cross_115 (lv_at hl 1 rfl) ?_
              refine va_put (D := (dC, dI)) (ci := 1) (v := .int (nI j1)) (ty := .int) (C := RX1) (T := TX1) (N := 3) hx hb hg inG1 tyX1 tyX1_ok nmX1 hown hK.1 hP hD hS 0 rfl rfl 2 (Nat.le_of_ble_eq_true rfl) (hg _ wt_202) (fun _ h9 => h9) rfl (by decide +kernel) rfl rfl (Nat.le_of_ble_eq_true rfl) dX1_cross_117 (fun H locs hP hD hS => ?_)
              refine lv_iinc (v := nI (j1 + 1)) (lv' := [(4, .int (nI (j1 + 1))), (3, .int ((y2 * 1103515245) + 12345)), (0, .ref h0), (1, .ref wy), (2, .int sd)]) hx hb dX1_cross_120 hl (k := 1) rfl (by rw [show Int32.ofInt 1 = nI 1 from by decide]; exact nI_add _ _) (by decide) rfl (fun ls hl => ?_)
              refine lv_goto (tgt := 24) hx hb dX1_cross_123 rfl ?_
              exact ih24_7 (j1 + 1) (by omega) (by omega) ((y2 * 1103515245) + 12345) (k4 - 1) (y5 + 1) (nI j1) _ _ ⟨cr_fall (H := (fun jb => hmO N B f1 f2 f3 f4 f5 f6 (nI jb))) hinv.1 (by have t_hj9 := hj9; have t_hinv := hinv.2; have t_n12 := n12; have t_n15 := n15; have t_c18 := nleI c18; have t_n26 := n26; have tnb_ := nib5 tn2306_ tn2307_ tn2308_ tn2311_ tn2313_; have tqz_ := qz41_; omega) (by exact Int.not_le.mp (nleI c18)) _ (by have t_hj9 := hj9; have t_hinv := hinv.2; have t_n12 := n12; have t_n15 := n15; have t_c18 := nleI c18; have t_n26 := n26; have tnb_ := nib5 tn2306_ tn2307_ tn2308_ tn2311_ tn2313_; have tqz_ := qz41_; first | (rw [if_pos (by omega)]; done) | (rw [if_neg (by omega)]; done)), (by omega)⟩ hP hD hS ls (lv_sub hl [0, 1, 2, 3, 4] rfl)
  exact loop24_7 (N + 1) 0 (by omega) (by omega) sd D 0 (-4) _ _ ⟨rfl, (by omega)⟩ hP hD hS ls (lv_sub hl [0, 1, 2, 3, 4] rfl)

set_option maxHeartbeats 1000000 in
set_option maxRecDepth 100000 in
theorem c_X10_carryE (l : Launch) (dC : Nat → ClassId) (dI : Nat → Nat → Nat) (G : Nat → ClassId) (sz : Nat) (h0 rd wy tr im kp od ch cr le mk tl sh a1 a2 a3 a4 a5 a6 N B D : Nat) (tf rf sd what x1 x2 x3 : Int32) (f1 f2 f3 f4 f5 f6 : Nat → Int32) (hN_N : N ≤ 10) (hB_B : B ≤ 6) (hD_D : 1 ≤ D ∧ D ≤ 9) : Met l yX10_carry (Cond.code yX10_carry cX10_carry 3 (some .int) :: GT) ({ frames := 5, cells := 0, slots := 0, locals := 112 } : Room) (PcW [.ref h0, .int sd, .int what] dC dI G [(h0, .inr (10, [.ref rd, .ref wy, .ref tr, .ref im, .ref kp, .ref od, .ref ch, .ref cr, .ref le, .ref mk, .ref tl, .ref sh, .int tf, .int rf])), (cr, .inr (1, [.int x1, .int x2, .int x3])), (wy, .inr (9, [.int (nI N), .int (nI B), .int (nI D), .ref a1, .ref a2, .ref a3, .ref a4, .ref a5, .ref a6])), (a1, .inl (G 0, 10, .inl f1)), (a2, .inl (G 0, 10, .inl f2)), (a3, .inl (G 0, 10, .inl f3)), (a4, .inl (G 0, 6, .inl f4)), (a5, .inl (G 0, 6, .inl f5)), (a6, .inl (G 0, 6, .inl f6))] sz) (va_Qi (fun (r : Int32) (u : Int32 × Int32 × Int32) => match u with | (u0, u1, u2) => (r = if (0 ≤ what.toInt ∧ what.toInt ≤ 2) then crA what (crR (fun jb => hmO N B f1 f2 f3 f4 f5 f6 (nI jb)) sd D N) else -1) ∧ True) (fun (u : Int32 × Int32 × Int32) (t : State) => match u with | (u0, u1, u2) => va_P (dC, dI) vwCl [(h0, .inr (10, [.ref rd, .ref wy, .ref tr, .ref im, .ref kp, .ref od, .ref ch, .ref cr, .ref le, .ref mk, .ref tl, .ref sh, .int tf, .int rf])), (cr, .inr (1, [.int u0, .int u1, .int u2])), (wy, .inr (9, [.int (nI N), .int (nI B), .int (nI D), .ref a1, .ref a2, .ref a3, .ref a4, .ref a5, .ref a6])), (a1, .inl (G 0, 10, .inl f1)), (a2, .inl (G 0, 10, .inl f2)), (a3, .inl (G 0, 10, .inl f3)), (a4, .inl (G 0, 6, .inl f4)), (a5, .inl (G 0, 6, .inl f5)), (a6, .inl (G 0, 6, .inl f6))] t.heap ∧ va_D (va_A [(h0, .inr (10, [.ref rd, .ref wy, .ref tr, .ref im, .ref kp, .ref od, .ref ch, .ref cr, .ref le, .ref mk, .ref tl, .ref sh, .int tf, .int rf])), (cr, .inr (1, [.int x1, .int x2, .int x3])), (wy, .inr (9, [.int (nI N), .int (nI B), .int (nI D), .ref a1, .ref a2, .ref a3, .ref a4, .ref a5, .ref a6])), (a1, .inl (G 0, 10, .inl f1)), (a2, .inl (G 0, 10, .inl f2)), (a3, .inl (G 0, 10, .inl f3)), (a4, .inl (G 0, 6, .inl f4)), (a5, .inl (G 0, 6, .inl f5)), (a6, .inl (G 0, 6, .inl f6))] sz) [(h0, .inr (10, [.ref rd, .ref wy, .ref tr, .ref im, .ref kp, .ref od, .ref ch, .ref cr, .ref le, .ref mk, .ref tl, .ref sh, .int tf, .int rf])), (cr, .inr (1, [.int u0, .int u1, .int u2])), (wy, .inr (9, [.int (nI N), .int (nI B), .int (nI D), .ref a1, .ref a2, .ref a3, .ref a4, .ref a5, .ref a6])), (a1, .inl (G 0, 10, .inl f1)), (a2, .inl (G 0, 10, .inl f2)), (a3, .inl (G 0, 10, .inl f3)), (a4, .inl (G 0, 6, .inl f4)), (a5, .inl (G 0, 6, .inl f5)), (a6, .inl (G 0, 6, .inl f6))]) (va_A [(h0, .inr (10, [.ref rd, .ref wy, .ref tr, .ref im, .ref kp, .ref od, .ref ch, .ref cr, .ref le, .ref mk, .ref tl, .ref sh, .int tf, .int rf])), (cr, .inr (1, [.int x1, .int x2, .int x3])), (wy, .inr (9, [.int (nI N), .int (nI B), .int (nI D), .ref a1, .ref a2, .ref a3, .ref a4, .ref a5, .ref a6])), (a1, .inl (G 0, 10, .inl f1)), (a2, .inl (G 0, 10, .inl f2)), (a3, .inl (G 0, 10, .inl f3)), (a4, .inl (G 0, 6, .inl f4)), (a5, .inl (G 0, 6, .inl f5)), (a6, .inl (G 0, 6, .inl f6))] sz)) 0 0 (va_A [(h0, .inr (10, [.ref rd, .ref wy, .ref tr, .ref im, .ref kp, .ref od, .ref ch, .ref cr, .ref le, .ref mk, .ref tl, .ref sh, .int tf, .int rf])), (cr, .inr (1, [.int x1, .int x2, .int x3])), (wy, .inr (9, [.int (nI N), .int (nI B), .int (nI D), .ref a1, .ref a2, .ref a3, .ref a4, .ref a5, .ref a6])), (a1, .inl (G 0, 10, .inl f1)), (a2, .inl (G 0, 10, .inl f2)), (a3, .inl (G 0, 10, .inl f3)), (a4, .inl (G 0, 6, .inl f4)), (a5, .inl (G 0, 6, .inl f5)), (a6, .inl (G 0, 6, .inl f6))] sz) := by
  have tn2317_ : nIT N := fun _ => nI_toInt (by omega)
  have tn2318_ : nIT B := fun _ => nI_toInt (by omega)
  have tn2319_ : nIT D := fun _ => nI_toInt (by omega)
  refine Met.ofW (cc := cX10_carry) (maxL := 3) (ret := (some .int)) (by decide) rfl ?_
  intro p e s m args below meth c s₁ Bd hml hv
  obtain ⟨rfl, hsz, hP, hK, hD0⟩ := hv
  have hx := Bd.exec
  have hb := Bd.bytes
  have hr := Bd.returns
  have hg : ∀ w ∈ GT, w.before ([.ref h0, .int sd, .int what] : List Value).toArray s = true := fun w h => atoms_spec (ws := Cond.code yX10_carry cX10_carry 3 (some .int) :: GT) Bd.pre w (List.mem_cons_of_mem _ h)
  have hown : s.vm.findClass RX10 = some m.cls := findClass_of_methodNamed Bd.named
  have hlocks := Bd.notSynchronized
  subst hsz
  have hD := hD0.self (sz := s.heap.size)
  generalize hAe : va_A [(h0, .inr (10, [.ref rd, .ref wy, .ref tr, .ref im, .ref kp, .ref od, .ref ch, .ref cr, .ref le, .ref mk, .ref tl, .ref sh, .int tf, .int rf])), (cr, .inr (1, [.int x1, .int x2, .int x3])), (wy, .inr (9, [.int (nI N), .int (nI B), .int (nI D), .ref a1, .ref a2, .ref a3, .ref a4, .ref a5, .ref a6])), (a1, .inl (G 0, 10, .inl f1)), (a2, .inl (G 0, 10, .inl f2)), (a3, .inl (G 0, 10, .inl f3)), (a4, .inl (G 0, 6, .inl f4)), (a5, .inl (G 0, 6, .inl f5)), (a6, .inl (G 0, 6, .inl f6))] s.heap.size = A at hD ⊢
  have hA : ∀ q : Nat, s.heap.size ≤ q → A q := fun q h => by rw [← hAe]; exact Or.inr h
  have hS : va_S A s.heap s.heap [] := va_S.rf
  have hl := lv_entry ([.ref h0, .int sd, .int what]) (n := 3) (Nat.le_of_ble_eq_true rfl)
  rw [lg_entry_eq]
  generalize (lg_sl ([.ref h0, .int sd, .int what]) ++ List.replicate (3 - (lg_sl ([.ref h0, .int sd, .int what])).length) Slot.unset).toArray = ls at hl ⊢
  have hl : lv_has ls 3 [(0, .ref h0), (1, .int sd), (2, .int what)] := hl
  refine lv_iload_n hx hb dX10_carry_0 rfl (lv_at hl 2 rfl) ?_
  have hPc := hP.sub (ws' := []) [] rfl
  refine va_calli (va_runS (As := [.int what]) (rest := []) ⟨hx, hb, hml, hown, hg⟩ (c_X10_isAnswerPart l dC dI G _ what) (kwS hg mfX10_isAnswerPart wt_694 ⟨Nat.le_of_ble_eq_true rfl, Nat.le_of_ble_eq_true rfl⟩) (preSR hK hPc) rfl rfl hl.1 rfl (lv_room (Nat.le_of_ble_eq_true rfl)) dX10_carry_1 ⟨Nat.le_of_ble_eq_true rfl, Nat.le_of_ble_eq_true rfl⟩) hS (fun q h1 h2 => absurd h2 (Nat.not_le.mpr h1)) (fun q h => hA q (Nat.le_trans hS.1 h)) (fun r1 ur1 t H1 locs ht hvm w2 hB hz1 hk1 hS => ?_)
  have hP := keepR hP hk1
  obtain ⟨w2, w2x⟩ := w2
  try simp only [l_ii, show (0 : Int32).toInt = 0 from by decide, show (2 : Int32).toInt = 2 from by decide] at w2
  subst w2
  refine lv_if_ne (tgt := 9) hx hb dX10_carry_4 rfl (fun c3 => ?_) (fun c3 => ?_)
  · skip
    have b4 := if10_p c3
    refine lv_aload_n hx hb dX10_carry_9 rfl (lv_at hl 0 rfl) ?_
    refine va_get (D := (dC, dI)) (ci := 10) (v := .ref cr) (C := RX10) (T := TX10) (N := 14) hx hb hg inG10 hown hK.1 hP 0 rfl rfl 7 (Nat.le_of_ble_eq_true rfl) (hg _ wt_309) (fun _ h9 => h9) rfl dX10_carry_10 ?_
    refine lv_aload_n hx hb dX10_carry_13 rfl (lv_at hl 0 rfl) ?_
    refine va_get (D := (dC, dI)) (ci := 10) (v := .ref wy) (C := RX10) (T := TX10) (N := 14) hx hb hg inG10 hown hK.1 hP 0 rfl rfl 1 (Nat.le_of_ble_eq_true rfl) (hg _ wt_303) (fun _ h9 => h9) rfl dX10_carry_14 ?_
    refine lv_iload_n hx hb dX10_carry_17 rfl (lv_at hl 1 rfl) ?_
    obtain ⟨hPc, hDc, hFc⟩ := va_sub3 (ws' := [(cr, .inr (1, [.int x1, .int x2, .int x3])), (wy, .inr (9, [.int (nI N), .int (nI B), .int (nI D), .ref a1, .ref a2, .ref a3, .ref a4, .ref a5, .ref a6])), (a1, .inl (G 0, 10, .inl f1)), (a2, .inl (G 0, 10, .inl f2)), (a3, .inl (G 0, 10, .inl f3)), (a4, .inl (G 0, 6, .inl f4)), (a5, .inl (G 0, 6, .inl f5)), (a6, .inl (G 0, 6, .inl f6))]) hP hD hS hA [1, 2, 3, 4, 5, 6, 7, 8] (by decide +kernel) rfl
    refine va_callv (va_runVN (As := [.ref wy, .int sd]) (rest := []) ⟨hx, hb, hml, hown, hg⟩ (c_X1_crossE l dC dI G _ cr wy a1 a2 a3 a4 a5 a6 N B D x1 x2 x3 sd f1 f2 f3 f4 f5 f6 hN_N hB_B hD_D) (kwVN hg hK mfX1_cross wn_723 ⟨Nat.le_of_ble_eq_true rfl, Nat.le_of_ble_eq_true rfl⟩) (preVW hK hPc hDc (ci := 1) (r := (RX1, TX1, 3)) rfl rfl) rfl rfl hl.1 rfl (lv_room (Nat.le_of_ble_eq_true rfl)) dX10_carry_18 ⟨Nat.le_of_ble_eq_true rfl, Nat.le_of_ble_eq_true rfl⟩) hS (fun q _ h => hFc q h) hFc (fun ur5 t H1 locs ht hvm w6 hB hz1 hk1 hS => ?_)
    obtain ⟨u7, u8, u9⟩ := ur5
    obtain ⟨hP1, hD1⟩ := hB
    rw [ht] at hP1
    obtain ⟨hP, hD⟩ := va_join (wr := [(h0, .inr (10, [.ref rd, .ref wy, .ref tr, .ref im, .ref kp, .ref od, .ref ch, .ref cr, .ref le, .ref mk, .ref tl, .ref sh, .int tf, .int rf]))]) (w1 := [(cr, .inr (1, [.int (nI u7), .int u8, .int u9])), (wy, .inr (9, [.int (nI N), .int (nI B), .int (nI D), .ref a1, .ref a2, .ref a3, .ref a4, .ref a5, .ref a6])), (a1, .inl (G 0, 10, .inl f1)), (a2, .inl (G 0, 10, .inl f2)), (a3, .inl (G 0, 10, .inl f3)), (a4, .inl (G 0, 6, .inl f4)), (a5, .inl (G 0, 6, .inl f5)), (a6, .inl (G 0, 6, .inl f6))]) hP hD [1, 2, 3, 4, 5, 6, 7, 8] [0] rfl rfl (by decide +kernel) (by decide +kernel) hk1 hFc hP1 hD1
    have w6 : ∃ x9 : Int32, (x9, u7, u8, u9) = crR (fun jb => hmO N B f1 f2 f3 f4 f5 f6 (nI jb)) sd D N := w6
    generalize H1 = H at hP hS ⊢
    refine lv_iload_n hx hb dX10_carry_21 rfl (lv_at hl 2 rfl) ?_
    by_cases c10 : what = 0
    · skip
      refine lv_cg c10 ?_
      refine lv_lookup (tgt := 48) (off := 26) hx hb dX10_carry_22 (by decide) rfl (by decide) ?_
      refine lv_aload_n hx hb dX10_carry_48 rfl (lv_at hl 0 rfl) ?_
      refine va_get (D := (dC, dI)) (ci := 10) (v := .ref cr) (C := RX10) (T := TX10) (N := 14) hx hb hg inG10 hown hK.1 hP 0 rfl rfl 7 (Nat.le_of_ble_eq_true rfl) (hg _ wt_309) (fun _ h9 => h9) rfl dX10_carry_49 ?_
      refine va_getN (D := (dC, dI)) (ci := 1) (v := .int (nI u7)) (C := RX1) (T := TX1) (N := 3) hx hb hg inG1 hown hK.1 hP 1 rfl rfl 0 (Nat.le_of_ble_eq_true rfl) (hK.nest wn_199) (fun _ h9 => h9) rfl dX10_carry_52 ?_
      have hpost : (nI u7 : Int32) = if (0 ≤ what.toInt ∧ what.toInt ≤ 2) then crA what (crR (fun jb => hmO N B f1 f2 f3 f4 f5 f6 (nI jb)) sd D N) else -1 := by
        have t_b4 := b4
        have t_c10 := eqI c10
        have : (0 : Int32).toInt = 0 := qI_0
        have t_n0 : (nI N).toInt = (N : Int) := tn2317_ ()
        have t_n1 : (nI B).toInt = (B : Int) := tn2318_ ()
        have t_n2 : (nI D).toInt = (D : Int) := tn2319_ ()
        have z0 : (0 : Int32).toInt = 0 := qI_0
        have z1 : (1 : Int32).toInt = 1 := qI_1
        have z2 : (2 : Int32).toInt = 2 := qI_2
        have z3 : (3 : Int32).toInt = 3 := qI_3
        have z5 : (5 : Int32).toInt = 5 := qI_5
        have z9 : (9 : Int32).toInt = 9 := qI_9
        obtain ⟨x9, e9⟩ := w6
        rw [if_pos (by omega), ← e9]
        unfold crA
        (try (repeat (first | rw [if_pos (by with_reducible assumption)] | rw [if_neg (by with_reducible assumption)] | rw [if_pos (by omega)] | rw [if_neg (by omega)] | rw [if_pos (by decide)] | rw [if_neg (by decide)] | rw [if_pos (by skip; assumption)] | rw [if_neg (by skip; assumption)])))
        all_goals rfl
      obtain ⟨hP9, hD9⟩ := va_sub2 (ws' := [(h0, .inr (10, [.ref rd, .ref wy, .ref tr, .ref im, .ref kp, .ref od, .ref ch, .ref cr, .ref le, .ref mk, .ref tl, .ref sh, .int tf, .int rf])), (cr, .inr (1, [.int (nI u7), .int u8, .int u9])), (wy, .inr (9, [.int (nI N), .int (nI B), .int (nI D), .ref a1, .ref a2, .ref a3, .ref a4, .ref a5, .ref a6])), (a1, .inl (G 0, 10, .inl f1)), (a2, .inl (G 0, 10, .inl f2)), (a3, .inl (G 0, 10, .inl f3)), (a4, .inl (G 0, 6, .inl f4)), (a5, .inl (G 0, 6, .inl f5)), (a6, .inl (G 0, 6, .inl f6))]) hP hD [0, 1, 2, 3, 4, 5, 6, 7, 8] (by decide +kernel) rfl
      refine W.widen (k := 0) (n := 0) (Nat.le_of_ble_eq_true rfl) (Nat.le_of_ble_eq_true rfl) ?_
      exact W.iret (v := nI u7) hx hb hr (fun t ht hW => ⟨⟨nI u7, ((nI u7), u8, u9), rfl, ⟨hpost, trivial⟩, ⟨by rw [ht]; exact hP9, hD9⟩⟩, hS.F ht⟩) hS.2.2 dX10_carry_55
    · skip
      by_cases c11 : what = 1
      · skip
        refine lv_cg c11 ?_
        refine lv_lookup (tgt := 56) (off := 34) hx hb dX10_carry_22 (by decide) rfl (by decide) ?_
        refine lv_aload_n hx hb dX10_carry_56 rfl (lv_at hl 0 rfl) ?_
        refine va_get (D := (dC, dI)) (ci := 10) (v := .ref cr) (C := RX10) (T := TX10) (N := 14) hx hb hg inG10 hown hK.1 hP 0 rfl rfl 7 (Nat.le_of_ble_eq_true rfl) (hg _ wt_309) (fun _ h9 => h9) rfl dX10_carry_57 ?_
        refine va_getN (D := (dC, dI)) (ci := 1) (v := .int u8) (C := RX1) (T := TX1) (N := 3) hx hb hg inG1 hown hK.1 hP 1 rfl rfl 1 (Nat.le_of_ble_eq_true rfl) (hK.nest wn_201) (fun _ h9 => h9) rfl dX10_carry_60 ?_
        have hpost : (u8 : Int32) = if (0 ≤ what.toInt ∧ what.toInt ≤ 2) then crA what (crR (fun jb => hmO N B f1 f2 f3 f4 f5 f6 (nI jb)) sd D N) else -1 := by
          have t_b4 := b4
          have t_c10 := neI c10
          have t_c11 := eqI c11
          have : (0 : Int32).toInt = 0 := qI_0
          have : (1 : Int32).toInt = 1 := qI_1
          have t_n0 : (nI N).toInt = (N : Int) := tn2317_ ()
          have t_n1 : (nI B).toInt = (B : Int) := tn2318_ ()
          have t_n2 : (nI D).toInt = (D : Int) := tn2319_ ()
          have z0 : (0 : Int32).toInt = 0 := qI_0
          have z1 : (1 : Int32).toInt = 1 := qI_1
          have z2 : (2 : Int32).toInt = 2 := qI_2
          have z3 : (3 : Int32).toInt = 3 := qI_3
          have z5 : (5 : Int32).toInt = 5 := qI_5
          have z9 : (9 : Int32).toInt = 9 := qI_9
          obtain ⟨x9, e9⟩ := w6
          rw [if_pos (by omega), ← e9]
          unfold crA
          (try (repeat (first | rw [if_pos (by with_reducible assumption)] | rw [if_neg (by with_reducible assumption)] | rw [if_pos (by omega)] | rw [if_neg (by omega)] | rw [if_pos (by decide)] | rw [if_neg (by decide)] | rw [if_pos (by skip; assumption)] | rw [if_neg (by skip; assumption)])))
          all_goals rfl
        obtain ⟨hP9, hD9⟩ := va_sub2 (ws' := [(h0, .inr (10, [.ref rd, .ref wy, .ref tr, .ref im, .ref kp, .ref od, .ref ch, .ref cr, .ref le, .ref mk, .ref tl, .ref sh, .int tf, .int rf])), (cr, .inr (1, [.int (nI u7), .int u8, .int u9])), (wy, .inr (9, [.int (nI N), .int (nI B), .int (nI D), .ref a1, .ref a2, .ref a3, .ref a4, .ref a5, .ref a6])), (a1, .inl (G 0, 10, .inl f1)), (a2, .inl (G 0, 10, .inl f2)), (a3, .inl (G 0, 10, .inl f3)), (a4, .inl (G 0, 6, .inl f4)), (a5, .inl (G 0, 6, .inl f5)), (a6, .inl (G 0, 6, .inl f6))]) hP hD [0, 1, 2, 3, 4, 5, 6, 7, 8] (by decide +kernel) rfl
        refine W.widen (k := 0) (n := 0) (Nat.le_of_ble_eq_true rfl) (Nat.le_of_ble_eq_true rfl) ?_
        exact W.iret (v := u8) hx hb hr (fun t ht hW => ⟨⟨u8, ((nI u7), u8, u9), rfl, ⟨hpost, trivial⟩, ⟨by rw [ht]; exact hP9, hD9⟩⟩, hS.F ht⟩) hS.2.2 dX10_carry_63
      · skip
        refine lv_lookup (tgt := 64) (off := 42) hx hb dX10_carry_22 (by decide) ((lv_osw c10 rfl).trans <| (lv_osw c11 rfl).trans <| rfl) (by decide) ?_
        refine lv_aload_n hx hb dX10_carry_64 rfl (lv_at hl 0 rfl) ?_
        refine va_get (D := (dC, dI)) (ci := 10) (v := .ref cr) (C := RX10) (T := TX10) (N := 14) hx hb hg inG10 hown hK.1 hP 0 rfl rfl 7 (Nat.le_of_ble_eq_true rfl) (hg _ wt_309) (fun _ h9 => h9) rfl dX10_carry_65 ?_
        refine va_getN (D := (dC, dI)) (ci := 1) (v := .int u9) (C := RX1) (T := TX1) (N := 3) hx hb hg inG1 hown hK.1 hP 1 rfl rfl 2 (Nat.le_of_ble_eq_true rfl) (hK.nest wn_203) (fun _ h9 => h9) rfl dX10_carry_68 ?_
        have hpost : (u9 : Int32) = if (0 ≤ what.toInt ∧ what.toInt ≤ 2) then crA what (crR (fun jb => hmO N B f1 f2 f3 f4 f5 f6 (nI jb)) sd D N) else -1 := by
          have t_b4 := b4
          have t_c10 := neI c10
          have t_c11 := neI c11
          have : (0 : Int32).toInt = 0 := qI_0
          have : (1 : Int32).toInt = 1 := qI_1
          have t_n0 : (nI N).toInt = (N : Int) := tn2317_ ()
          have t_n1 : (nI B).toInt = (B : Int) := tn2318_ ()
          have t_n2 : (nI D).toInt = (D : Int) := tn2319_ ()
          have z0 : (0 : Int32).toInt = 0 := qI_0
          have z1 : (1 : Int32).toInt = 1 := qI_1
          have z2 : (2 : Int32).toInt = 2 := qI_2
          have z3 : (3 : Int32).toInt = 3 := qI_3
          have z5 : (5 : Int32).toInt = 5 := qI_5
          have z9 : (9 : Int32).toInt = 9 := qI_9
          obtain ⟨x9, e9⟩ := w6
          rw [if_pos (by omega), ← e9]
          unfold crA
          (try (repeat (first | rw [if_pos (by with_reducible assumption)] | rw [if_neg (by with_reducible assumption)] | rw [if_pos (by omega)] | rw [if_neg (by omega)] | rw [if_pos (by decide)] | rw [if_neg (by decide)] | rw [if_pos (by skip; assumption)] | rw [if_neg (by skip; assumption)])))
          all_goals rfl
        obtain ⟨hP9, hD9⟩ := va_sub2 (ws' := [(h0, .inr (10, [.ref rd, .ref wy, .ref tr, .ref im, .ref kp, .ref od, .ref ch, .ref cr, .ref le, .ref mk, .ref tl, .ref sh, .int tf, .int rf])), (cr, .inr (1, [.int (nI u7), .int u8, .int u9])), (wy, .inr (9, [.int (nI N), .int (nI B), .int (nI D), .ref a1, .ref a2, .ref a3, .ref a4, .ref a5, .ref a6])), (a1, .inl (G 0, 10, .inl f1)), (a2, .inl (G 0, 10, .inl f2)), (a3, .inl (G 0, 10, .inl f3)), (a4, .inl (G 0, 6, .inl f4)), (a5, .inl (G 0, 6, .inl f5)), (a6, .inl (G 0, 6, .inl f6))]) hP hD [0, 1, 2, 3, 4, 5, 6, 7, 8] (by decide +kernel) rfl
        refine W.widen (k := 0) (n := 0) (Nat.le_of_ble_eq_true rfl) (Nat.le_of_ble_eq_true rfl) ?_
        exact W.iret (v := u9) hx hb hr (fun t ht hW => ⟨⟨u9, ((nI u7), u8, u9), rfl, ⟨hpost, trivial⟩, ⟨by rw [ht]; exact hP9, hD9⟩⟩, hS.F ht⟩) hS.2.2 dX10_carry_71
  · skip
    have b12 := if10_n c3
    refine lv_iconst (v := (-1)) hx hb dX10_carry_7 rfl ?_
    have hpost : ((-1) : Int32) = if (0 ≤ what.toInt ∧ what.toInt ≤ 2) then crA what (crR (fun jb => hmO N B f1 f2 f3 f4 f5 f6 (nI jb)) sd D N) else -1 := by
      have t_b12 := b12
      have t_n0 : (nI N).toInt = (N : Int) := tn2317_ ()
      have t_n1 : (nI B).toInt = (B : Int) := tn2318_ ()
      have t_n2 : (nI D).toInt = (D : Int) := tn2319_ ()
      have z0 : (0 : Int32).toInt = 0 := qI_0
      have z1 : (1 : Int32).toInt = 1 := qI_1
      have z2 : (2 : Int32).toInt = 2 := qI_2
      have z3 : (3 : Int32).toInt = 3 := qI_3
      have z5 : (5 : Int32).toInt = 5 := qI_5
      have z9 : (9 : Int32).toInt = 9 := qI_9
      rw [if_neg (by omega)]
    obtain ⟨hP9, hD9⟩ := va_sub2 (ws' := [(h0, .inr (10, [.ref rd, .ref wy, .ref tr, .ref im, .ref kp, .ref od, .ref ch, .ref cr, .ref le, .ref mk, .ref tl, .ref sh, .int tf, .int rf])), (cr, .inr (1, [.int x1, .int x2, .int x3])), (wy, .inr (9, [.int (nI N), .int (nI B), .int (nI D), .ref a1, .ref a2, .ref a3, .ref a4, .ref a5, .ref a6])), (a1, .inl (G 0, 10, .inl f1)), (a2, .inl (G 0, 10, .inl f2)), (a3, .inl (G 0, 10, .inl f3)), (a4, .inl (G 0, 6, .inl f4)), (a5, .inl (G 0, 6, .inl f5)), (a6, .inl (G 0, 6, .inl f6))]) hP hD [0, 1, 2, 3, 4, 5, 6, 7, 8] (by decide +kernel) rfl
    refine W.widen (k := 0) (n := 0) (Nat.le_of_ble_eq_true rfl) (Nat.le_of_ble_eq_true rfl) ?_
    exact W.iret (v := (-1)) hx hb hr (fun t ht hW => ⟨⟨(-1), (x1, x2, x3), rfl, ⟨hpost, trivial⟩, ⟨by rw [ht]; exact hP9, hD9⟩⟩, hS.F ht⟩) hS.2.2 dX10_carry_8

set_option maxHeartbeats 1000000 in
set_option maxRecDepth 100000 in
theorem c_X11_carryE (l : Launch) (dC : Nat → ClassId) (dI : Nat → Nat → Nat) (G : Nat → ClassId) (sz : Nat) (h0 st N B rp tp T cu lt od th be ln S ma M ah bh ik la lg ce : Nat) (sd what vrs vrb vhs vca vxs vxb vfa vbr vba vsp vhe vtk vva vto : Int32) (fst : Nat → Int32) (hN : N ≤ 10) (hB : B ≤ 6) (hT : T ≤ 320) (hS0 : S ≤ 8) (hM : M ≤ 6) (hst : OKS fst) : Met l yX11_carry (Cond.code yX11_carry cX11_carry 9 (some .int) :: GT) ({ frames := 3, cells := 0, slots := 0, locals := 72 } : Room) (PcR [.ref h0, .int sd, .int what] dC dI G [(h0, .inr (11, [.ref st, .int (nI N), .int (nI B), .ref rp, .int vrs, .int vrb, .int vhs, .int vca, .int vxs, .int vxb, .ref tp, .int (nI T), .int vfa, .int vbr, .int vba, .int vsp, .int vhe, .int vtk, .int vva, .ref cu, .ref lt, .ref od, .ref th, .ref be, .ref ln, .int (nI S), .ref ma, .int (nI M), .ref ah, .ref bh, .ref ik, .ref la, .ref lg, .ref ce, .int vto])), (st, .inl (G 0, 196, .inl fst))] sz) (va_Qi (fun (r : Int32) (u : Unit) => match u with | _ => (r = if (0 ≤ what.toInt ∧ what.toInt ≤ 2) then crA what (crR (fun jb => rhO fst jb 0) sd (sdN fst) N) else -1) ∧ True) (fun _ _ => True) (fun q : Nat => sz ≤ q)) 0 0 (fun q : Nat => sz ≤ q) := by
  have hB_ := hB
  have hM_ := hM
  have hT_ := hT
  have tn2320_ : nIT N := fun _ => nI_toInt (by omega)
  have tn2321_ : nIT B := fun _ => nI_toInt (by omega)
  have tn2322_ : nIT T := fun _ => nI_toInt (by omega)
  have tn2323_ : nIT S := fun _ => nI_toInt (by omega)
  have tn2324_ : nIT M := fun _ => nI_toInt (by omega)
  refine Met.ofW (cc := cX11_carry) (maxL := 9) (ret := (some .int)) (by decide) rfl ?_
  intro p e s m args below meth c s₁ Bd hml hv
  obtain ⟨rfl, hsz, hP, hK⟩ := hv
  have hx := Bd.exec
  have hb := Bd.bytes
  have hr := Bd.returns
  have hg : ∀ w ∈ GT, w.before ([.ref h0, .int sd, .int what] : List Value).toArray s = true := fun w h => atoms_spec (ws := Cond.code yX11_carry cX11_carry 9 (some .int) :: GT) Bd.pre w (List.mem_cons_of_mem _ h)
  have hown : s.vm.findClass RX11 = some m.cls := findClass_of_methodNamed Bd.named
  have hlocks := Bd.notSynchronized
  subst hsz
  have hA : ∀ q : Nat, s.heap.size ≤ q → (fun q : Nat => s.heap.size ≤ q) q := fun _ h => h
  have hS : va_S (fun q : Nat => s.heap.size ≤ q) s.heap s.heap [] := va_S.rf
  have hl := lv_entry ([.ref h0, .int sd, .int what]) (n := 9) (Nat.le_of_ble_eq_true rfl)
  rw [lg_entry_eq]
  generalize (lg_sl ([.ref h0, .int sd, .int what]) ++ List.replicate (9 - (lg_sl ([.ref h0, .int sd, .int what])).length) Slot.unset).toArray = ls at hl ⊢
  have hl : lv_has ls 9 [(0, .ref h0), (1, .int sd), (2, .int what)] := hl
  refine lv_iload_n hx hb dX11_carry_0 rfl (lv_at hl 2 rfl) ?_
  refine lv_i2l (v := what.toInt64) hx hb dX11_carry_1 rfl ?_
  refine lv_lconst (v := 0) hx hb dX11_carry_2 (by decide) ?_
  refine lv_ldc2 (v := 2) hx hb hown (hg _ wt_1056) dX11_carry_3 ?_
  have hPc := hP.sub (ws' := []) [] rfl
  refine va_calli (va_runS (As := [.long what.toInt64, .long 0, .long 2]) (rest := []) ⟨hx, hb, hml, hown, hg⟩ (c_X11_in l dC dI G _ what.toInt64 0 2) (kwS hg mfX11_in wt_992 ⟨Nat.le_of_ble_eq_true rfl, Nat.le_of_ble_eq_true rfl⟩) (preSR hK hPc) rfl rfl hl.1 rfl (lv_room (Nat.le_of_ble_eq_true rfl)) dX11_carry_6 ⟨Nat.le_of_ble_eq_true rfl, Nat.le_of_ble_eq_true rfl⟩) hS (fun q h1 h2 => absurd h2 (Nat.not_le.mpr h1)) (fun q h => hA q (Nat.le_trans hS.1 h)) (fun r1 ur1 t H1 locs ht hvm w2 hB hz1 hk1 hS => ?_)
  have hP := keepR hP hk1
  obtain ⟨w2, w2x⟩ := w2
  try simp only [l_ii, show (0 : Int64).toInt = 0 from by decide, show (2 : Int64).toInt = 2 from by decide] at w2
  subst w2
  refine lv_if_ne (tgt := 14) hx hb dX11_carry_9 rfl (fun c3 => ?_) (fun c3 => ?_)
  · skip
    have b4 := if10_p c3
    refine lv_iload_n hx hb dX11_carry_14 rfl (lv_at hl 1 rfl) ?_
    refine lv_istore_n (lv' := [(3, .int sd), (0, .ref h0), (1, .int sd), (2, .int what)]) hx hb dX11_carry_15 rfl hl (by decide) rfl (fun ls hl => ?_)
    refine lv_aload_n hx hb dX11_carry_16 rfl (lv_at hl 1 rfl) ?_
    have hPc := hP.sub (ws' := [(h0, .inr (11, [.ref st, .int (nI N), .int (nI B), .ref rp, .int vrs, .int vrb, .int vhs, .int vca, .int vxs, .int vxb, .ref tp, .int (nI T), .int vfa, .int vbr, .int vba, .int vsp, .int vhe, .int vtk, .int vva, .ref cu, .ref lt, .ref od, .ref th, .ref be, .ref ln, .int (nI S), .ref ma, .int (nI M), .ref ah, .ref bh, .ref ik, .ref la, .ref lg, .ref ce, .int vto])), (st, .inl (G 0, 196, .inl fst))]) [0, 1] rfl
    refine va_calli (va_runV (As := []) (rest := []) ⟨hx, hb, hml, hown, hg⟩ (c_X11_startNowS l dC dI G _ h0 st N B rp tp T cu lt od th be ln S ma M ah bh ik la lg ce vrs vrb vhs vca vxs vxb vfa vbr vba vsp vhe vtk vva vto fst hN hB_ hT_ hS0 hM_ hst) (kwV hg mfX11_startNow wt_1044 ⟨Nat.le_of_ble_eq_true rfl, Nat.le_of_ble_eq_true rfl⟩) (preVR hK hPc (ci := 11) (r := (RX11, TX11, 35)) rfl rfl) rfl rfl hl.1 rfl (lv_room (Nat.le_of_ble_eq_true rfl)) dX11_carry_17 ⟨Nat.le_of_ble_eq_true rfl, Nat.le_of_ble_eq_true rfl⟩) hS (fun q h1 h2 => absurd h2 (Nat.not_le.mpr h1)) (fun q h => hA q (Nat.le_trans hS.1 h)) (fun r5 ur5 t H1 locs ht hvm w6 hB hz1 hk1 hS => ?_)
    have hP := keepR hP hk1
    obtain ⟨w6, w6x⟩ := w6
    have w6b := w6.2
    replace w6 := w6.1
    subst w6
    refine lv_istore (lv' := [(4, .int (nI (sdN fst))), (3, .int sd), (0, .ref h0), (1, .int sd), (2, .int what)]) hx hb dX11_carry_20 hl (by decide) rfl (fun ls hl => ?_)
    refine lv_iconst (v := 0) hx hb dX11_carry_22 rfl ?_
    refine lv_istore (lv' := [(5, .int 0), (4, .int (nI (sdN fst))), (3, .int sd), (0, .ref h0), (1, .int sd), (2, .int what)]) hx hb dX11_carry_23 hl (by decide) rfl (fun ls hl => ?_)
    refine lv_bipush (v := (-4)) hx hb dX11_carry_25 rfl ?_
    refine lv_istore (lv' := [(6, .int (-4)), (5, .int 0), (4, .int (nI (sdN fst))), (3, .int sd), (0, .ref h0), (1, .int sd), (2, .int what)]) hx hb dX11_carry_27 hl (by decide) rfl (fun ls hl => ?_)
    refine lv_iconst (v := 0) hx hb dX11_carry_29 rfl ?_
    refine lv_istore (lv' := [(7, .int 0), (6, .int (-4)), (5, .int 0), (4, .int (nI (sdN fst))), (3, .int sd), (0, .ref h0), (1, .int sd), (2, .int what)]) hx hb dX11_carry_30 hl (by decide) rfl (fun ls hl => ?_)
    have loop32_13 : ∀ (nf j7 : Nat), N + 1 ≤ j7 + nf → j7 ≤ N → ∀ (y8 : Int32) (y9 : Int32) (k11 : Nat) (y12 : Int32) (H : Heap) (locs : List Loc), (y12, k11, y9, y8) = crR (fun jb => rhO fst jb 0) sd (sdN fst) j7 ∧ k11 ≤ 9 → va_P (dC, dI) vwCl [(h0, .inr (11, [.ref st, .int (nI N), .int (nI B), .ref rp, .int vrs, .int vrb, .int vhs, .int vca, .int vxs, .int vxb, .ref tp, .int (nI T), .int vfa, .int vbr, .int vba, .int vsp, .int vhe, .int vtk, .int vva, .ref cu, .ref lt, .ref od, .ref th, .ref be, .ref ln, .int (nI S), .ref ma, .int (nI M), .ref ah, .ref bh, .ref ik, .ref la, .ref lg, .ref ce, .int vto])), (st, .inl (G 0, 196, .inl fst))] H → va_S (fun q : Nat => s.heap.size ≤ q) s.heap H locs → ∀ (ls : Array Slot), lv_has ls 9 [(7, .int (nI j7)), (6, .int y8), (5, .int y9), (4, .int (nI k11)), (3, .int y12), (0, .ref h0), (1, .int sd), (2, .int what)] → W p l e (headSpec (Cond.code yX11_carry cX11_carry 9 (some .int) :: GT) ({ frames := 3, cells := 0, slots := 0, locals := 72 } : Room)).room s m ([.ref h0, .int sd, .int what] : List Value).toArray below meth c H locs 0 0 (MQ below (va_Qi (fun (r : Int32) (u : Unit) => match u with | _ => (r = if (0 ≤ what.toInt ∧ what.toInt ≤ 2) then crA what (crR (fun jb => rhO fst jb 0) sd (sdN fst) N) else -1) ∧ True) (fun _ _ => True) (fun q : Nat => s.heap.size ≤ q)) ([.ref h0, .int sd, .int what] : List Value).toArray s 0 0 (fun q : Nat => s.heap.size ≤ q)) (F0 m 32 ls []) := by
      intro nf
      induction nf with
      | zero => intro j7 h1 h2; exact absurd h1 (by omega)
      | succ nf ih32_13 =>
        intro j7 hn14 hj15 y8 y9 k11 y12 H locs hinv hP hS ls hl
        refine lv_iload hx hb dX11_carry_32 (lv_at hl 0 rfl) ?_
        refine lv_aload_n hx hb dX11_carry_34 rfl (lv_at hl 5 rfl) ?_
        refine va_get (D := (dC, dI)) (ci := 11) (v := .int (nI N)) (C := RX11) (T := TX11) (N := 35) hx hb hg inG11 hown hK.1 hP 0 rfl rfl 1 (Nat.le_of_ble_eq_true rfl) (hg _ wt_879) (fun _ h9 => h9) rfl dX11_carry_35 ?_
        refine lv_icmp_ge (tgt := 138) hx hb dX11_carry_38 rfl (fun c16 => ?_) (fun c16 => ?_)
        · skip
          have tn2325_ : nIT j7 := fun _ => nI_toInt (by first | omega | (have t := leI c16; omega))
          have n17 : N ≤ j7 := by have t := leI c16; rw [show (nI (j7)).toInt = ((j7 : Nat) : Int) from tn2325_ ()] at t; rw [show (nI (N)).toInt = ((N : Nat) : Int) from tn2320_ ()] at t; omega
          refine lv_iload_n hx hb dX11_carry_138 rfl (lv_at hl 7 rfl) ?_
          refine lv_if_ne (tgt := 147) hx hb dX11_carry_139 rfl (fun c18 => ?_) (fun c18 => ?_)
          · skip
            refine lv_iload_n hx hb dX11_carry_147 rfl (lv_at hl 7 rfl) ?_
            refine lv_iconst (v := 1) hx hb dX11_carry_148 rfl ?_
            refine lv_icmp_ne (tgt := 157) hx hb dX11_carry_149 rfl (fun c19 => ?_) (fun c19 => ?_)
            · skip
              refine lv_iload hx hb dX11_carry_157 (lv_at hl 1 rfl) ?_
              have hpost : (y8 : Int32) = if (0 ≤ what.toInt ∧ what.toInt ≤ 2) then crA what (crR (fun jb => rhO fst jb 0) sd (sdN fst) N) else -1 := by
                have tn2326_ : nIT k11 := fun _ => nI_toInt (by omega)
                have e9 := cr_end hinv.1 (show _ ∨ N ≤ _ by (have t_b4 := b4; have t_w6b := w6b; have t_hj15 := hj15; have t_hinv := hinv.2; have t_n17 := n17; have t_c18 := neI c18; have t_c19 := neI c19; have tqz_ := qz2_; have tnb_ := nib7 tn2320_ tn2321_ tn2322_ tn2323_ tn2324_ tn2325_ tn2326_; have tqz_ := qz41_; omega)) (by (have t_b4 := b4; have t_w6b := w6b; have t_hj15 := hj15; have t_hinv := hinv.2; have t_n17 := n17; have t_c18 := neI c18; have t_c19 := neI c19; have tqz_ := qz2_; have tnb_ := nib7 tn2320_ tn2321_ tn2322_ tn2323_ tn2324_ tn2325_ tn2326_; have tqz_ := qz41_; omega))
                rw [if_pos (by (have t_b4 := b4; have t_w6b := w6b; have t_hj15 := hj15; have t_hinv := hinv.2; have t_n17 := n17; have t_c18 := neI c18; have t_c19 := neI c19; have tqz_ := qz2_; have tnb_ := nib7 tn2320_ tn2321_ tn2322_ tn2323_ tn2324_ tn2325_ tn2326_; have tqz_ := qz41_; omega)), ← e9]
                unfold crA
                (try (repeat (first | rw [if_pos (by with_reducible assumption)] | rw [if_neg (by with_reducible assumption)] | rw [if_pos (by first | exact b4 | exact c18 | exact c19)] | rw [if_neg (by first | exact b4 | exact c18 | exact c19)] | rw [if_pos (by (have t_b4 := b4; have t_w6b := w6b; have t_hj15 := hj15; have t_hinv := hinv.2; have t_n17 := n17; have t_c18 := neI c18; have t_c19 := neI c19; have tqz_ := qz2_; have tnb_ := nib7 tn2320_ tn2321_ tn2322_ tn2323_ tn2324_ tn2325_ tn2326_; have tqz_ := qz41_; omega))] | rw [if_neg (by (have t_b4 := b4; have t_w6b := w6b; have t_hj15 := hj15; have t_hinv := hinv.2; have t_n17 := n17; have t_c18 := neI c18; have t_c19 := neI c19; have tqz_ := qz2_; have tnb_ := nib7 tn2320_ tn2321_ tn2322_ tn2323_ tn2324_ tn2325_ tn2326_; have tqz_ := qz41_; omega))] | rw [if_pos (by decide)] | rw [if_neg (by decide)] | rw [if_pos (by skip; assumption)] | rw [if_neg (by skip; assumption)])))
                all_goals rfl
              refine W.widen (k := 0) (n := 0) (Nat.le_of_ble_eq_true rfl) (Nat.le_of_ble_eq_true rfl) ?_
              exact W.iret (v := y8) hx hb hr (fun t ht hW => ⟨⟨y8, (), rfl, ⟨hpost, trivial⟩, trivial⟩, hS.F ht⟩) hS.2.2 dX11_carry_159
            · skip
              refine lv_iload hx hb dX11_carry_152 (lv_at hl 2 rfl) ?_
              refine lv_goto (tgt := 159) hx hb dX11_carry_154 rfl ?_
              have hpost : (y9 : Int32) = if (0 ≤ what.toInt ∧ what.toInt ≤ 2) then crA what (crR (fun jb => rhO fst jb 0) sd (sdN fst) N) else -1 := by
                have tn2327_ : nIT k11 := fun _ => nI_toInt (by omega)
                have e9 := cr_end hinv.1 (show _ ∨ N ≤ _ by (have t_b4 := b4; have t_w6b := w6b; have t_hj15 := hj15; have t_hinv := hinv.2; have t_n17 := n17; have t_c18 := neI c18; have t_c19 := eqI c19; have tqz_ := qz2_; have tnb_ := nib7 tn2320_ tn2321_ tn2322_ tn2323_ tn2324_ tn2325_ tn2327_; have tqz_ := qz41_; omega)) (by (have t_b4 := b4; have t_w6b := w6b; have t_hj15 := hj15; have t_hinv := hinv.2; have t_n17 := n17; have t_c18 := neI c18; have t_c19 := eqI c19; have tqz_ := qz2_; have tnb_ := nib7 tn2320_ tn2321_ tn2322_ tn2323_ tn2324_ tn2325_ tn2327_; have tqz_ := qz41_; omega))
                rw [if_pos (by (have t_b4 := b4; have t_w6b := w6b; have t_hj15 := hj15; have t_hinv := hinv.2; have t_n17 := n17; have t_c18 := neI c18; have t_c19 := eqI c19; have tqz_ := qz2_; have tnb_ := nib7 tn2320_ tn2321_ tn2322_ tn2323_ tn2324_ tn2325_ tn2327_; have tqz_ := qz41_; omega)), ← e9]
                unfold crA
                (try (repeat (first | rw [if_pos (by with_reducible assumption)] | rw [if_neg (by with_reducible assumption)] | rw [if_pos (by first | exact b4 | exact c18 | exact c19)] | rw [if_neg (by first | exact b4 | exact c18 | exact c19)] | rw [if_pos (by (have t_b4 := b4; have t_w6b := w6b; have t_hj15 := hj15; have t_hinv := hinv.2; have t_n17 := n17; have t_c18 := neI c18; have t_c19 := eqI c19; have tqz_ := qz2_; have tnb_ := nib7 tn2320_ tn2321_ tn2322_ tn2323_ tn2324_ tn2325_ tn2327_; have tqz_ := qz41_; omega))] | rw [if_neg (by (have t_b4 := b4; have t_w6b := w6b; have t_hj15 := hj15; have t_hinv := hinv.2; have t_n17 := n17; have t_c18 := neI c18; have t_c19 := eqI c19; have tqz_ := qz2_; have tnb_ := nib7 tn2320_ tn2321_ tn2322_ tn2323_ tn2324_ tn2325_ tn2327_; have tqz_ := qz41_; omega))] | rw [if_pos (by decide)] | rw [if_neg (by decide)] | rw [if_pos (by skip; assumption)] | rw [if_neg (by skip; assumption)])))
                all_goals rfl
              refine W.widen (k := 0) (n := 0) (Nat.le_of_ble_eq_true rfl) (Nat.le_of_ble_eq_true rfl) ?_
              exact W.iret (v := y9) hx hb hr (fun t ht hW => ⟨⟨y9, (), rfl, ⟨hpost, trivial⟩, trivial⟩, hS.F ht⟩) hS.2.2 dX11_carry_159
          · skip
            refine lv_iload hx hb dX11_carry_142 (lv_at hl 3 rfl) ?_
            refine lv_goto (tgt := 159) hx hb dX11_carry_144 rfl ?_
            have hpost : (nI k11 : Int32) = if (0 ≤ what.toInt ∧ what.toInt ≤ 2) then crA what (crR (fun jb => rhO fst jb 0) sd (sdN fst) N) else -1 := by
              have tn2328_ : nIT k11 := fun _ => nI_toInt (by omega)
              have e9 := cr_end hinv.1 (show _ ∨ N ≤ _ by (have t_b4 := b4; have t_w6b := w6b; have t_hj15 := hj15; have t_hinv := hinv.2; have t_n17 := n17; have t_c18 := eqI c18; have : (0 : Int32).toInt = 0 := qI_0; have tnb_ := nib7 tn2320_ tn2321_ tn2322_ tn2323_ tn2324_ tn2325_ tn2328_; have tqz_ := qz41_; omega)) (by (have t_b4 := b4; have t_w6b := w6b; have t_hj15 := hj15; have t_hinv := hinv.2; have t_n17 := n17; have t_c18 := eqI c18; have : (0 : Int32).toInt = 0 := qI_0; have tnb_ := nib7 tn2320_ tn2321_ tn2322_ tn2323_ tn2324_ tn2325_ tn2328_; have tqz_ := qz41_; omega))
              rw [if_pos (by (have t_b4 := b4; have t_w6b := w6b; have t_hj15 := hj15; have t_hinv := hinv.2; have t_n17 := n17; have t_c18 := eqI c18; have : (0 : Int32).toInt = 0 := qI_0; have tnb_ := nib7 tn2320_ tn2321_ tn2322_ tn2323_ tn2324_ tn2325_ tn2328_; have tqz_ := qz41_; omega)), ← e9]
              unfold crA
              (try (repeat (first | rw [if_pos (by with_reducible assumption)] | rw [if_neg (by with_reducible assumption)] | rw [if_pos (by first | exact b4 | exact c18)] | rw [if_neg (by first | exact b4 | exact c18)] | rw [if_pos (by (have t_b4 := b4; have t_w6b := w6b; have t_hj15 := hj15; have t_hinv := hinv.2; have t_n17 := n17; have t_c18 := eqI c18; have : (0 : Int32).toInt = 0 := qI_0; have tnb_ := nib7 tn2320_ tn2321_ tn2322_ tn2323_ tn2324_ tn2325_ tn2328_; have tqz_ := qz41_; omega))] | rw [if_neg (by (have t_b4 := b4; have t_w6b := w6b; have t_hj15 := hj15; have t_hinv := hinv.2; have t_n17 := n17; have t_c18 := eqI c18; have : (0 : Int32).toInt = 0 := qI_0; have tnb_ := nib7 tn2320_ tn2321_ tn2322_ tn2323_ tn2324_ tn2325_ tn2328_; have tqz_ := qz41_; omega))] | rw [if_pos (by decide)] | rw [if_neg (by decide)] | rw [if_pos (by skip; assumption)] | rw [if_neg (by skip; assumption)])))
              all_goals rfl
            refine W.widen (k := 0) (n := 0) (Nat.le_of_ble_eq_true rfl) (Nat.le_of_ble_eq_true rfl) ?_
            exact W.iret (v := nI k11) hx hb hr (fun t ht hW => ⟨⟨nI k11, (), rfl, ⟨hpost, trivial⟩, trivial⟩, hS.F ht⟩) hS.2.2 dX11_carry_159
        · skip
          have tn2329_ : nIT j7 := fun _ => nI_toInt (by first | omega | (have t := nleI c16; omega))
          have n20 : j7 < N := by have t := nleI c16; rw [show (nI (j7)).toInt = ((j7 : Nat) : Int) from tn2329_ ()] at t; rw [show (nI (N)).toInt = ((N : Nat) : Int) from tn2320_ ()] at t; omega
          refine lv_iload hx hb dX11_carry_41 (lv_at hl 3 rfl) ?_
          refine lv_if_le (tgt := 138) hx hb dX11_carry_43 rfl (fun c21 => ?_) (fun c21 => ?_)
          · skip
            have tn2330_ : nIT k11 := fun _ => nI_toInt (by first | omega | (have t := leI c21; omega))
            have n22 : k11 ≤ 0 := by have t := leI c21; rw [show (nI (k11)).toInt = ((k11 : Nat) : Int) from tn2330_ ()] at t; have : (0 : Int32).toInt = 0 := qI_0; omega
            refine lv_iload_n hx hb dX11_carry_138 rfl (lv_at hl 7 rfl) ?_
            refine lv_if_ne (tgt := 147) hx hb dX11_carry_139 rfl (fun c23 => ?_) (fun c23 => ?_)
            · skip
              refine lv_iload_n hx hb dX11_carry_147 rfl (lv_at hl 7 rfl) ?_
              refine lv_iconst (v := 1) hx hb dX11_carry_148 rfl ?_
              refine lv_icmp_ne (tgt := 157) hx hb dX11_carry_149 rfl (fun c24 => ?_) (fun c24 => ?_)
              · skip
                refine lv_iload hx hb dX11_carry_157 (lv_at hl 1 rfl) ?_
                have hpost : (y8 : Int32) = if (0 ≤ what.toInt ∧ what.toInt ≤ 2) then crA what (crR (fun jb => rhO fst jb 0) sd (sdN fst) N) else -1 := by
                  have e9 := cr_end hinv.1 (show _ ∨ N ≤ _ by (have t_b4 := b4; have t_w6b := w6b; have t_hj15 := hj15; have t_hinv := hinv.2; have t_n20 := n20; have t_n22 := n22; have t_c23 := neI c23; have t_c24 := neI c24; have tqz_ := qz2_; have tnb_ := nib7 tn2320_ tn2321_ tn2322_ tn2323_ tn2324_ tn2329_ tn2330_; have tqz_ := qz41_; omega)) (by (have t_b4 := b4; have t_w6b := w6b; have t_hj15 := hj15; have t_hinv := hinv.2; have t_n20 := n20; have t_n22 := n22; have t_c23 := neI c23; have t_c24 := neI c24; have tqz_ := qz2_; have tnb_ := nib7 tn2320_ tn2321_ tn2322_ tn2323_ tn2324_ tn2329_ tn2330_; have tqz_ := qz41_; omega))
                  rw [if_pos (by (have t_b4 := b4; have t_w6b := w6b; have t_hj15 := hj15; have t_hinv := hinv.2; have t_n20 := n20; have t_n22 := n22; have t_c23 := neI c23; have t_c24 := neI c24; have tqz_ := qz2_; have tnb_ := nib7 tn2320_ tn2321_ tn2322_ tn2323_ tn2324_ tn2329_ tn2330_; have tqz_ := qz41_; omega)), ← e9]
                  unfold crA
                  (try (repeat (first | rw [if_pos (by with_reducible assumption)] | rw [if_neg (by with_reducible assumption)] | rw [if_pos (by first | exact b4 | exact c23 | exact c24)] | rw [if_neg (by first | exact b4 | exact c23 | exact c24)] | rw [if_pos (by (have t_b4 := b4; have t_w6b := w6b; have t_hj15 := hj15; have t_hinv := hinv.2; have t_n20 := n20; have t_n22 := n22; have t_c23 := neI c23; have t_c24 := neI c24; have tqz_ := qz2_; have tnb_ := nib7 tn2320_ tn2321_ tn2322_ tn2323_ tn2324_ tn2329_ tn2330_; have tqz_ := qz41_; omega))] | rw [if_neg (by (have t_b4 := b4; have t_w6b := w6b; have t_hj15 := hj15; have t_hinv := hinv.2; have t_n20 := n20; have t_n22 := n22; have t_c23 := neI c23; have t_c24 := neI c24; have tqz_ := qz2_; have tnb_ := nib7 tn2320_ tn2321_ tn2322_ tn2323_ tn2324_ tn2329_ tn2330_; have tqz_ := qz41_; omega))] | rw [if_pos (by decide)] | rw [if_neg (by decide)] | rw [if_pos (by skip; assumption)] | rw [if_neg (by skip; assumption)])))
                  all_goals rfl
                refine W.widen (k := 0) (n := 0) (Nat.le_of_ble_eq_true rfl) (Nat.le_of_ble_eq_true rfl) ?_
                exact W.iret (v := y8) hx hb hr (fun t ht hW => ⟨⟨y8, (), rfl, ⟨hpost, trivial⟩, trivial⟩, hS.F ht⟩) hS.2.2 dX11_carry_159
              · skip
                refine lv_iload hx hb dX11_carry_152 (lv_at hl 2 rfl) ?_
                refine lv_goto (tgt := 159) hx hb dX11_carry_154 rfl ?_
                have hpost : (y9 : Int32) = if (0 ≤ what.toInt ∧ what.toInt ≤ 2) then crA what (crR (fun jb => rhO fst jb 0) sd (sdN fst) N) else -1 := by
                  have e9 := cr_end hinv.1 (show _ ∨ N ≤ _ by (have t_b4 := b4; have t_w6b := w6b; have t_hj15 := hj15; have t_hinv := hinv.2; have t_n20 := n20; have t_n22 := n22; have t_c23 := neI c23; have t_c24 := eqI c24; have tqz_ := qz2_; have tnb_ := nib7 tn2320_ tn2321_ tn2322_ tn2323_ tn2324_ tn2329_ tn2330_; have tqz_ := qz41_; omega)) (by (have t_b4 := b4; have t_w6b := w6b; have t_hj15 := hj15; have t_hinv := hinv.2; have t_n20 := n20; have t_n22 := n22; have t_c23 := neI c23; have t_c24 := eqI c24; have tqz_ := qz2_; have tnb_ := nib7 tn2320_ tn2321_ tn2322_ tn2323_ tn2324_ tn2329_ tn2330_; have tqz_ := qz41_; omega))
                  rw [if_pos (by (have t_b4 := b4; have t_w6b := w6b; have t_hj15 := hj15; have t_hinv := hinv.2; have t_n20 := n20; have t_n22 := n22; have t_c23 := neI c23; have t_c24 := eqI c24; have tqz_ := qz2_; have tnb_ := nib7 tn2320_ tn2321_ tn2322_ tn2323_ tn2324_ tn2329_ tn2330_; have tqz_ := qz41_; omega)), ← e9]
                  unfold crA
                  (try (repeat (first | rw [if_pos (by with_reducible assumption)] | rw [if_neg (by with_reducible assumption)] | rw [if_pos (by first | exact b4 | exact c23 | exact c24)] | rw [if_neg (by first | exact b4 | exact c23 | exact c24)] | rw [if_pos (by (have t_b4 := b4; have t_w6b := w6b; have t_hj15 := hj15; have t_hinv := hinv.2; have t_n20 := n20; have t_n22 := n22; have t_c23 := neI c23; have t_c24 := eqI c24; have tqz_ := qz2_; have tnb_ := nib7 tn2320_ tn2321_ tn2322_ tn2323_ tn2324_ tn2329_ tn2330_; have tqz_ := qz41_; omega))] | rw [if_neg (by (have t_b4 := b4; have t_w6b := w6b; have t_hj15 := hj15; have t_hinv := hinv.2; have t_n20 := n20; have t_n22 := n22; have t_c23 := neI c23; have t_c24 := eqI c24; have tqz_ := qz2_; have tnb_ := nib7 tn2320_ tn2321_ tn2322_ tn2323_ tn2324_ tn2329_ tn2330_; have tqz_ := qz41_; omega))] | rw [if_pos (by decide)] | rw [if_neg (by decide)] | rw [if_pos (by skip; assumption)] | rw [if_neg (by skip; assumption)])))
                  all_goals rfl
                refine W.widen (k := 0) (n := 0) (Nat.le_of_ble_eq_true rfl) (Nat.le_of_ble_eq_true rfl) ?_
                exact W.iret (v := y9) hx hb hr (fun t ht hW => ⟨⟨y9, (), rfl, ⟨hpost, trivial⟩, trivial⟩, hS.F ht⟩) hS.2.2 dX11_carry_159
            · skip
              refine lv_iload hx hb dX11_carry_142 (lv_at hl 3 rfl) ?_
              refine lv_goto (tgt := 159) hx hb dX11_carry_144 rfl ?_
              have hpost : (nI k11 : Int32) = if (0 ≤ what.toInt ∧ what.toInt ≤ 2) then crA what (crR (fun jb => rhO fst jb 0) sd (sdN fst) N) else -1 := by
                have e9 := cr_end hinv.1 (show _ ∨ N ≤ _ by (have t_b4 := b4; have t_w6b := w6b; have t_hj15 := hj15; have t_hinv := hinv.2; have t_n20 := n20; have t_n22 := n22; have t_c23 := eqI c23; have : (0 : Int32).toInt = 0 := qI_0; have tnb_ := nib7 tn2320_ tn2321_ tn2322_ tn2323_ tn2324_ tn2329_ tn2330_; have tqz_ := qz41_; omega)) (by (have t_b4 := b4; have t_w6b := w6b; have t_hj15 := hj15; have t_hinv := hinv.2; have t_n20 := n20; have t_n22 := n22; have t_c23 := eqI c23; have : (0 : Int32).toInt = 0 := qI_0; have tnb_ := nib7 tn2320_ tn2321_ tn2322_ tn2323_ tn2324_ tn2329_ tn2330_; have tqz_ := qz41_; omega))
                rw [if_pos (by (have t_b4 := b4; have t_w6b := w6b; have t_hj15 := hj15; have t_hinv := hinv.2; have t_n20 := n20; have t_n22 := n22; have t_c23 := eqI c23; have : (0 : Int32).toInt = 0 := qI_0; have tnb_ := nib7 tn2320_ tn2321_ tn2322_ tn2323_ tn2324_ tn2329_ tn2330_; have tqz_ := qz41_; omega)), ← e9]
                unfold crA
                (try (repeat (first | rw [if_pos (by with_reducible assumption)] | rw [if_neg (by with_reducible assumption)] | rw [if_pos (by first | exact b4 | exact c23)] | rw [if_neg (by first | exact b4 | exact c23)] | rw [if_pos (by (have t_b4 := b4; have t_w6b := w6b; have t_hj15 := hj15; have t_hinv := hinv.2; have t_n20 := n20; have t_n22 := n22; have t_c23 := eqI c23; have : (0 : Int32).toInt = 0 := qI_0; have tnb_ := nib7 tn2320_ tn2321_ tn2322_ tn2323_ tn2324_ tn2329_ tn2330_; have tqz_ := qz41_; omega))] | rw [if_neg (by (have t_b4 := b4; have t_w6b := w6b; have t_hj15 := hj15; have t_hinv := hinv.2; have t_n20 := n20; have t_n22 := n22; have t_c23 := eqI c23; have : (0 : Int32).toInt = 0 := qI_0; have tnb_ := nib7 tn2320_ tn2321_ tn2322_ tn2323_ tn2324_ tn2329_ tn2330_; have tqz_ := qz41_; omega))] | rw [if_pos (by decide)] | rw [if_neg (by decide)] | rw [if_pos (by skip; assumption)] | rw [if_neg (by skip; assumption)])))
                all_goals rfl
              refine W.widen (k := 0) (n := 0) (Nat.le_of_ble_eq_true rfl) (Nat.le_of_ble_eq_true rfl) ?_
              exact W.iret (v := nI k11) hx hb hr (fun t ht hW => ⟨⟨nI k11, (), rfl, ⟨hpost, trivial⟩, trivial⟩, hS.F ht⟩) hS.2.2 dX11_carry_159
          · skip
            have tn2331_ : nIT k11 := fun _ => nI_toInt (by first | omega | (have t := nleI c21; omega))
            have n25 : 0 < k11 := by have t := nleI c21; rw [show (nI (k11)).toInt = ((k11 : Nat) : Int) from tn2331_ ()] at t; have : (0 : Int32).toInt = 0 := qI_0; omega
            refine lv_iload_n hx hb dX11_carry_46 rfl (lv_at hl 4 rfl) ?_
            refine lv_ldc (v := 1103515245) hx hb hown (hg _ wt_1195) dX11_carry_47 ?_
            refine lv_imul hx hb dX11_carry_49 ?_
            refine lv_sipush (v := 12345) hx hb dX11_carry_50 rfl ?_
            refine lv_iadd hx hb dX11_carry_53 ?_
            refine lv_istore_n (lv' := [(3, .int ((y12 * 1103515245) + 12345)), (7, .int (nI j7)), (6, .int y8), (5, .int y9), (4, .int (nI k11)), (0, .ref h0), (1, .int sd), (2, .int what)]) hx hb dX11_carry_54 rfl hl (by decide) rfl (fun ls hl => ?_)
            refine lv_iload_n hx hb dX11_carry_55 rfl (lv_at hl 0 rfl) ?_
            refine lv_bipush (v := 16) hx hb dX11_carry_56 rfl ?_
            refine lv_ishr hx hb dX11_carry_58 ?_
            refine lv_sipush (v := 32767) hx hb dX11_carry_59 rfl ?_
            refine lv_iand hx hb dX11_carry_62 ?_
            refine lv_bipush (v := 20) hx hb dX11_carry_63 rfl ?_
            refine lv_irem hx hb dX11_carry_65 (by decide) ?_
            refine lv_aload_n hx hb dX11_carry_66 rfl (lv_at hl 5 rfl) ?_
            refine lv_iload hx hb dX11_carry_67 (lv_at hl 1 rfl) ?_
            refine lv_iconst (v := 0) hx hb dX11_carry_69 rfl ?_
            have hPc := hP.sub (ws' := [(h0, .inr (11, [.ref st, .int (nI N), .int (nI B), .ref rp, .int vrs, .int vrb, .int vhs, .int vca, .int vxs, .int vxb, .ref tp, .int (nI T), .int vfa, .int vbr, .int vba, .int vsp, .int vhe, .int vtk, .int vva, .ref cu, .ref lt, .ref od, .ref th, .ref be, .ref ln, .int (nI S), .ref ma, .int (nI M), .ref ah, .ref bh, .ref ik, .ref la, .ref lg, .ref ce, .int vto])), (st, .inl (G 0, 196, .inl fst))]) [0, 1] rfl
            refine va_calli (va_runV (As := [.int (nI j7), .int 0]) (rest := [.int (((((y12 * 1103515245) + 12345) >>> ((16 : Int32) &&& 31)) &&& 32767) - ((((y12 * 1103515245) + 12345) >>> ((16 : Int32) &&& 31)) &&& 32767) / 20 * 20)]) ⟨hx, hb, hml, hown, hg⟩ (c_X11_orderedHarmE l dC dI G _ h0 j7 st N B rp tp T cu lt od th be ln S ma M ah bh ik la lg ce 0 vrs vrb vhs vca vxs vxb vfa vbr vba vsp vhe vtk vva vto fst hN hB_ hT_ hS0 hM_ (by first | omega | (have t_b4 := b4; have t_w6b := w6b; have t_hj15 := hj15; have t_hinv := hinv.2; have t_n20 := n20; have t_n25 := n25; have tnb_ := nib7 tn2320_ tn2321_ tn2322_ tn2323_ tn2324_ tn2329_ tn2331_; omega)) hst) (kwV hg mfX11_orderedHarm wt_1123 ⟨Nat.le_of_ble_eq_true rfl, Nat.le_of_ble_eq_true rfl⟩) (preVR hK hPc (ci := 11) (r := (RX11, TX11, 35)) rfl rfl) rfl rfl hl.1 rfl (lv_room (Nat.le_of_ble_eq_true rfl)) dX11_carry_70 ⟨Nat.le_of_ble_eq_true rfl, Nat.le_of_ble_eq_true rfl⟩) hS (fun q h1 h2 => absurd h2 (Nat.not_le.mpr h1)) (fun q h => hA q (Nat.le_trans hS.1 h)) (fun r26 ur26 t H1 locs ht hvm w27 hB hz1 hk1 hS => ?_)
            have hP := keepR hP hk1
            obtain ⟨w27, w27x⟩ := w27
            subst w27
            refine lv_icmp_ge (tgt := 80) hx hb dX11_carry_73 rfl (fun c28 => ?_) (fun c28 => ?_)
            · skip
              refine lv_iconst (v := 0) hx hb dX11_carry_80 rfl ?_
              refine lv_istore (lv' := [(8, .int 0), (3, .int ((y12 * 1103515245) + 12345)), (7, .int (nI j7)), (6, .int y8), (5, .int y9), (4, .int (nI k11)), (0, .ref h0), (1, .int sd), (2, .int what)]) hx hb dX11_carry_81 hl (by decide) rfl (fun ls hl => ?_)
              refine lv_iload hx hb dX11_carry_83 (lv_at hl 0 rfl) ?_
              refine lv_if_eq (tgt := 95) hx hb dX11_carry_85 rfl (fun c29 => ?_) (fun c29 => ?_)
              · skip
                refine lv_iload hx hb dX11_carry_95 (lv_at hl 5 rfl) ?_
                refine lv_iconst (v := 1) hx hb dX11_carry_97 rfl ?_
                have hPc := hP.sub (ws' := []) [] rfl
                refine va_calli (va_runS (As := [.int (nI k11), .int 1]) (rest := []) ⟨hx, hb, hml, hown, hg⟩ (c_X11_deeper l dC dI G _ k11 1 (by first | omega | (have t_b4 := b4; have t_w6b := w6b; have t_hj15 := hj15; have t_hinv := hinv.2; have t_n20 := n20; have t_n25 := n25; have t_c28 := leI c28; have t_c29 := eqI c29; have : (0 : Int32).toInt = 0 := qI_0; have tnb_ := nib7 tn2320_ tn2321_ tn2322_ tn2323_ tn2324_ tn2329_ tn2331_; have : (1 : Int32).toInt = 1 := qI_1; omega)) (by first | omega | (have t_b4 := b4; have t_w6b := w6b; have t_hj15 := hj15; have t_hinv := hinv.2; have t_n20 := n20; have t_n25 := n25; have t_c28 := leI c28; have t_c29 := eqI c29; have : (0 : Int32).toInt = 0 := qI_0; have tnb_ := nib7 tn2320_ tn2321_ tn2322_ tn2323_ tn2324_ tn2329_ tn2331_; have : (1 : Int32).toInt = 1 := qI_1; omega))) (kwS hg mfX11_deeper wt_1128 ⟨Nat.le_of_ble_eq_true rfl, Nat.le_of_ble_eq_true rfl⟩) (preSR hK hPc) rfl rfl hl.1 rfl (lv_room (Nat.le_of_ble_eq_true rfl)) dX11_carry_98 ⟨Nat.le_of_ble_eq_true rfl, Nat.le_of_ble_eq_true rfl⟩) hS (fun q h1 h2 => absurd h2 (Nat.not_le.mpr h1)) (fun q h => hA q (Nat.le_trans hS.1 h)) (fun r30 ur30 t H1 locs ht hvm w31 hB hz1 hk1 hS => ?_)
                have hP := keepR hP hk1
                obtain ⟨w31, w31x⟩ := w31
                have hs32 : k11 ≤ (min 9 (k11 + 1)) ∧ (min 9 (k11 + 1)) ≤ 9 := (by omega)
                subst w31
                refine lv_istore (lv' := [(4, .int (nI (min 9 (k11 + 1)))), (8, .int 0), (3, .int ((y12 * 1103515245) + 12345)), (7, .int (nI j7)), (6, .int y8), (5, .int y9), (0, .ref h0), (1, .int sd), (2, .int what)]) hx hb dX11_carry_101 hl (by decide) rfl (fun ls hl => ?_)
                refine lv_iload hx hb dX11_carry_103 (lv_at hl 5 rfl) ?_
                refine lv_iload hx hb dX11_carry_105 (lv_at hl 1 rfl) ?_
                refine lv_if_eq (tgt := 114) hx hb dX11_carry_107 rfl (fun c33 => ?_) (fun c33 => ?_)
                · skip
                  refine lv_iconst (v := 0) hx hb dX11_carry_114 rfl ?_
                  refine lv_iadd hx hb dX11_carry_115 ?_
                  refine lv_istore (lv' := [(5, .int (y9 + 0)), (4, .int (nI (min 9 (k11 + 1)))), (8, .int 0), (3, .int ((y12 * 1103515245) + 12345)), (7, .int (nI j7)), (6, .int y8), (0, .ref h0), (1, .int sd), (2, .int what)]) hx hb dX11_carry_116 hl (by decide) rfl (fun ls hl => ?_)
                  refine lv_iload hx hb dX11_carry_118 (lv_at hl 1 rfl) ?_
                  refine lv_if_ne (tgt := 128) hx hb dX11_carry_120 rfl (fun c34 => ?_) (fun c34 => ?_)
                  · skip
                    have tn2332_ : nIT (min 9 (k11 + 1)) := fun _ => nI_toInt (by first | omega | (have t := neI c34; omega))
                    have n35 : (min 9 (k11 + 1)) ≠ 0 := by have t := neI c34; rw [show (nI (min 9 (k11 + 1))).toInt = ((min 9 (k11 + 1) : Nat) : Int) from tn2332_ ()] at t; have : (0 : Int32).toInt = 0 := qI_0; omega
                    refine lv_iload hx hb dX11_carry_128 (lv_at hl 5 rfl) ?_
                    refine lv_istore (lv' := [(6, .int y8), (5, .int (y9 + 0)), (4, .int (nI (min 9 (k11 + 1)))), (8, .int 0), (3, .int ((y12 * 1103515245) + 12345)), (7, .int (nI j7)), (0, .ref h0), (1, .int sd), (2, .int what)]) hx hb dX11_carry_130 hl (by decide) rfl (fun ls hl => ?_)
                    refine lv_iinc (v := nI (j7 + 1)) (lv' := [(7, .int (nI (j7 + 1))), (6, .int y8), (5, .int (y9 + 0)), (4, .int (nI (min 9 (k11 + 1)))), (8, .int 0), (3, .int ((y12 * 1103515245) + 12345)), (0, .ref h0), (1, .int sd), (2, .int what)]) hx hb dX11_carry_132 hl (k := 5) rfl (by rw [show Int32.ofInt 1 = nI 1 from by decide]; exact nI_add _ _) (by decide) rfl (fun ls hl => ?_)
                    refine lv_goto (tgt := 32) hx hb dX11_carry_135 rfl ?_
                    exact ih32_13 (j7 + 1) (by omega) (by omega) y8 (y9 + 0) (min 9 (k11 + 1)) ((y12 * 1103515245) + 12345) _ _ ⟨cr_riseZ (H := (fun jb => rhO fst jb 0)) hinv.1 (by have t_b4 := b4; have t_w6b := w6b; have t_hj15 := hj15; have t_hinv := hinv.2; have t_n20 := n20; have t_n25 := n25; have t_c28 := leI c28; have t_c29 := eqI c29; have t_hs32 := hs32; have t_c33 := eqI c33; have t_n35 := n35; have : (0 : Int32).toInt = 0 := qI_0; have tnb_ := nib7 tn2320_ tn2321_ tn2322_ tn2323_ tn2324_ tn2329_ tn2331_; have tqz_ := qz41_; omega) (by exact Int.not_lt.mpr (leI c28)), (by omega)⟩ hP hS ls (lv_sub hl [0, 1, 2, 3, 5, 6, 7, 8] rfl)
                  · skip
                    have t_b4 := b4
                    have t_w6b := w6b
                    have t_hj15 := hj15
                    have t_hinv := hinv.2
                    have t_n20 := n20
                    have t_n25 := n25
                    have t_c28 := leI c28
                    have t_c29 := eqI c29
                    have t_hs32 := hs32
                    have t_c33 := eqI c33
                    have t_c34 := eqI c34
                    have : (0 : Int32).toInt = 0 := qI_0
                    have t_n0 : (nI N).toInt = (N : Int) := tn2320_ ()
                    have t_n1 : (nI B).toInt = (B : Int) := tn2321_ ()
                    have t_n2 : (nI T).toInt = (T : Int) := tn2322_ ()
                    have t_n3 : (nI S).toInt = (S : Int) := tn2323_ ()
                    have t_n4 : (nI M).toInt = (M : Int) := tn2324_ ()
                    have t_n5 : (nI j7).toInt = (j7 : Int) := tn2329_ ()
                    have t_n6 : (nI k11).toInt = (k11 : Int) := tn2331_ ()
                    have : (nI (min 9 (k11 + 1))).toInt = (((min 9 (k11 + 1)) : Nat) : Int) := nI_toInt (by omega)
                    exfalso; omega
                · skip
                  exact absurd c33 (by decide)
              · skip
                exact absurd c29 (by decide)
            · skip
              refine lv_iconst (v := 1) hx hb dX11_carry_76 rfl ?_
              refine lv_goto (tgt := 81) hx hb dX11_carry_77 rfl ?_
              refine lv_istore (lv' := [(8, .int 1), (3, .int ((y12 * 1103515245) + 12345)), (7, .int (nI j7)), (6, .int y8), (5, .int y9), (4, .int (nI k11)), (0, .ref h0), (1, .int sd), (2, .int what)]) hx hb dX11_carry_81 hl (by decide) rfl (fun ls hl => ?_)
              refine lv_iload hx hb dX11_carry_83 (lv_at hl 0 rfl) ?_
              refine lv_if_eq (tgt := 95) hx hb dX11_carry_85 rfl (fun c36 => ?_) (fun c36 => ?_)
              · skip
                exact absurd c36 (by decide)
              · skip
                refine lv_iload hx hb dX11_carry_88 (lv_at hl 5 rfl) ?_
                refine lv_iconst (v := 1) hx hb dX11_carry_90 rfl ?_
                refine lv_isub hx hb dX11_carry_91 ?_
                refine lv_cg (y := nI (k11 - 1)) (by rw [show (1 : Int32) = nI 1 from rfl]; exact pk_sub (by have t_b4 := b4; have t_w6b := w6b; have t_hj15 := hj15; have t_hinv := hinv.2; have t_n20 := n20; have t_n25 := n25; have t_c28 := nleI c28; have t_c36 := neI c36; have tqz_ := qz2_; have tnb_ := nib7 tn2320_ tn2321_ tn2322_ tn2323_ tn2324_ tn2329_ tn2331_; omega)) ?_
                refine lv_goto (tgt := 101) hx hb dX11_carry_92 rfl ?_
                refine lv_istore (lv' := [(4, .int (nI (k11 - 1))), (8, .int 1), (3, .int ((y12 * 1103515245) + 12345)), (7, .int (nI j7)), (6, .int y8), (5, .int y9), (0, .ref h0), (1, .int sd), (2, .int what)]) hx hb dX11_carry_101 hl (by decide) rfl (fun ls hl => ?_)
                refine lv_iload hx hb dX11_carry_103 (lv_at hl 5 rfl) ?_
                refine lv_iload hx hb dX11_carry_105 (lv_at hl 1 rfl) ?_
                refine lv_if_eq (tgt := 114) hx hb dX11_carry_107 rfl (fun c37 => ?_) (fun c37 => ?_)
                · skip
                  exact absurd c37 (by decide)
                · skip
                  refine lv_iconst (v := 1) hx hb dX11_carry_110 rfl ?_
                  refine lv_goto (tgt := 115) hx hb dX11_carry_111 rfl ?_
                  refine lv_iadd hx hb dX11_carry_115 ?_
                  refine lv_istore (lv' := [(5, .int (y9 + 1)), (4, .int (nI (k11 - 1))), (8, .int 1), (3, .int ((y12 * 1103515245) + 12345)), (7, .int (nI j7)), (6, .int y8), (0, .ref h0), (1, .int sd), (2, .int what)]) hx hb dX11_carry_116 hl (by decide) rfl (fun ls hl => ?_)
                  refine lv_iload hx hb dX11_carry_118 (lv_at hl 1 rfl) ?_
                  refine lv_if_ne (tgt := 128) hx hb dX11_carry_120 rfl (fun c38 => ?_) (fun c38 => ?_)
                  · skip
                    have tn2333_ : nIT (k11 - 1) := fun _ => nI_toInt (by first | omega | (have t := neI c38; omega))
                    have n39 : (k11 - 1) ≠ 0 := by have t := neI c38; rw [show (nI (k11 - 1)).toInt = ((k11 - 1 : Nat) : Int) from tn2333_ ()] at t; have : (0 : Int32).toInt = 0 := qI_0; omega
                    refine lv_iload hx hb dX11_carry_128 (lv_at hl 5 rfl) ?_
                    refine lv_istore (lv' := [(6, .int y8), (5, .int (y9 + 1)), (4, .int (nI (k11 - 1))), (8, .int 1), (3, .int ((y12 * 1103515245) + 12345)), (7, .int (nI j7)), (0, .ref h0), (1, .int sd), (2, .int what)]) hx hb dX11_carry_130 hl (by decide) rfl (fun ls hl => ?_)
                    refine lv_iinc (v := nI (j7 + 1)) (lv' := [(7, .int (nI (j7 + 1))), (6, .int y8), (5, .int (y9 + 1)), (4, .int (nI (k11 - 1))), (8, .int 1), (3, .int ((y12 * 1103515245) + 12345)), (0, .ref h0), (1, .int sd), (2, .int what)]) hx hb dX11_carry_132 hl (k := 5) rfl (by rw [show Int32.ofInt 1 = nI 1 from by decide]; exact nI_add _ _) (by decide) rfl (fun ls hl => ?_)
                    refine lv_goto (tgt := 32) hx hb dX11_carry_135 rfl ?_
                    exact ih32_13 (j7 + 1) (by omega) (by omega) y8 (y9 + 1) (k11 - 1) ((y12 * 1103515245) + 12345) _ _ ⟨cr_fall (H := (fun jb => rhO fst jb 0)) hinv.1 (by have t_b4 := b4; have t_w6b := w6b; have t_hj15 := hj15; have t_hinv := hinv.2; have t_n20 := n20; have t_n25 := n25; have t_c28 := nleI c28; have t_c36 := neI c36; have t_c37 := neI c37; have t_n39 := n39; have tqz_ := qz2_; have tnb_ := nib7 tn2320_ tn2321_ tn2322_ tn2323_ tn2324_ tn2329_ tn2331_; have tqz_ := qz41_; omega) (by exact Int.not_le.mp (nleI c28)) _ (by have t_b4 := b4; have t_w6b := w6b; have t_hj15 := hj15; have t_hinv := hinv.2; have t_n20 := n20; have t_n25 := n25; have t_c28 := nleI c28; have t_c36 := neI c36; have t_c37 := neI c37; have t_n39 := n39; have tqz_ := qz2_; have tnb_ := nib7 tn2320_ tn2321_ tn2322_ tn2323_ tn2324_ tn2329_ tn2331_; have tqz_ := qz41_; first | (rw [if_pos (by omega)]; done) | (rw [if_neg (by omega)]; done)), (by omega)⟩ hP hS ls (lv_sub hl [0, 1, 2, 3, 5, 6, 7, 8] rfl)
                  · skip
                    have tn2334_ : nIT (k11 - 1) := fun _ => nI_toInt (by first | omega | (have t := eqI c38; omega))
                    have n40 : (k11 - 1) = 0 := by have t := eqI c38; rw [show (nI (k11 - 1)).toInt = ((k11 - 1 : Nat) : Int) from tn2334_ ()] at t; have : (0 : Int32).toInt = 0 := qI_0; omega
                    refine lv_iload hx hb dX11_carry_123 (lv_at hl 4 rfl) ?_
                    refine lv_goto (tgt := 130) hx hb dX11_carry_125 rfl ?_
                    refine lv_istore (lv' := [(6, .int (nI j7)), (5, .int (y9 + 1)), (4, .int (nI (k11 - 1))), (8, .int 1), (3, .int ((y12 * 1103515245) + 12345)), (7, .int (nI j7)), (0, .ref h0), (1, .int sd), (2, .int what)]) hx hb dX11_carry_130 hl (by decide) rfl (fun ls hl => ?_)
                    refine lv_iinc (v := nI (j7 + 1)) (lv' := [(7, .int (nI (j7 + 1))), (6, .int (nI j7)), (5, .int (y9 + 1)), (4, .int (nI (k11 - 1))), (8, .int 1), (3, .int ((y12 * 1103515245) + 12345)), (0, .ref h0), (1, .int sd), (2, .int what)]) hx hb dX11_carry_132 hl (k := 5) rfl (by rw [show Int32.ofInt 1 = nI 1 from by decide]; exact nI_add _ _) (by decide) rfl (fun ls hl => ?_)
                    refine lv_goto (tgt := 32) hx hb dX11_carry_135 rfl ?_
                    exact ih32_13 (j7 + 1) (by omega) (by omega) (nI j7) (y9 + 1) (k11 - 1) ((y12 * 1103515245) + 12345) _ _ ⟨cr_fall (H := (fun jb => rhO fst jb 0)) hinv.1 (by have t_b4 := b4; have t_w6b := w6b; have t_hj15 := hj15; have t_hinv := hinv.2; have t_n20 := n20; have t_n25 := n25; have t_c28 := nleI c28; have t_c36 := neI c36; have t_c37 := neI c37; have t_n40 := n40; have tqz_ := qz2_; have tnb_ := nib7 tn2320_ tn2321_ tn2322_ tn2323_ tn2324_ tn2329_ tn2331_; have tqz_ := qz41_; omega) (by exact Int.not_le.mp (nleI c28)) _ (by have t_b4 := b4; have t_w6b := w6b; have t_hj15 := hj15; have t_hinv := hinv.2; have t_n20 := n20; have t_n25 := n25; have t_c28 := nleI c28; have t_c36 := neI c36; have t_c37 := neI c37; have t_n40 := n40; have tqz_ := qz2_; have tnb_ := nib7 tn2320_ tn2321_ tn2322_ tn2323_ tn2324_ tn2329_ tn2331_; have tqz_ := qz41_; first | (rw [if_pos (by omega)]; done) | (rw [if_neg (by omega)]; done)), (by omega)⟩ hP hS ls (lv_sub hl [0, 1, 2, 3, 5, 6, 7, 8] rfl)
    exact loop32_13 (N + 1) 0 (by omega) (by omega) (-4) 0 (sdN fst) sd _ _ ⟨rfl, (by omega)⟩ hP hS ls (lv_sub hl [0, 1, 2, 3, 4, 5, 6, 7] rfl)
  · skip
    have b41 := if10_n c3
    refine lv_iconst (v := (-1)) hx hb dX11_carry_12 rfl ?_
    have hpost : ((-1) : Int32) = if (0 ≤ what.toInt ∧ what.toInt ≤ 2) then crA what (crR (fun jb => rhO fst jb 0) sd (sdN fst) N) else -1 := by
      have t_b41 := b41
      have t_n0 : (nI N).toInt = (N : Int) := tn2320_ ()
      have t_n1 : (nI B).toInt = (B : Int) := tn2321_ ()
      have t_n2 : (nI T).toInt = (T : Int) := tn2322_ ()
      have t_n3 : (nI S).toInt = (S : Int) := tn2323_ ()
      have t_n4 : (nI M).toInt = (M : Int) := tn2324_ ()
      have z0 : (0 : Int32).toInt = 0 := qI_0
      have z1 : (1 : Int32).toInt = 1 := qI_1
      have z2 : (2 : Int32).toInt = 2 := qI_2
      have z3 : (3 : Int32).toInt = 3 := qI_3
      have z5 : (5 : Int32).toInt = 5 := qI_5
      have z9 : (9 : Int32).toInt = 9 := qI_9
      rw [if_neg (by omega)]
    refine W.widen (k := 0) (n := 0) (Nat.le_of_ble_eq_true rfl) (Nat.le_of_ble_eq_true rfl) ?_
    exact W.iret (v := (-1)) hx hb hr (fun t ht hW => ⟨⟨(-1), (), rfl, ⟨hpost, trivial⟩, trivial⟩, hS.F ht⟩) hS.2.2 dX11_carry_13

def NNg (a : Nat → Int64) : Prop := ∀ q : Nat, q < 10 → 0 ≤ (a q).toInt
theorem NNg.up {g : Nat → Int64} {k : Nat} {v : Int64} (h : NNg g) (hv : 0 ≤ v.toInt) : NNg (vp_updL g k v) := by
  intro q hq
  by_cases c : q = k
  · rw [c, upL_eq]; exact hv
  · rw [upL_ne c]; exact h q hq
-- the least of several
def mnF (v : Nat → Int64) : Nat → Int64 × Nat
  | 0 => (v 0, 0)
  | n + 1 => if (v (n + 1)).toInt < (mnF v n).1.toInt then (v (n + 1), n + 1) else mnF v n
theorem mnF_lt {v : Nat → Int64} {j k : Nat} {x : Int64} (hj : 1 ≤ j) (h : (x, k) = mnF v (j - 1)) (c : (v j).toInt < x.toInt) : (v j, j) = mnF v (j + 1 - 1) := by
  obtain ⟨n, rfl⟩ : ∃ n : Nat, j = n + 1 := ⟨j - 1, by omega⟩
  have h : (x, k) = mnF v n := h
  show _ = (if (v (n + 1)).toInt < (mnF v n).1.toInt then (v (n + 1), n + 1) else mnF v n)
  rw [← h, if_pos c]
theorem mnF_ge {v : Nat → Int64} {j k : Nat} {x : Int64} (hj : 1 ≤ j) (h : (x, k) = mnF v (j - 1)) (c : ¬ (v j).toInt < x.toInt) : (x, k) = mnF v (j + 1 - 1) := by
  obtain ⟨n, rfl⟩ : ∃ n : Nat, j = n + 1 := ⟨j - 1, by omega⟩
  have h : (x, k) = mnF v n := h
  show _ = (if (v (n + 1)).toInt < (mnF v n).1.toInt then (v (n + 1), n + 1) else mnF v n)
  rw [← h, if_neg c]
def mnI (v : Nat → Int64) (j : Nat) (x : Int64) (k : Nat) : Prop := (j = 0 ∧ x = 4000000000000000000 ∧ k = 0) ∨ (1 ≤ j ∧ (x, k) = mnF v (j - 1))
theorem mnI.lt {v : Nat → Int64} {j k : Nat} {x : Int64} (h : mnI v j x k) (c : (v j).toInt < x.toInt) : mnI v (j + 1) (v j) j := by
  rcases h with ⟨a, b, d⟩ | ⟨a, b⟩
  · subst a; exact Or.inr ⟨by omega, rfl⟩
  · exact Or.inr ⟨by omega, mnF_lt a b c⟩
theorem mnI.ge {v : Nat → Int64} {j k : Nat} {x : Int64} (h : mnI v j x k) (hf : (v j).toInt < 4000000000000000000) (c : ¬ (v j).toInt < x.toInt) : mnI v (j + 1) x k := by
  rcases h with ⟨a, b, d⟩ | ⟨a, b⟩
  · have z : (4000000000000000000 : Int64).toInt = 4000000000000000000 := by decide
    rw [b, z] at c
    exact absurd hf c
  · exact Or.inr ⟨by omega, mnF_ge a b c⟩
theorem mnF_w {v : Nat → Int64} : ∀ n : Nat, (mnF v n).2 ≤ n := by
  intro n
  induction n with
  | zero => exact Nat.le_refl 0
  | succ n ih =>
    show (if (v (n + 1)).toInt < (mnF v n).1.toInt then (v (n + 1), n + 1) else mnF v n).2 ≤ n + 1
    split
    · exact Nat.le_refl _
    · omega
theorem mnW {v : Nat → Int64} {x : Int64} {k j : Nat} (h : (x, k) = mnF v (j - 1)) : k ≤ j := by
  have t := mnF_w (v := v) (j - 1)
  rw [← h] at t
  have t : k ≤ j - 1 := t
  omega
theorem mnI.w {v : Nat → Int64} {x : Int64} {k j : Nat} (h : mnI v j x k) : k ≤ j := by
  rcases h with ⟨_, _, d⟩ | ⟨_, b⟩
  · omega
  · exact mnW b

def nzS (x : Int32) (f : Nat → Int32) : Nat → Int32 := fun q => if ((x >>> (nI q &&& 31)) &&& 1) = 1 then 0 else f q
def quT (v : Nat → Int64) (bc : Nat → Int32) (m : Int32) (s : Nat) (p : Int64 × Nat) : Int64 × Nat := if (bc s).toInt ≤ m.toInt ∧ ((v s).toInt < p.1.toInt ∨ ((v s).toInt = p.1.toInt ∧ (bc s).toInt < (bc p.2).toInt)) then (v s, s) else p
def quF (v : Nat → Int64) (bc : Nat → Int32) (m : Int32) (x0 : Int64) : Nat → Int64 × Nat
  | 0 => (x0, 0)
  | n + 1 => quT v bc m (n + 1) (quF v bc m x0 n)
theorem qu_y {v : Nat → Int64} {bc : Nat → Int32} {m : Int32} {x0 x : Int64} {j k : Nat} (hj : 1 ≤ j) (h : (x, k) = quF v bc m x0 (j - 1)) (c1 : (bc j).toInt ≤ m.toInt) (c2 : (v j).toInt < x.toInt ∨ ((v j).toInt = x.toInt ∧ (bc j).toInt < (bc k).toInt)) : (v j, j) = quF v bc m x0 (j + 1 - 1) := by
  obtain ⟨n, rfl⟩ : ∃ n : Nat, j = n + 1 := ⟨j - 1, by omega⟩
  have h : (x, k) = quF v bc m x0 n := h
  show _ = quT v bc m (n + 1) (quF v bc m x0 n)
  rw [← h]
  unfold quT
  rw [if_pos ⟨c1, c2⟩]
theorem qu_n {v : Nat → Int64} {bc : Nat → Int32} {m : Int32} {x0 x : Int64} {j k : Nat} (hj : 1 ≤ j) (h : (x, k) = quF v bc m x0 (j - 1)) (c : ¬ ((bc j).toInt ≤ m.toInt ∧ ((v j).toInt < x.toInt ∨ ((v j).toInt = x.toInt ∧ (bc j).toInt < (bc k).toInt)))) : (x, k) = quF v bc m x0 (j + 1 - 1) := by
  obtain ⟨n, rfl⟩ : ∃ n : Nat, j = n + 1 := ⟨j - 1, by omega⟩
  have h : (x, k) = quF v bc m x0 n := h
  show _ = quT v bc m (n + 1) (quF v bc m x0 n)
  rw [← h]
  unfold quT
  rw [if_neg c]
def quI (v : Nat → Int64) (bc : Nat → Int32) (m : Int32) (j : Nat) (x : Int64) (k : Nat) : Prop := (j = 0 ∧ x = 4000000000000000000 ∧ k = 0) ∨ (1 ≤ j ∧ (x, k) = quF v bc m (v 0) (j - 1))
theorem quF_w {v : Nat → Int64} {bc : Nat → Int32} {m : Int32} {x0 : Int64} : ∀ n : Nat, (quF v bc m x0 n).2 ≤ n := by
  intro n
  induction n with
  | zero => exact Nat.le_refl 0
  | succ n ih =>
    show (quT v bc m (n + 1) (quF v bc m x0 n)).2 ≤ n + 1
    unfold quT
    split
    · exact Nat.le_refl _
    · omega
theorem quI.y {v : Nat → Int64} {bc : Nat → Int32} {m : Int32} {x : Int64} {j k : Nat} (h : quI v bc m j x k) (c1 : (bc j).toInt ≤ m.toInt) (c2 : (v j).toInt < x.toInt ∨ ((v j).toInt = x.toInt ∧ (bc j).toInt < (bc k).toInt)) : quI v bc m (j + 1) (v j) j := by
  rcases h with ⟨a, b, d⟩ | ⟨a, b⟩
  · subst a; exact Or.inr ⟨by omega, rfl⟩
  · exact Or.inr ⟨by omega, qu_y a b c1 c2⟩
theorem quI.n {v : Nat → Int64} {bc : Nat → Int32} {m : Int32} {x : Int64} {j k : Nat} (h : quI v bc m j x k) (hf : (v j).toInt < 4000000000000000000) (h0 : (bc 0).toInt ≤ m.toInt) (c : ¬ ((bc j).toInt ≤ m.toInt ∧ ((v j).toInt < x.toInt ∨ ((v j).toInt = x.toInt ∧ (bc j).toInt < (bc k).toInt)))) : quI v bc m (j + 1) x k := by
  rcases h with ⟨a, b, d⟩ | ⟨a, b⟩
  · have z : (4000000000000000000 : Int64).toInt = 4000000000000000000 := by decide
    subst a
    rw [b, z] at c
    exact absurd ⟨h0, Or.inl hf⟩ c
  · exact Or.inr ⟨by omega, qu_n a b c⟩
theorem quW {v : Nat → Int64} {bc : Nat → Int32} {m : Int32} {x0 x : Int64} {j k : Nat} (h : (x, k) = quF v bc m x0 (j - 1)) : k ≤ j := by
  have t := quF_w (v := v) (bc := bc) (m := m) (x0 := x0) (j - 1)
  rw [← h] at t
  have t : k ≤ j - 1 := t
  omega
theorem quI.w {v : Nat → Int64} {bc : Nat → Int32} {m : Int32} {x : Int64} {j k : Nat} (h : quI v bc m j x k) : k ≤ j := by
  rcases h with ⟨_, _, d⟩ | ⟨_, b⟩
  · omega
  · exact quW b

-- ways that lead into a depth
def inT (f r : Bool) (d : Nat) (x : Int32) (g : Nat → Int32) : Nat → Int32 := if f = true then (if r = true then upd (upd g (d - 1) (g (d - 1) + x)) (min 9 (d + 1)) (upd g (d - 1) (g (d - 1) + x) (min 9 (d + 1)) + x) else upd g (d - 1) (g (d - 1) + x)) else (if r = true then upd g (min 9 (d + 1)) (g (min 9 (d + 1)) + x) else g)
def inR (f r : Bool) (a : Nat → Int32) : Nat → Nat → Int32
  | 0 => fun q => if q = 0 then a 0 else 0
  | d + 1 => inT f r (d + 1) (a (d + 1)) (inR f r a d)
theorem up_cg {g g' : Nat → Int32} {k : Nat} {x : Int32} (hk : k < 10) (e : ∀ q : Nat, q < 10 → g q = g' q) : ∀ q : Nat, q < 10 → upd g k (g k + x) q = upd g' k (g' k + x) q := by
  intro q hq
  show (if q = k then g k + x else g q) = (if q = k then g' k + x else g' q)
  rw [e k hk, e q hq]
theorem inT_cg {f r : Bool} {d : Nat} {x : Int32} {g g' : Nat → Int32} (hd : d ≤ 9) (e : ∀ q : Nat, q < 10 → g q = g' q) : ∀ q : Nat, q < 10 → inT f r d x g q = inT f r d x g' q := by
  intro q hq
  unfold inT
  cases f with
  | true =>
    cases r with
    | true => exact up_cg (by omega) (up_cg (by omega) e) q hq
    | false => exact up_cg (by omega) e q hq
  | false =>
    cases r with
    | true => exact up_cg (by omega) e q hq
    | false => exact e q hq
theorem in_step {f r : Bool} {g a : Nat → Int32} {j : Nat} {g' : Nat → Int32} (hj : 1 ≤ j) (h1 : j < 10) (hg : ∀ q : Nat, q < 10 → g q = inR f r a (j - 1) q) (e : g' = inT f r j (a j) g) : ∀ q : Nat, q < 10 → g' q = inR f r a (j + 1 - 1) q := by
  intro q hq
  obtain ⟨d, rfl⟩ : ∃ d : Nat, j = d + 1 := ⟨j - 1, by omega⟩
  rw [e]
  exact inT_cg (by omega) hg q hq
theorem in_zero {f r : Bool} {g a : Nat → Int32} (hz : ∀ q : Nat, q < 10 → g q = 0) : ∀ q : Nat, q < 10 → upd g 0 (a 0) q = inR f r a (1 - 1) q := by
  intro q hq
  show (if q = 0 then a 0 else g q) = (if q = 0 then a 0 else 0)
  rw [hz q hq]
def inS (H : Nat → Int32) (AL : Nat → Nat → Bool) (D : Nat) : Nat → Nat → Int32
  | 0 => fun q => if q = D then 1 else 0
  | i + 1 => fun q => if AL i q = true then inR (decide (0 < (H i).toInt)) (decide ((H i).toInt < 20)) (inS H AL D i) 9 q else 0
-- ways that lead on
def onT (f r : Bool) (P : Nat → Int32) : Nat → Int32 := fun q => if q = 0 then P 0 else (if f = true then P (q - 1) else 0) + (if r = true then P (min 9 (q + 1)) else 0)
def onD (AL : Nat → Bool) (P : Nat → Int32) : Nat → Int32 := fun q => if AL q = true then P q else 0
/-- the row of what leads on from stretch N - n -/
def onS (H : Nat → Int32) (AL : Nat → Nat → Bool) (N : Nat) : Nat → Nat → Int32
  | 0 => fun _ => 1
  | n + 1 => onT (decide (0 < (H (N - (n + 1))).toInt)) (decide ((H (N - (n + 1))).toInt < 20)) (onD (AL (N - (n + 1))) (onS H AL N n))
theorem onT_cg {f r : Bool} {P P' : Nat → Int32} (e : ∀ q : Nat, q < 10 → P q = P' q) : ∀ q : Nat, q < 10 → onT f r P q = onT f r P' q := by
  intro q hq
  unfold onT
  rw [e 0 (by decide), e (q - 1) (by omega), e (min 9 (q + 1)) (by omega)]
theorem onD_cg {AL AL' : Nat → Bool} {P P' : Nat → Int32} (ea : ∀ q : Nat, q < 10 → AL q = AL' q) (e : ∀ q : Nat, q < 10 → P q = P' q) : ∀ q : Nat, q < 10 → onD AL P q = onD AL' P' q := by
  intro q hq
  unfold onD
  rw [ea q hq, e q hq]
theorem vu_y {α : Type} {F : Nat → α} {k : Nat} {v : α} : va_up F k v k = v := if_pos rfl
theorem vu_n {α : Type} {F : Nat → α} {k m : Nat} {v : α} (h : ¬ m = k) : va_up F k v m = F m := if_neg h
def DUm (AL : Nat → Bool) (k j : Nat) (G F : Nat → Nat → Int32) : Prop := (∀ q : Nat, q < j → G k q = onD AL (F k) q) ∧ (∀ q : Nat, j ≤ q → G k q = F k q) ∧ (∀ m : Nat, ¬ m = k → G m = F m)
theorem DUm.z {AL : Nat → Bool} {k : Nat} {F : Nat → Nat → Int32} : DUm AL k 0 F F := ⟨fun q h => absurd h (Nat.not_lt_zero q), fun _ _ => rfl, fun _ _ => rfl⟩
def LI0 (i j : Nat) (G F : Nat → Nat → Int32) : Prop := (∀ q : Nat, q < j → G (i + 1) q = 0) ∧ (∀ m : Nat, ¬ m = i + 1 → G m = F m)
theorem LI0.z {i : Nat} {F : Nat → Nat → Int32} : LI0 i 0 F F := ⟨fun q h => absurd h (Nat.not_lt_zero q), fun _ _ => rfl⟩
theorem LI0.s {i j : Nat} {G F : Nat → Nat → Int32} (h : LI0 i j G F) : LI0 i (j + 1) (va_up G (i + 1) (upd (G (i + 1)) j 0)) F := by
  refine ⟨fun q hq => ?_, fun m hm => by rw [vu_n hm]; exact h.2 m hm⟩
  rw [vu_y]
  show (if q = j then 0 else G (i + 1) q) = 0
  by_cases c : q = j
  · rw [if_pos c]
  · rw [if_neg c]; exact h.1 q (by omega)
def LI1 (f r : Bool) (i j : Nat) (G F : Nat → Nat → Int32) : Prop := (∀ q : Nat, q < 10 → G (i + 1) q = inR f r (F i) (j - 1) q) ∧ (∀ m : Nat, ¬ m = i + 1 → G m = F m)
theorem LI1.z {f r : Bool} {i : Nat} {G F : Nat → Nat → Int32} (h : LI0 i 10 G F) : LI1 f r i 1 (va_up G (i + 1) (upd (G (i + 1)) 0 (G i 0))) F := by
  refine ⟨fun q hq => ?_, fun m hm => by rw [vu_n hm]; exact h.2 m hm⟩
  rw [vu_y, h.2 i (by omega)]
  exact in_zero h.1 q hq
theorem LI1.s {f r : Bool} {i j : Nat} {G G' F : Nat → Nat → Int32} (h : LI1 f r i j G F) (hj : 1 ≤ j) (h1 : j < 10) (e1 : G' (i + 1) = inT f r j (G i j) (G (i + 1))) (e2 : ∀ m : Nat, ¬ m = i + 1 → G' m = G m) : LI1 f r i (j + 1) G' F := by
  refine ⟨?_, fun m hm => (e2 m hm).trans (h.2 m hm)⟩
  rw [h.2 i (by omega)] at e1
  exact in_step hj h1 h.1 e1
def LO (f r : Bool) (i j : Nat) (G E : Nat → Nat → Int32) : Prop := (∀ q : Nat, q < j → G i q = onT f r (E (i + 1)) q) ∧ (∀ m : Nat, ¬ m = i → G m = E m)
theorem LO.z {f r : Bool} {i : Nat} {E : Nat → Nat → Int32} : LO f r i 1 (va_up E i (upd (E i) 0 (E (i + 1) 0))) E := by
  refine ⟨fun q hq => ?_, fun m hm => by rw [vu_n hm]⟩
  rw [vu_y, show q = 0 by omega]
  rfl
theorem LO.s {f r : Bool} {i j : Nat} {G E : Nat → Nat → Int32} {x : Int32} (h : LO f r i j G E) (hx : x = onT f r (G (i + 1)) j) : LO f r i (j + 1) (va_up G i (upd (G i) j x)) E := by
  refine ⟨fun q hq => ?_, fun m hm => by rw [vu_n hm]; exact h.2 m hm⟩
  rw [vu_y]
  show (if q = j then x else G i q) = _
  by_cases c : q = j
  · rw [if_pos c, hx, c, h.2 (i + 1) (by omega)]
  · rw [if_neg c]; exact h.1 q (by omega)

def fl10 (i : Nat) (g : Nat → Int32) : Nat → Int32 := fun q => g (10 * i + 10 + q)
def rpF (AL : Nat → Bool) (f r : Bool) (a : Nat → Int32) : Nat → Nat → Int32
  | 0 => fun _ => 0
  | d + 1 => onD AL (inR f r a d)
def AHO (H : Nat → Int32) (AL : Nat → Nat → Bool) (D i : Nat) (g : Nat → Int32) : Prop := (∀ m : Nat, m ≤ i → ∀ q : Nat, q < 10 → g (10 * m + q) = inS H AL D m q) ∧ (∀ k : Nat, 10 * i + 10 ≤ k → k < 110 → g k = 0)
def AHI (H : Nat → Int32) (AL : Nat → Nat → Bool) (D i d : Nat) (g : Nat → Int32) : Prop := (∀ m : Nat, m ≤ i → ∀ q : Nat, q < 10 → g (10 * m + q) = inS H AL D m q) ∧ (∀ q : Nat, q < 10 → fl10 i g q = rpF (AL i) (decide (0 < (H i).toInt)) (decide ((H i).toInt < 20)) (inS H AL D i) d q) ∧ (∀ k : Nat, 10 * i + 20 ≤ k → k < 110 → g k = 0)
theorem AHI.z {H : Nat → Int32} {AL : Nat → Nat → Bool} {D i : Nat} {g : Nat → Int32} (hi : i < 10) (h : AHO H AL D i g) : AHI H AL D i 0 g := ⟨h.1, fun q hq => h.2 _ (by omega) (by omega), fun k h1 h2 => h.2 k (by omega) h2⟩
theorem AHI.o {H : Nat → Int32} {AL : Nat → Nat → Bool} {D i : Nat} {g : Nat → Int32} (h : AHI H AL D i 10 g) : AHO H AL D (i + 1) g := by
  refine ⟨fun m hm q hq => ?_, fun k h1 h2 => h.2.2 k (by omega) h2⟩
  by_cases c : m = i + 1
  · rw [c, show 10 * (i + 1) + q = 10 * i + 10 + q by omega]
    exact h.2.1 q hq
  · exact h.1 m (by omega) q hq
theorem AHI.s {H : Nat → Int32} {AL : Nat → Nat → Bool} {D i d : Nat} {g g' : Nat → Int32} (h : AHI H AL D i d g) (hi : i < 10) (e1 : ∀ k : Nat, ¬ (10 * i + 10 ≤ k ∧ k < 10 * i + 20) → g' k = g k) (e2 : ∀ q : Nat, q < 10 → fl10 i g' q = rpF (AL i) (decide (0 < (H i).toInt)) (decide ((H i).toInt < 20)) (inS H AL D i) (d + 1) q) : AHI H AL D i (d + 1) g' :=
  ⟨fun m hm q hq => (e1 _ (by omega)).trans (h.1 m hm q hq), e2, fun k h1 h2 => (e1 k (by omega)).trans (h.2.2 k h1 h2)⟩
-- what leads on
def BHO (H : Nat → Int32) (AL : Nat → Nat → Bool) (N j : Nat) (g : Nat → Int32) : Prop := ∀ m : Nat, j ≤ m → m ≤ N → ∀ q : Nat, q < 10 → g (10 * m + q) = onS H AL N (N - m) q
def BHI (H : Nat → Int32) (AL : Nat → Nat → Bool) (N i d : Nat) (g : Nat → Int32) : Prop := BHO H AL N (i + 1) g ∧ (∀ q : Nat, q < d → g (10 * i + q) = onS H AL N (N - i) q)
theorem BHI.s {H : Nat → Int32} {AL : Nat → Nat → Bool} {N i d : Nat} {g : Nat → Int32} {x : Int32} (h : BHI H AL N i d g) (hi : i + 1 ≤ N) (hd : d < 10) (hx : x = onT (decide (0 < (H i).toInt)) (decide ((H i).toInt < 20)) (onD (AL i) (fl10 i g)) d) : BHI H AL N i (d + 1) (upd g (10 * i + d) x) := by
  refine ⟨fun m h1 h2 q hq => (if_neg (by omega)).trans (h.1 m h1 h2 q hq), fun q hq => ?_⟩
  show (if 10 * i + q = 10 * i + d then x else g (10 * i + q)) = _
  by_cases c : q = d
  · rw [if_pos (by omega), hx, c, show N - i = (N - (i + 1)) + 1 by omega]
    show _ = onT (decide (0 < (H (N - (N - (i + 1) + 1))).toInt)) (decide ((H (N - (N - (i + 1) + 1))).toInt < 20)) (onD (AL (N - (N - (i + 1) + 1))) (onS H AL N (N - (i + 1)))) d
    rw [show N - (N - (i + 1) + 1) = i by omega]
    refine onT_cg (onD_cg (fun _ _ => rfl) (fun q hq => ?_)) d hd
    show g (10 * i + 10 + q) = _
    rw [show 10 * i + 10 + q = 10 * (i + 1) + q by omega]
    exact h.1 (i + 1) (Nat.le_refl _) hi q hq
  · rw [if_neg (by omega)]; exact h.2 q (by omega)
theorem BHI.o {H : Nat → Int32} {AL : Nat → Nat → Bool} {N i : Nat} {g : Nat → Int32} (h : BHI H AL N i 10 g) : BHO H AL N i g := by
  intro m h1 h2 q hq
  by_cases c : m = i
  · rw [c]; exact h.2 q hq
  · exact h.1 m (by omega) h2 q hq
theorem AHO.z {H : Nat → Int32} {AL : Nat → Nat → Bool} {D : Nat} {g : Nat → Int32} (hD : D ≤ 9) (h : ∀ q : Nat, q < 110 → g q = if q = D then 1 else 0) : AHO H AL D 0 g := by
  refine ⟨fun m hm q hq => ?_, fun k h1 h2 => ?_⟩
  · rw [show m = 0 by omega, show 10 * 0 + q = q by omega, h q (by omega)]
    rfl
  · rw [h k h2, if_neg (by omega)]
theorem BHO.z {H : Nat → Int32} {AL : Nat → Nat → Bool} {N : Nat} {g : Nat → Int32} (hN : N ≤ 10) (h : ∀ q : Nat, q < 110 → g q = if q / 10 = N then 1 else 0) : BHO H AL N N g := by
  intro m h1 h2 q hq
  rw [show m = N by omega, h _ (by omega), if_pos (by omega), Nat.sub_self]
  rfl

-- THE BEST: pure parts (draft)
def mxF (h : Int32) (x y : Int64) : Int64 := x * h.toInt64 + y * (20 - h).toInt64
def bmF (v : Nat → Int64) (wo : Int32) (x0 : Int64) (c0 : Int32) : Nat → Int64 × Int32
  | 0 => (x0, c0)
  | b + 1 => if nI b = wo then bmF v wo x0 c0 b else if (v b).toInt < (bmF v wo x0 c0 b).1.toInt then (v b, nI b) else bmF v wo x0 c0 b
theorem bm_cg {v v' : Nat → Int64} {wo : Int32} {x0 : Int64} {c0 : Int32} : ∀ n : Nat, (∀ b : Nat, b < n → v b = v' b) → bmF v wo x0 c0 n = bmF v' wo x0 c0 n := by
  intro n
  induction n with
  | zero => intro _; rfl
  | succ n ih =>
    intro h
    show (if nI n = wo then bmF v wo x0 c0 n else if (v n).toInt < (bmF v wo x0 c0 n).1.toInt then (v n, nI n) else bmF v wo x0 c0 n) = (if nI n = wo then bmF v' wo x0 c0 n else if (v' n).toInt < (bmF v' wo x0 c0 n).1.toInt then (v' n, nI n) else bmF v' wo x0 c0 n)
    rw [h n (by omega), ih (fun b hb => h b (by omega))]
theorem bm_fst {v : Nat → Int64} {wo : Int32} {x : Int64} {c c' : Int32} : ∀ n : Nat, (bmF v wo x c n).1 = (bmF v wo x c' n).1 := by
  intro n
  induction n with
  | zero => rfl
  | succ n ih =>
    show (if nI n = wo then bmF v wo x c n else if (v n).toInt < (bmF v wo x c n).1.toInt then (v n, nI n) else bmF v wo x c n).1 = (if nI n = wo then bmF v wo x c' n else if (v n).toInt < (bmF v wo x c' n).1.toInt then (v n, nI n) else bmF v wo x c' n).1
    by_cases w : nI n = wo
    · rw [if_pos w, if_pos w]; exact ih
    · rw [if_neg w, if_neg w, ← ih]
      by_cases l : (v n).toInt < (bmF v wo x c n).1.toInt
      · rw [if_pos l, if_pos l]
      · rw [if_neg l, if_neg l]; exact ih
theorem sl_inj {g : Int32} {d e : Nat} (h : slotF g d = slotF g e) : d = e := by
  unfold slotF at h
  omega
def wgT (m : Int64) (k : Nat) (p : Int64 × Int32) : Int64 × Int32 := if m.toInt < p.1.toInt then (m, nI k) else p
def WG (i : Nat) (g : Int32) (mv : Nat → Int64) (k j : Nat) (G F : Nat → Nat → Int64) (Gc E : Nat → Nat → Int32) : Prop :=
  (∀ m : Nat, ¬ m = i → G m = F m ∧ Gc m = E m) ∧ (∀ d : Nat, 1 ≤ d → d < j → (G i (slotF g d), Gc i (slotF g d)) = wgT (mv d) k (F i (slotF g d), E i (slotF g d))) ∧ (∀ s : Nat, (∀ d : Nat, 1 ≤ d → d < j → ¬ s = slotF g d) → G i s = F i s ∧ Gc i s = E i s)
theorem WG.z {i : Nat} {g : Int32} {mv : Nat → Int64} {k : Nat} {F : Nat → Nat → Int64} {E : Nat → Nat → Int32} : WG i g mv k 1 F F E E := ⟨fun _ _ => ⟨rfl, rfl⟩, fun d h1 h2 => absurd h2 (by omega), fun _ _ => ⟨rfl, rfl⟩⟩
theorem WG.lt {i : Nat} {g : Int32} {mv : Nat → Int64} {k j : Nat} {G F : Nat → Nat → Int64} {Gc E : Nat → Nat → Int32} {x : Int64} (h : WG i g mv k j G F Gc E) (hj : 1 ≤ j) (hx : x = mv j) (c : x.toInt < (G i (slotF g j)).toInt) : WG i g mv k (j + 1) (va_up G i (vp_updL (G i) (slotF g j) x)) F (va_up Gc i (upd (Gc i) (slotF g j) (nI k))) E := by
  have hs := h.2.2 (slotF g j) (fun d h1 h2 e => by have := sl_inj e; omega)
  refine ⟨fun m hm => by rw [vu_n hm, vu_n hm]; exact h.1 m hm, fun d h1 h2 => ?_, fun s hq => ?_⟩
  · rw [vu_y, vu_y]
    by_cases e : d = j
    · rw [e, upL_eq]
      show (x, if slotF g j = slotF g j then nI k else _) = _
      rw [if_pos rfl]
      unfold wgT
      rw [if_pos (by rw [← hs.1, ← hx]; exact c), hx]
    · rw [upL_ne (fun z => e (sl_inj z))]
      show (_, if slotF g d = slotF g j then nI k else Gc i (slotF g d)) = _
      rw [if_neg (fun z => e (sl_inj z))]
      exact h.2.1 d h1 (by omega)
  · have n9 : ¬ s = slotF g j := hq j hj (by omega)
    rw [vu_y, vu_y, upL_ne n9]
    show _ ∧ (if s = slotF g j then nI k else Gc i s) = _
    rw [if_neg n9]
    exact h.2.2 s (fun d h1 h2 => hq d h1 (by omega))
theorem WG.ge {i : Nat} {g : Int32} {mv : Nat → Int64} {k j : Nat} {G F : Nat → Nat → Int64} {Gc E : Nat → Nat → Int32} {x : Int64} (h : WG i g mv k j G F Gc E) (hj : 1 ≤ j) (hx : x = mv j) (c : ¬ x.toInt < (G i (slotF g j)).toInt) : WG i g mv k (j + 1) G F Gc E := by
  have hs := h.2.2 (slotF g j) (fun d h1 h2 e => by have := sl_inj e; omega)
  refine ⟨h.1, fun d h1 h2 => ?_, fun s hq => h.2.2 s (fun d h1 h2 => hq d h1 (by omega))⟩
  by_cases e : d = j
  · rw [e, hs.1, hs.2]
    unfold wgT
    rw [if_neg (by rw [← hs.1, ← hx]; exact c)]
  · exact h.2.1 d h1 (by omega)
def MORE : Int64 := 1152921504606846976
def CI0 (i : Nat) (g : Int32) (w : Int64) (j : Nat) (G F : Nat → Nat → Int64) : Prop := (∀ m : Nat, ¬ m = i → G m = F m) ∧ G i (slotF g 0) = w ∧ (∀ d : Nat, 1 ≤ d → d < j → G i (slotF g d) = MORE) ∧ (∀ s : Nat, (∀ d : Nat, d < j → ¬ s = slotF g d) → G i s = F i s)
theorem CI0.z {i : Nat} {g : Int32} {w : Int64} {F : Nat → Nat → Int64} : CI0 i g w 1 (va_up F i (vp_updL (F i) (slotF g 0) w)) F :=
  ⟨fun m hm => vu_n hm, by rw [vu_y, upL_eq], fun d h1 h2 => absurd h2 (by omega), fun s hs => by rw [vu_y, upL_ne (hs 0 (by omega))]⟩
theorem CI0.s {i : Nat} {g : Int32} {w x : Int64} {j : Nat} {G F : Nat → Nat → Int64} (h : CI0 i g w j G F) (hj : 1 ≤ j) (hx : x = MORE) : CI0 i g w (j + 1) (va_up G i (vp_updL (G i) (slotF g j) x)) F := by
  refine ⟨fun m hm => (vu_n hm).trans (h.1 m hm), ?_, fun d h1 h2 => ?_, fun s hs => ?_⟩
  · rw [vu_y, upL_ne (fun e => by have := sl_inj e; omega)]; exact h.2.1
  · rw [vu_y]
    by_cases e : d = j
    · rw [e, upL_eq]; exact hx
    · rw [upL_ne (fun z => e (sl_inj z))]; exact h.2.2.1 d h1 (by omega)
  · rw [vu_y, upL_ne (hs j (by omega))]
    exact h.2.2.2 s (fun d hd => hs d (by omega))
def CF (i : Nat) (g : Int32) (w : Int64) (wo : Int32) (v : Nat → Nat → Int64) (b : Nat) (G F : Nat → Nat → Int64) (Gc E : Nat → Nat → Int32) : Prop := (∀ m : Nat, ¬ m = i → G m = F m ∧ Gc m = E m) ∧ G i (slotF g 0) = w ∧ (∀ d : Nat, 1 ≤ d → d < 10 → (G i (slotF g d), Gc i (slotF g d)) = bmF (v d) wo MORE (E i (slotF g d)) b) ∧ (∀ s : Nat, (∀ d : Nat, d < 10 → ¬ s = slotF g d) → G i s = F i s ∧ Gc i s = E i s)
theorem CF.z {i : Nat} {g : Int32} {w : Int64} {wo : Int32} {v : Nat → Nat → Int64} {G F : Nat → Nat → Int64} {E : Nat → Nat → Int32} (h : CI0 i g w 10 G F) : CF i g w wo v 0 G F E E :=
  ⟨fun m hm => ⟨h.1 m hm, rfl⟩, h.2.1, fun d h1 h2 => by rw [h.2.2.1 d h1 h2]; rfl, fun s hs => ⟨h.2.2.2 s hs, rfl⟩⟩
theorem CF.ex {i : Nat} {g : Int32} {w : Int64} {wo : Int32} {v : Nat → Nat → Int64} {b : Nat} {G F : Nat → Nat → Int64} {Gc E : Nat → Nat → Int32} (h : CF i g w wo v b G F Gc E) (e : nI b = wo) : CF i g w wo v (b + 1) G F Gc E := by
  refine ⟨h.1, h.2.1, fun d h1 h2 => ?_, h.2.2.2⟩
  show _ = (if nI b = wo then bmF (v d) wo MORE (E i (slotF g d)) b else if (v d b).toInt < (bmF (v d) wo MORE (E i (slotF g d)) b).1.toInt then (v d b, nI b) else bmF (v d) wo MORE (E i (slotF g d)) b)
  rw [if_pos e]
  exact h.2.2.1 d h1 h2
theorem CF.s {i : Nat} {g : Int32} {w : Int64} {wo : Int32} {v : Nat → Nat → Int64} {b : Nat} {G F G' : Nat → Nat → Int64} {Gc E Gc' : Nat → Nat → Int32} {mv : Nat → Int64} (h : CF i g w wo v b G F Gc E) (e : ¬ nI b = wo) (hw : WG i g mv b 10 G' G Gc' Gc) (hm : ∀ d : Nat, 1 ≤ d → d < 10 → mv d = v d b) : CF i g w wo v (b + 1) G' F Gc' E := by
  refine ⟨fun m hm => ⟨(hw.1 m hm).1.trans (h.1 m hm).1, (hw.1 m hm).2.trans (h.1 m hm).2⟩, ?_, fun d h1 h2 => ?_, fun s hs => ?_⟩
  · rw [(hw.2.2 (slotF g 0) (fun d h1 _ e => by have := sl_inj e; omega)).1]; exact h.2.1
  · rw [hw.2.1 d h1 h2, h.2.2.1 d h1 h2, hm d h1 h2]
    show _ = (if nI b = wo then bmF (v d) wo MORE (E i (slotF g d)) b else if (v d b).toInt < (bmF (v d) wo MORE (E i (slotF g d)) b).1.toInt then (v d b, nI b) else bmF (v d) wo MORE (E i (slotF g d)) b)
    rw [if_neg e]
    rfl
  · have t := hw.2.2 s (fun d _ h2 => hs d h2)
    have u := h.2.2.2 s hs
    exact ⟨t.1.trans u.1, t.2.trans u.2⟩
def bwV (H : Nat → Int32 → Nat → Int32) (N B : Nat) (wo : Int32) : Nat → Int32 → Nat → Int64
  | 0 => fun _ d => if d = 0 then 1 else 0
  | n + 1 => fun g d => if d = 0 then powF (n + 1) else (bmF (fun b => mxF (H (N - (n + 1)) g b) (bwV H N B wo n (nI b) (d - 1)) (bwV H N B wo n (nI b) (min 9 (d + 1)))) wo MORE 0 B).1
def VG (B : Nat) (g : Int32) : Prop := g = -4 ∨ ∃ a : Nat, a < B ∧ g = nI a
theorem sl_ne {g g' : Int32} {d d' : Nat} (hg : VG 6 g) (hg' : VG 6 g') (hd : d ≤ 9) (hd' : d' ≤ 9) (h : slotF g d = slotF g' d') : g = g' ∧ d = d' := by
  have m4 : (-4 : Int32).toInt = -4 := by decide
  have e : ∀ x : Int32, VG 6 x → (x = -4 ∧ (if x = -4 then 0 else x.toNatClampNeg + 1) = 0) ∨ (∃ a : Nat, a < 6 ∧ x = nI a ∧ (if x = -4 then 0 else x.toNatClampNeg + 1) = a + 1) := by
    intro x hx
    rcases hx with q | ⟨a, ha, q⟩
    · exact Or.inl ⟨q, if_pos q⟩
    · refine Or.inr ⟨a, ha, q, ?_⟩
      rw [if_neg (fun z => by rw [q] at z; have t := congrArg Int32.toInt z; rw [nI_toInt (by omega)] at t; omega), q, nI_clamp (by omega)]
  unfold slotF at h
  rcases e g hg with ⟨a1, a2⟩ | ⟨a, ha, a1, a2⟩
  · rcases e g' hg' with ⟨b1, b2⟩ | ⟨b, hb, b1, b2⟩
    · rw [a2, b2] at h; exact ⟨a1.trans b1.symm, by omega⟩
    · rw [a2, b2] at h; omega
  · rcases e g' hg' with ⟨b1, b2⟩ | ⟨b, hb, b1, b2⟩
    · rw [a2, b2] at h; omega
    · rw [a2, b2] at h
      have ab : a = b := by omega
      exact ⟨by rw [a1, b1, ab], by omega⟩
/-- a row of THE BEST as it should stand -/
def ROK (H : Nat → Int32 → Nat → Int32) (N B : Nat) (wo : Int32) (m : Nat) (g : Int32) (G : Nat → Nat → Int64) (Gc : Nat → Nat → Int32) : Prop := ∀ d : Nat, d ≤ 9 → G m (slotF g d) = bwV H N B wo (N - m) g d ∧ (m < N → 1 ≤ d → ∃ c0 : Int32, Gc m (slotF g d) = (bmF (fun b => mxF (H m g b) (bwV H N B wo (N - (m + 1)) (nI b) (d - 1)) (bwV H N B wo (N - (m + 1)) (nI b) (min 9 (d + 1)))) wo MORE c0 B).2)
def PLR (H : Nat → Int32 → Nat → Int32) (N B : Nat) (wo : Int32) (j : Nat) (G : Nat → Nat → Int64) (Gc : Nat → Nat → Int32) : Prop := ∀ m : Nat, j ≤ m → m ≤ N → ∀ g : Int32, VG B g → ROK H N B wo m g G Gc
def PLI (H : Nat → Int32 → Nat → Int32) (N B : Nat) (wo : Int32) (i a : Nat) (G : Nat → Nat → Int64) (Gc : Nat → Nat → Int32) : Prop := PLR H N B wo (i + 1) G Gc ∧ ∀ g : Int32, VG a g → ROK H N B wo i g G Gc
theorem PLR.z {H : Nat → Int32 → Nat → Int32} {N B : Nat} {wo : Int32} {G : Nat → Nat → Int64} {Gc : Nat → Nat → Int32} (hB : B ≤ 6) (h : ∀ s : Nat, s < 70 → G N s = if s % 10 = 0 then 1 else 0) : PLR H N B wo N G Gc := by
  intro m h1 h2 g hg d hd
  have em : m = N := by omega
  subst em
  refine ⟨?_, fun q => absurd q (Nat.lt_irrefl _)⟩
  have hs : slotF g d < 70 ∧ slotF g d % 10 = d := by
    unfold slotF
    rcases hg with q | ⟨a, ha, q⟩
    · rw [if_pos q]; omega
    · rw [q, nI_clamp (by omega)]; split <;> omega
  rw [h _ hs.1, hs.2, Nat.sub_self]
  rfl
theorem PLI.s {H : Nat → Int32 → Nat → Int32} {N B : Nat} {wo : Int32} {i a' : Nat} {g : Int32} {w : Int64} {v : Nat → Nat → Int64} {G G' : Nat → Nat → Int64} {Gc Gc' : Nat → Nat → Int32} (hi : i < N) (h : PLR H N B wo (i + 1) G Gc) (ho : ∀ x : Int32, VG a' x → x = g ∨ (VG 6 x ∧ ROK H N B wo i x G Gc)) (hg : VG 6 g) (hw : w = powF (N - i)) (hv : ∀ d b : Nat, 1 ≤ d → d < 10 → b < B → v d b = mxF (H i g b) (G (i + 1) (slotF (nI b) (d - 1))) (G (i + 1) (slotF (nI b) (min 9 (d + 1))))) (c : CF i g w wo v B G' G Gc' Gc) : PLI H N B wo i a' G' Gc' := by
  have keep : ∀ m : Nat, ¬ m = i → ∀ x : Int32, ROK H N B wo m x G Gc → ROK H N B wo m x G' Gc' := by
    intro m hm x hr d hd
    rw [(c.1 m hm).1, (c.1 m hm).2]
    exact hr d hd
  have new : ROK H N B wo i g G' Gc' := by
    intro d hd
    by_cases d0 : d = 0
    · subst d0
      refine ⟨?_, fun _ q => absurd q (by omega)⟩
      rw [c.2.1, hw, show N - i = (N - (i + 1)) + 1 by omega]
      rfl
    · have p := c.2.2.1 d (by omega) (by omega)
      have ev : bmF (v d) wo MORE (Gc i (slotF g d)) B = bmF (fun b => mxF (H i g b) (bwV H N B wo (N - (i + 1)) (nI b) (d - 1)) (bwV H N B wo (N - (i + 1)) (nI b) (min 9 (d + 1)))) wo MORE (Gc i (slotF g d)) B := by
        refine bm_cg B (fun b hb => ?_)
        rw [hv d b (by omega) (by omega) hb, (h (i + 1) (Nat.le_refl _) (by omega) (nI b) (Or.inr ⟨b, hb, rfl⟩) (d - 1) (by omega)).1, (h (i + 1) (Nat.le_refl _) (by omega) (nI b) (Or.inr ⟨b, hb, rfl⟩) (min 9 (d + 1)) (by omega)).1]
      rw [ev] at p
      refine ⟨?_, fun _ _ => ⟨Gc i (slotF g d), congrArg Prod.snd p⟩⟩
      have p1 := congrArg Prod.fst p
      refine p1.trans ?_
      rw [show N - i = (N - (i + 1)) + 1 by omega]
      show _ = (if d = 0 then powF (N - (i + 1) + 1) else (bmF (fun b => mxF (H (N - (N - (i + 1) + 1)) g b) (bwV H N B wo (N - (i + 1)) (nI b) (d - 1)) (bwV H N B wo (N - (i + 1)) (nI b) (min 9 (d + 1)))) wo MORE 0 B).1)
      rw [if_neg d0, show N - (N - (i + 1) + 1) = i by omega]
      exact bm_fst B
  refine ⟨fun m h1 h2 x hx => keep m (by omega) x (h m h1 h2 x hx), fun x hx => ?_⟩
  by_cases e : x = g
  · rw [e]; exact new
  · rcases ho x hx with q | ⟨q1, q2⟩
    · exact absurd q e
    · intro d hd
      have k := c.2.2.2 (slotF x d) (fun d' hd' z => e (sl_ne q1 hg hd (by omega) z).1)
      rw [k.1, k.2]
      exact q2 d hd
theorem PLI.n {H : Nat → Int32 → Nat → Int32} {N B : Nat} {wo : Int32} {i : Nat} {w : Int64} {v : Nat → Nat → Int64} {G G' : Nat → Nat → Int64} {Gc Gc' : Nat → Nat → Int32} (hi : i < N) (h : PLR H N B wo (i + 1) G Gc) (hw : w = powF (N - i)) (hv : ∀ d b : Nat, 1 ≤ d → d < 10 → b < B → v d b = mxF (H i (-4) b) (G (i + 1) (slotF (nI b) (d - 1))) (G (i + 1) (slotF (nI b) (min 9 (d + 1))))) (c : CF i (-4) w wo v B G' G Gc' Gc) : PLI H N B wo i 0 G' Gc' :=
  PLI.s hi h (fun x hx => Or.inl (hx.elim id (fun ⟨y, hy, _⟩ => absurd hy (Nat.not_lt_zero y)))) (Or.inl rfl) hw hv c
theorem PLI.a {H : Nat → Int32 → Nat → Int32} {N B : Nat} {wo : Int32} {i a : Nat} {w : Int64} {v : Nat → Nat → Int64} {G G' : Nat → Nat → Int64} {Gc Gc' : Nat → Nat → Int32} (hi : i < N) (hB : B ≤ 6) (ha : a < B) (h : PLI H N B wo i a G Gc) (hw : w = powF (N - i)) (hv : ∀ d b : Nat, 1 ≤ d → d < 10 → b < B → v d b = mxF (H i (nI a) b) (G (i + 1) (slotF (nI b) (d - 1))) (G (i + 1) (slotF (nI b) (min 9 (d + 1))))) (c : CF i (nI a) w wo v B G' G Gc' Gc) : PLI H N B wo i (a + 1) G' Gc' :=
  PLI.s hi h.1 (fun x hx => by
    rcases hx with q | ⟨y, hy, q⟩
    · exact Or.inr ⟨Or.inl q, h.2 x (Or.inl q)⟩
    · by_cases e : y = a
      · exact Or.inl (by rw [q, e])
      · exact Or.inr ⟨Or.inr ⟨y, by omega, q⟩, h.2 x (Or.inr ⟨y, by omega, q⟩)⟩) (Or.inr ⟨a, by omega, rfl⟩) hw hv c
theorem PLI.o {H : Nat → Int32 → Nat → Int32} {N B : Nat} {wo : Int32} {i : Nat} {G : Nat → Nat → Int64} {Gc : Nat → Nat → Int32} (h : PLI H N B wo i B G Gc) : PLR H N B wo i G Gc := by
  intro m h1 h2 g hg
  by_cases e : m = i
  · rw [e]; exact h.2 g hg
  · exact h.1 m (by omega) h2 g hg

-- THE BEST of the reference: pure parts; both sides' answers (draft)
def zbM (h : Int32) (x y : Int64) : Int64 := h.toInt64 * x + (20 - h).toInt64 * y
def zbH (fs : Nat → Int32) (i k b : Nat) : Int32 := if k < 10 then rhN fs i b 0 else rhB fs i (k / 10 - 1) b 0
def zbW (H : Nat → Nat → Nat → Int32) (g : Nat → Int64) (i k b : Nat) : Int64 := zbM (H i k b) (g (10 * (b + 1) + (k % 10 - 1))) (g (10 * (b + 1) + min 9 (k % 10 + 1)))
def FARL : Int64 := 4000000000000000000
def zbV (H : Nat → Nat → Nat → Int32) (N B : Nat) (wo : Int32) : Nat → Nat → Int64
  | 0 => fun k => if k % 10 = 0 then 1 else 0
  | n + 1 => fun k => if k % 10 = 0 then powF (n + 1) else (bmF (zbW H (zbV H N B wo n) (N - (n + 1)) k) wo FARL 0 B).1
theorem b1_w {fs : Nat → Int32} {f g : Nat → Int64} {i k b : Nat} (h1 : f (70 * (i + 1) + (10 * (b + 1) + (k % 10 - 1))) = g (10 * (b + 1) + (k % 10 - 1))) (h2 : f (70 * (i + 1) + (10 * (b + 1) + min 9 (k % 10 + 1))) = g (10 * (b + 1) + min 9 (k % 10 + 1))) : b1 fs f i k b = zbW (zbH fs) g i k b := by
  have a1 : 70 * (i + 1) + 10 * (b + 1) + (k % 10 - 1) = 70 * (i + 1) + (10 * (b + 1) + (k % 10 - 1)) := Nat.add_assoc _ _ _
  have a2 : 70 * (i + 1) + 10 * (b + 1) + min 9 (k % 10 + 1) = 70 * (i + 1) + (10 * (b + 1) + min 9 (k % 10 + 1)) := Nat.add_assoc _ _ _
  unfold b1 zbW zbM zbH b1N b1B
  rw [a1, a2, h1, h2]
  by_cases c : k < 10
  · rw [if_pos c, if_pos c]
  · rw [if_neg c, if_neg c]
def VK (B k : Nat) : Prop := k % 10 = 0 ∨ k < 10 ∨ k / 10 ≤ B
def zbR (fs : Nat → Int32) (N B : Nat) (wo : Int32) (j : Nat) (f : Nat → Int64) : Prop := ∀ i k : Nat, j ≤ i → i ≤ N → k < 70 → VK B k → f (70 * i + k) = zbV (zbH fs) N B wo (N - i) k
def zbK (fs : Nat → Int32) (N B : Nat) (wo : Int32) (i k : Nat) (f : Nat → Int64) : Prop := zbR fs N B wo (i + 1) f ∧ ∀ k' : Nat, k' < k → VK B k' → f (70 * i + k') = zbV (zbH fs) N B wo (N - i) k'
def zbB (fs : Nat → Int32) (N B : Nat) (wo : Int32) (i k b : Nat) (f : Nat → Int64) : Prop := zbK fs N B wo i k f ∧ ((k % 10 = 0 ∧ f (70 * i + k) = powF (N - i)) ∨ (k % 10 ≠ 0 ∧ f (70 * i + k) = (bmF (b1 fs f i k) wo FARL 0 b).1 ∧ (f (70 * i + k)).toInt ≤ 4000000000000000000))
def zbF (N j : Nat) (f : Nat → Int64) : Prop := ∀ k : Nat, k < j → f (70 * N + k) = if k % 10 = 0 then 1 else 0
theorem zbK.put {fs : Nat → Int32} {N B i k : Nat} {wo : Int32} {f : Nat → Int64} {v : Int64} (hk : k < 70) (h : zbK fs N B wo i k f) : zbK fs N B wo i k (vp_updL f (70 * i + k) v) :=
  ⟨fun i' k' h1 h2 h3 h4 => (upL_ne (by omega)).trans (h.1 i' k' h1 h2 h3 h4), fun k' hk' h4 => (upL_ne (by omega)).trans (h.2 k' hk' h4)⟩
theorem zbB.ini {fs : Nat → Int32} {N B i k : Nat} {wo : Int32} {f : Nat → Int64} {y : Int64} (h : zbK fs N B wo i k f) (hk : k < 70) (hc : (k % 10 = 0 ∧ y = powF (N - i)) ∨ (k % 10 ≠ 0 ∧ y = 4000000000000000000)) : zbB fs N B wo i k 0 (vp_updL f (70 * i + k) y) := by
  refine ⟨h.put hk, ?_⟩
  rw [upL_eq]
  rcases hc with hc | hc
  · exact Or.inl hc
  · exact Or.inr ⟨hc.1, hc.2, by rw [hc.2]; decide⟩
theorem bm_sc {v : Nat → Int64} {wo : Int32} {x0 : Int64} {c0 : Int32} {b : Nat} : bmF v wo x0 c0 (b + 1) = if nI b = wo then bmF v wo x0 c0 b else if (v b).toInt < (bmF v wo x0 c0 b).1.toInt then (v b, nI b) else bmF v wo x0 c0 b := rfl
theorem zbB.lt {fs : Nat → Int32} {N B i k b : Nat} {wo : Int32} {f : Nat → Int64} {v : Int64} (hk : k < 70) (hk0 : k % 10 ≠ 0) (hv : v = b1 fs f i k b) (hw : ¬ nI b = wo) (hc : v.toInt < (f (70 * i + k)).toInt) (h : zbB fs N B wo i k b f) : zbB fs N B wo i k (b + 1) (vp_updL f (70 * i + k) v) := by
  rcases h.2 with c | ⟨_, c1, c2⟩
  · exact absurd c.1 hk0
  · refine ⟨h.1.put hk, Or.inr ⟨hk0, ?_, ?_⟩⟩
    · have e : ∀ q : Nat, b1 fs (vp_updL f (70 * i + k) v) i k q = b1 fs f i k q := fun q => b1_cg (fun r hr => upL_ne (by omega))
      rw [upL_eq, bm_cg (v := b1 fs (vp_updL f (70 * i + k) v) i k) (v' := b1 fs f i k) (b + 1) (fun q _ => e q), bm_sc, if_neg hw, ← c1, ← hv, if_pos hc]
    · rw [upL_eq]; omega
theorem zbB.ge {fs : Nat → Int32} {N B i k b : Nat} {wo : Int32} {f : Nat → Int64} {v : Int64} (hk : k < 70) (hk0 : k % 10 ≠ 0) (hv : v = b1 fs f i k b) (hw : ¬ nI b = wo) (hc : (f (70 * i + k)).toInt ≤ v.toInt) (h : zbB fs N B wo i k b f) : zbB fs N B wo i k (b + 1) (vp_updL f (70 * i + k) (f (70 * i + k))) := by
  rcases h.2 with c | ⟨_, c1, c2⟩
  · exact absurd c.1 hk0
  · refine ⟨h.1.put hk, Or.inr ⟨hk0, ?_, ?_⟩⟩
    · have e : ∀ q : Nat, b1 fs (vp_updL f (70 * i + k) (f (70 * i + k))) i k q = b1 fs f i k q := fun q => b1_cg (fun r hr => upL_ne (by omega))
      rw [upL_eq, bm_cg (v := b1 fs (vp_updL f (70 * i + k) (f (70 * i + k))) i k) (v' := b1 fs f i k) (b + 1) (fun q _ => e q), bm_sc, if_neg hw, ← c1, ← hv, if_neg (by omega)]
      exact c1
    · rw [upL_eq]; exact c2
theorem zbB.wo {fs : Nat → Int32} {N B i k b : Nat} {wo : Int32} {f : Nat → Int64} (hk : k < 70) (hk0 : k % 10 ≠ 0) (hw : nI b = wo) (h : zbB fs N B wo i k b f) : zbB fs N B wo i k (b + 1) (vp_updL f (70 * i + k) (f (70 * i + k))) := by
  rcases h.2 with c | ⟨_, c1, c2⟩
  · exact absurd c.1 hk0
  · refine ⟨h.1.put hk, Or.inr ⟨hk0, ?_, ?_⟩⟩
    · have e : ∀ q : Nat, b1 fs (vp_updL f (70 * i + k) (f (70 * i + k))) i k q = b1 fs f i k q := fun q => b1_cg (fun r hr => upL_ne (by omega))
      rw [upL_eq, bm_cg (v := b1 fs (vp_updL f (70 * i + k) (f (70 * i + k))) i k) (v' := b1 fs f i k) (b + 1) (fun q _ => e q), bm_sc, if_pos hw]
      exact c1
    · rw [upL_eq]; exact c2
theorem zbB.out {fs : Nat → Int32} {N B i k b : Nat} {wo : Int32} {f : Nat → Int64} (hi : i < N) (hB : B ≤ 6) (hk : k < 70) (hc : b = B ∨ k % 10 = 0 ∨ (10 ≤ k ∧ B < k / 10)) (h : zbB fs N B wo i k b f) : zbK fs N B wo i (k + 1) f := by
  refine ⟨h.1.1, fun k' hk' hv => ?_⟩
  by_cases e : k' < k
  · exact h.1.2 k' e hv
  · have e2 : k' = k := by omega
    subst e2
    have en : N - i = (N - (i + 1)) + 1 := by omega
    rcases h.2 with c | ⟨c0, c1, _⟩
    · rw [c.2, en]
      show _ = (if k' % 10 = 0 then powF (N - (i + 1) + 1) else _)
      rw [if_pos c.1]
    · have hb : b = B := by
        unfold VK at hv
        omega
      rw [hb] at c1
      rw [c1, en]
      show _ = (if k' % 10 = 0 then powF (N - (i + 1) + 1) else (bmF (zbW (zbH fs) (zbV (zbH fs) N B wo (N - (i + 1))) (N - (N - (i + 1) + 1)) k') wo FARL 0 B).1)
      rw [if_neg c0, show N - (N - (i + 1) + 1) = i by omega]
      refine congrArg Prod.fst (bm_cg B (fun q hq => b1_w ?_ ?_))
      · exact h.1.1 (i + 1) (10 * (q + 1) + (k' % 10 - 1)) (Nat.le_refl _) (by omega) (by omega) (Or.inr (Or.inr (by omega)))
      · exact h.1.1 (i + 1) (10 * (q + 1) + min 9 (k' % 10 + 1)) (Nat.le_refl _) (by omega) (by omega) (Or.inr (Or.inr (by omega)))
theorem zbK.out {fs : Nat → Int32} {N B i k : Nat} {wo : Int32} {f : Nat → Int64} (hk : 70 ≤ k) (h : zbK fs N B wo i k f) : zbR fs N B wo i f := fun i' k' h1 h2 h3 h4 => by
  by_cases e : i' = i
  · rw [e]; exact h.2 k' (by omega) h4
  · exact h.1 i' k' (by omega) h2 h3 h4
theorem zbR.k0 {fs : Nat → Int32} {N B i : Nat} {wo : Int32} {f : Nat → Int64} (h : zbR fs N B wo (i + 1) f) : zbK fs N B wo i 0 f := ⟨h, fun k' hk' => absurd hk' (Nat.not_lt_zero _)⟩
theorem zbF.put {N j : Nat} {f : Nat → Int64} {y : Int64} (h : zbF N j f) (hy : y = if j % 10 = 0 then 1 else 0) : zbF N (j + 1) (vp_updL f (70 * N + j) y) := fun k hk => by
  by_cases e : k = j
  · rw [e, upL_eq]; exact hy
  · rw [upL_ne (by omega)]; exact h k (by omega)
theorem zbF.out {fs : Nat → Int32} {N B j : Nat} {wo : Int32} {f : Nat → Int64} (hj : 70 ≤ j) (h : zbF N j f) : zbR fs N B wo N f := fun i k h1 h2 h3 _ => by
  have e : i = N := by omega
  rw [e, Nat.sub_self]
  exact h k (by omega)
theorem zbR.b1 {fs : Nat → Int32} {N B i k b : Nat} {wo : Int32} {f : Nat → Int64} (h : zbR fs N B wo 0 f) (hB : B ≤ 6) (hi : i < N) (hb : b < B) : b1 fs f i k b = zbW (zbH fs) (zbV (zbH fs) N B wo (N - (i + 1))) i k b :=
  b1_w (h (i + 1) (10 * (b + 1) + (k % 10 - 1)) (Nat.zero_le _) (by omega) (by omega) (Or.inr (Or.inr (by omega)))) (h (i + 1) (10 * (b + 1) + min 9 (k % 10 + 1)) (Nat.zero_le _) (by omega) (by omega) (Or.inr (Or.inr (by omega))))
theorem b1_N {fs : Nat → Int32} {f : Nat → Int64} {i d b : Nat} (h : d ≤ 9) : b1 fs f i d b = b1N fs f i d b := by
  unfold b1
  rw [if_pos (by omega), Nat.mod_eq_of_lt (by omega)]
theorem b1_B {fs : Nat → Int32} {f : Nat → Int64} {i a d b : Nat} (h : d ≤ 9) : b1 fs f i (10 * (a + 1) + d) b = b1B fs f i a d b := by
  unfold b1
  rw [if_neg (by omega), show (10 * (a + 1) + d) % 10 = d by omega, show (10 * (a + 1) + d) / 10 - 1 = a by omega]
def nxP (fs : Nat → Int32) (N B : Nat) (i k b : Nat) : Prop := zbW (zbH fs) (zbV (zbH fs) N B (-4) (N - (i + 1))) i k b = zbV (zbH fs) N B (-4) (N - i) k
theorem sl_4 {d : Nat} : slotF (-4) d = d := by
  unfold slotF
  rw [if_pos rfl, Nat.zero_mul, Nat.zero_add]
theorem sl_n {a d : Nat} (h : a < 1000) : slotF (nI a) d = 10 * (a + 1) + d := by
  unfold slotF
  have m4 : (-4 : Int32).toInt = -4 := by decide
  rw [if_neg (fun z => by have t := congrArg Int32.toInt z; rw [nI_toInt (by omega), m4] at t; omega), nI_clamp (by omega)]
  omega
theorem zbR.xN {fs : Nat → Int32} {N B i d j : Nat} {f : Nat → Int64} (hB : B ≤ 6) (h : zbR fs N B (-4) 0 f) (hi : i < N) (h2 : d ≤ 9) (hj : j < B) (e : b1N fs f i d j = f (70 * i + d)) (hn : ∀ b8 : Nat, b8 < j → ¬ b1N fs f i d b8 = f (70 * i + d)) : nxP fs N B i (slotF (-4) d) j ∧ ∀ b8 : Nat, b8 < j → ¬ nxP fs N B i (slotF (-4) d) b8 := by
  have e9 := h i d (Nat.zero_le _) (by omega) (by omega) (Or.inr (Or.inl (by omega)))
  have k : ∀ b : Nat, b < B → (nxP fs N B i (slotF (-4) d) b ↔ b1N fs f i d b = f (70 * i + d)) := fun b hb => by
    unfold nxP
    rw [sl_4, ← h.b1 hB hi hb, ← e9, b1_N h2]
  exact ⟨(k j hj).mpr e, fun b8 h8 q => hn b8 h8 ((k b8 (by omega)).mp q)⟩
theorem zbR.xB {fs : Nat → Int32} {N B i a d j : Nat} {f : Nat → Int64} (hB : B ≤ 6) (h : zbR fs N B (-4) 0 f) (hi : i < N) (ha : a < B) (h2 : d ≤ 9) (hj : j < B) (e : b1B fs f i a d j = f (70 * i + 10 * (a + 1) + d)) (hn : ∀ b8 : Nat, b8 < j → ¬ b1B fs f i a d b8 = f (70 * i + 10 * (a + 1) + d)) : nxP fs N B i (slotF (nI a) d) j ∧ ∀ b8 : Nat, b8 < j → ¬ nxP fs N B i (slotF (nI a) d) b8 := by
  have e9 := h i (10 * (a + 1) + d) (Nat.zero_le _) (by omega) (by omega) (Or.inr (Or.inr (by omega)))
  have k : ∀ b : Nat, b < B → (nxP fs N B i (slotF (nI a) d) b ↔ b1B fs f i a d b = f (70 * i + 10 * (a + 1) + d)) := fun b hb => by
    unfold nxP
    rw [sl_n (by omega), ← h.b1 hB hi hb, ← e9, b1_B h2, Nat.add_assoc]
  exact ⟨(k j hj).mpr e, fun b8 h8 q => hn b8 h8 ((k b8 (by omega)).mp q)⟩

def lmap (E : Nat → Int32) : Nat → Int32 := fun q => if E q = -1 then -4 else E q
theorem lmap_upd {E : Nat → Int32} {k : Nat} {lane : Int32} (h : ¬ lane = -1) : upd (lmap E) k lane = lmap (upd E k lane) := by
  funext q
  show (if q = k then lane else lmap E q) = (if (if q = k then lane else E q) = -1 then -4 else (if q = k then lane else E q))
  by_cases c : q = k
  · rw [if_pos c, if_pos c, if_neg h]
  · rw [if_neg c, if_neg c]; rfl
theorem lmap_step {E : Nat → Int32} {k lane n : Int32} : (if ((0 ≤ k.toInt ∧ k.toInt < 4) ∧ (0 ≤ lane.toInt ∧ lane.toInt ≤ 2) ∧ n.toInt ≤ 40 ∧ 0 ≤ n.toInt) then upd (lmap E) k.toNatClampNeg lane else lmap E) = lmap (if ((0 ≤ k.toInt ∧ k.toInt < 4) ∧ (0 ≤ lane.toInt ∧ lane.toInt ≤ 2) ∧ n.toInt ≤ 40 ∧ 0 ≤ n.toInt) then upd E k.toNatClampNeg lane else E) := by
  split
  · rename_i h
    exact lmap_upd (fun e => by rw [e] at h; exact absurd h.2.1.1 (by decide))
  · rfl
theorem E_inv {E : Nat → Int32} {k lane n : Int32} (h : ∀ q : Nat, q < 4 → E q = -1 ∨ (0 ≤ (E q).toInt ∧ (E q).toInt ≤ 2)) : ∀ q : Nat, q < 4 → (if ((0 ≤ k.toInt ∧ k.toInt < 4) ∧ (0 ≤ lane.toInt ∧ lane.toInt ≤ 2) ∧ n.toInt ≤ 40 ∧ 0 ≤ n.toInt) then upd E k.toNatClampNeg lane else E) q = -1 ∨ (0 ≤ ((if ((0 ≤ k.toInt ∧ k.toInt < 4) ∧ (0 ≤ lane.toInt ∧ lane.toInt ≤ 2) ∧ n.toInt ≤ 40 ∧ 0 ≤ n.toInt) then upd E k.toNatClampNeg lane else E) q).toInt ∧ ((if ((0 ≤ k.toInt ∧ k.toInt < 4) ∧ (0 ≤ lane.toInt ∧ lane.toInt ≤ 2) ∧ n.toInt ≤ 40 ∧ 0 ≤ n.toInt) then upd E k.toNatClampNeg lane else E) q).toInt ≤ 2) := by
  intro q hq
  split
  · rename_i c
    show (if q = k.toNatClampNeg then lane else E q) = -1 ∨ (0 ≤ (if q = k.toNatClampNeg then lane else E q).toInt ∧ (if q = k.toNatClampNeg then lane else E q).toInt ≤ 2)
    split
    · exact Or.inr c.2.1
    · exact h q hq
  · exact h q hq
theorem lay_eq {E Z : Nat → Int32} {k i : Int32} (h : ∀ q : Nat, q < 4 → E q = -1 ∨ (0 ≤ (E q).toInt ∧ (E q).toInt ≤ 2)) : (if 0 ≤ k.toInt ∧ k.toInt < 4 then (if lmap E k.toNatClampNeg = -4 then -11 else if 0 ≤ i.toInt ∧ i.toInt < (Z k.toNatClampNeg).toInt then 1 else -12) else -1) = (if 0 ≤ k.toInt ∧ k.toInt < 4 then (if E k.toNatClampNeg = -1 then -11 else if 0 ≤ i.toInt ∧ i.toInt < (Z k.toNatClampNeg).toInt then 1 else -12) else (-1 : Int32)) := by
  split
  · rename_i c
    obtain ⟨j, hj, rfl⟩ := i32_nat (x := k) (n := 4) c.1 (by omega)
    rw [nI_clamp (by omega)]
    have e : (lmap E j = -4) = (E j = -1) := by
      apply propext
      constructor
      · intro q
        rcases h j hj with a | a
        · exact a
        · exfalso
          have q' : (if E j = -1 then (-4 : Int32) else E j) = -4 := q
          split at q'
          · rename_i b; rw [b] at a; exact absurd a.1 (by decide)
          · rw [q'] at a; exact absurd a.1 (by decide)
      · intro q
        show (if E j = -1 then (-4 : Int32) else E j) = -4
        rw [if_pos q]
    by_cases d : E j = -1
    · rw [if_pos d, if_pos (e ▸ d)]
    · rw [if_neg d, if_neg (fun z => d (e ▸ z))]
  · rfl
theorem Met.pick {l : Launch} {y : MethodName} {ws : List Cond} {rm : Room} {P' : Array Value → State → Prop} {Q' : Array Value → State → Outcome → State → Prop} {mc ms : Nat} {F' : Addr → Prop} (h : ∀ (a : Array Value) (st : State), P' a st → ∃ (P : Array Value → State → Prop) (Q : Array Value → State → Outcome → State → Prop) (F : Addr → Prop), Met l y ws rm P Q mc ms F ∧ P a st ∧ (∀ q : Nat, F q → F' q) ∧ ∀ (o : Outcome) (t : State), Q a st o t → Q' a st o t) : Met l y ws rm P' Q' mc ms F' := by
  unfold Met MetFree
  intro p e h1 h2 h3 s m args below h4 h5 h6 h7
  obtain ⟨P, Q, F, hM, hP, hF, hQ⟩ := h args s h6
  unfold Met MetFree at hM
  obtain ⟨n, o, a1, a2, a3, a4, L, a5, a6⟩ := hM p e h1 h2 h3 s m args below h4 h5 hP trivial
  exact ⟨n, o, a1, a2, a3, hQ _ _ a4, L, a5, fun q hq => hF _ (a6 q hq)⟩
theorem vpc {D : va_G} {cl : List vw_C} {q : Nat × va_E} {ws : va_W} {H : Heap} (h : va_at D cl q H) (hw : va_P D cl ws H) : va_P D cl (q :: ws) H := by
  intro k x hk
  cases k with
  | zero =>
    have e : q = x := Option.some.inj hk
    subst e
    exact h
  | succ k => exact hw k x hk
theorem vp_mid {D : va_G} {cl : List vw_C} {X B Y : va_W} {H : Heap} (h : va_P D cl (X ++ (B ++ Y)) H) : va_P D cl B H := fun k q hk => h (X.length + k) q (by
  rw [List.getElem?_append_right (by omega), Nat.add_sub_cancel_left, List.getElem?_append_left (List.getElem?_eq_some_iff.mp hk).1]
  exact hk)
theorem vp_mid2 {D : va_G} {cl : List vw_C} {X A B Y : va_W} {H : Heap} (h : va_P D cl (X ++ (A ++ (B ++ Y))) H) : va_P D cl B H := vp_mid (X := X ++ A) (B := B) (Y := Y) (by rw [List.append_assoc]; exact h)
theorem blk_kept {D : va_G} {cl : List vw_C} {N : Nat} {f : Nat → Nat × va_E} {H H1 : Heap} (hb : va_P D cl ((List.range N).map f) H) (hk : ∀ i : Nat, i < N → (f i).1 < H.size → H1[(f i).1]? = H[(f i).1]?) : va_P D cl ((List.range N).map f) H1 :=
  hb.kept (fun k q hq => by
    have hlt := (hb k q hq).lt
    have hkN : k < N := by
      have h9 := (List.getElem?_eq_some_iff.mp hq).1
      simpa using h9
    have e : f k = q := by
      rw [List.getElem?_map, List.getElem?_range hkN] at hq
      exact Option.some.inj hq
    subst e
    exact hk k hkN hlt)
def adInj (n : Nat) (ax : Nat → Nat) : Prop := ∀ i j : Nat, i < n → j < n → ax i = ax j → i = j
def adX (lo hi : Nat) (ax : Nat → Nat) (sz : Nat) : Nat → Prop := fun q => (∃ i : Nat, lo ≤ i ∧ i < hi ∧ q = ax i) ∨ sz ≤ q
theorem ix_at {ax : Nat → Nat} {ws : va_W} (is : List Nat) (h : ws.map Prod.fst = is.map ax) {k : Nat} {q : Nat × va_E} (hq : ws[k]? = some q) : ∃ x : Nat, is[k]? = some x ∧ ax x = q.1 := by
  have a1 : (ws.map Prod.fst)[k]? = some q.1 := by rw [List.getElem?_map, hq]; rfl
  rw [h, List.getElem?_map] at a1
  cases e : is[k]? with
  | none => rw [e] at a1; cases a1
  | some x => rw [e] at a1; exact ⟨x, rfl, Option.some.inj a1⟩
theorem vD_ix {n : Nat} {ax : Nat → Nat} (hi : adInj n ax) {ws : va_W} (is : List Nat) (h : ws.map Prod.fst = is.map ax) (hl : is.all (fun x => decide (x < n)) = true) (hn : va_nd is = true) : va_D (fun _ => True) ws := by
  refine ⟨fun i j p q hp hq e => ?_, fun _ _ _ => trivial⟩
  obtain ⟨x, e1, f1⟩ := ix_at is h hp
  obtain ⟨y, e2, f2⟩ := ix_at is h hq
  have lx : x < n := of_decide_eq_true (List.all_eq_true.mp hl x (List.mem_of_getElem? e1))
  have ly : y < n := of_decide_eq_true (List.all_eq_true.mp hl y (List.mem_of_getElem? e2))
  have exy : x = y := hi x y lx ly (by rw [f1, f2, e])
  subst exy
  exact va_nd_inj is hn i j x e1 e2
theorem fr_ix {n lo hi : Nat} {ax : Nat → Nat} (hi' : adInj n ax) (hhi : hi ≤ n) {ws : va_W} {H H1 : Heap} (hk : ∀ q : Nat, q < H.size → ¬ va_A ws H.size q → H1[q]? = H[q]?) (is : List Nat) (h : ws.map Prod.fst = is.map ax) (hl : is.all (fun x => decide (x < n)) = true) (hb : is.all (fun x => decide (x < lo) || decide (hi ≤ x)) = true) : ∀ j : Nat, lo ≤ j → j < hi → ax j < H.size → H1[ax j]? = H[ax j]? := by
  intro j h1 h2 h3
  refine hk _ h3 (fun hA => ?_)
  rcases hA with ⟨k, e, hke⟩ | h4
  · obtain ⟨x, e1, f1⟩ := ix_at is h hke
    have hm := List.mem_of_getElem? e1
    have lx : x < n := of_decide_eq_true (List.all_eq_true.mp hl x hm)
    have exj : x = j := hi' x j lx (by omega) f1
    subst exj
    have b := List.all_eq_true.mp hb x hm
    rcases Bool.or_eq_true _ _ |>.mp b with b | b
    · have := of_decide_eq_true b; omega
    · have := of_decide_eq_true b; omega
  · omega
theorem ad_ix {lo hi : Nat} {ax : Nat → Nat} {ws : va_W} {sz : Nat} (is : List Nat) (h : ws.map Prod.fst = is.map ax) (hl : is.all (fun x => decide (lo ≤ x) && decide (x < hi)) = true) : ∀ q : Nat, va_A ws sz q → adX lo hi ax sz q := by
  intro q hA
  rcases hA with ⟨k, e, hke⟩ | h4
  · obtain ⟨x, e1, f1⟩ := ix_at is h hke
    have b := (Bool.and_eq_true _ _).mp (List.all_eq_true.mp hl x (List.mem_of_getElem? e1))
    exact Or.inl ⟨x, of_decide_eq_true b.1, of_decide_eq_true b.2, f1.symm⟩
  · exact Or.inr h4
theorem va_F.wide {A B : Nat → Prop} {st t : State} (hF : va_F A st t) (h : ∀ q : Nat, A q → B q) : va_F B st t := ⟨hF.1, fun q h1 h2 => hF.2 q h1 (fun h3 => h2 (h q h3))⟩
theorem fr_ad {n lo hi lo' hi' : Nat} {ax : Nat → Nat} (hi0 : adInj n ax) (hn : hi ≤ n) (hn' : hi' ≤ n) (hd : hi ≤ lo' ∨ hi' ≤ lo) {H H1 : Heap} (hk : ∀ q : Nat, q < H.size → ¬ adX lo hi ax H.size q → H1[q]? = H[q]?) : ∀ j : Nat, lo' ≤ j → j < hi' → ax j < H.size → H1[ax j]? = H[ax j]? := by
  intro j h1 h2 h3
  refine hk _ h3 (fun hA => ?_)
  rcases hA with ⟨i, a, b, c⟩ | h4
  · have := hi0 j i (by omega) (by omega) c
    omega
  · omega
def PcI (av : List Value) (dC : Nat → ClassId) (dI : Nat → Nat → Nat) (G : Nat → ClassId) (I : Heap → Prop) (sz : Nat) : Array Value → State → Prop := va_Pc av (fun U => U.heap.size = sz ∧ I U.heap ∧ KK dC dI G U)
def PcIS (av : List Value) (dC : Nat → ClassId) (dI : Nat → Nat → Nat) (G : Nat → ClassId) (I : Heap → Prop) (adK adV : Nat → Nat) (A : Nat → Prop) (sz : Nat) : Array Value → State → Prop := va_Pc av (fun U => U.heap.size = sz ∧ I U.heap ∧ KK dC dI G U ∧ SS adK adV A U U.heap)
theorem PcI.blind {av : List Value} {dC : Nat → ClassId} {dI : Nat → Nat → Nat} {G : Nat → ClassId} {I : Heap → Prop} {sz : Nat} : FrameBlind (PcI av dC dI G I sz) := fun a U g mk q => by
  obtain ⟨q0, q1, q2, q3⟩ := q
  exact ⟨q0, q1, q2, KK.calling (U := U) (V := U.calling g mk a) rfl q3⟩
theorem PcIS.blind {av : List Value} {dC : Nat → ClassId} {dI : Nat → Nat → Nat} {G : Nat → ClassId} {I : Heap → Prop} {adK adV : Nat → Nat} {A : Nat → Prop} {sz : Nat} : FrameBlind (PcIS av dC dI G I adK adV A sz) := fun a U g mk q => by
  obtain ⟨q0, q1, q2, q3, q4⟩ := q
  exact ⟨q0, q1, q2, KK.calling (U := U) (V := U.calling g mk a) rfl q3, SS.calling (U := U) (V := U.calling g mk a) rfl q4⟩
theorem preVI {s : State} {H : Heap} {As : List Value} {b : Nat} {dC : Nat → ClassId} {dI : Nat → Nat → Nat} {G : Nat → ClassId} {I : Heap → Prop} {C : String} (hK : KK dC dI G s) (hI : I H) (hr : ∃ cellB : Cell, H[b]? = some cellB ∧ cellB.vm.isStatics = false ∧ s.vm.findClass C = some cellB.cls) : PreV s H C b (PcI (.ref b :: As) dC dI G I H.size) As :=
  ⟨PcI.blind, hr, fun U hU hW => ⟨rfl, by rw [hU], by rw [hU]; exact hI, hK.warm hW⟩⟩
theorem preVIS {s : State} {H : Heap} {As : List Value} {b : Nat} {dC : Nat → ClassId} {dI : Nat → Nat → Nat} {G : Nat → ClassId} {I : Heap → Prop} {C : String} {adK adV : Nat → Nat} {A B : Nat → Prop} {locs : List Loc} (hK : KK dC dI G s) (hI : I H) (hr : ∃ cellB : Cell, H[b]? = some cellB ∧ cellB.vm.isStatics = false ∧ s.vm.findClass C = some cellB.cls) (hSS : SS adK adV A s s.heap) (hS : va_S A s.heap H locs) (hB : ∀ q : Nat, B q → A q) : PreV s H C b (PcIS (.ref b :: As) dC dI G I adK adV B H.size) As :=
  ⟨PcIS.blind, hr, fun U hU hW => ⟨rfl, by rw [hU], by rw [hU]; exact hI, hK.warm hW, hSS.go hS hB hU hW⟩⟩
theorem SS.narrow {adK adV : Nat → Nat} {A B : Nat → Prop} {U : State} {H : Heap} (h : SS adK adV A U H) (hB : ∀ q : Nat, B q → A q) : SS adK adV B U H := ⟨h.1.narrow hB, h.2.1, h.2.2.1.narrow hB, h.2.2.2.narrow hB⟩
theorem ck4 {k : Int32} (h : 0 ≤ k.toInt ∧ k.toInt < 4) : k.toNatClampNeg < 4 := by
  have e : k.toNatClampNeg = k.toInt.toNat := rfl
  omega
theorem SR.puto {o N B N' B' : Nat} {i k : Int32} {st W : Nat → Int32} (h : SR o N' B' st W) (hN' : N' ≤ 10) (hB' : B' ≤ 6) (hN : N ≤ 10) (ho : o = 0 ∨ (49 ≤ o ∧ o ≤ 98)) : SR o N' B' (if ((0 ≤ i.toInt ∧ i.toInt < ((N : Nat) : Int)) ∧ (0 ≤ k.toInt ∧ k.toInt < ((B : Nat) : Int))) then upd st (38 + i.toNatClampNeg) k else st) W := by
  refine h.no3 ?_ hN' hB' ho
  split
  · rename_i c
    have := ck_lt c.1
    exact (NO.up (by omega)).n3
  · exact NO.rf.n3
theorem SO.no3 {o : Nat} {st st' O : Nat → Int32} (h : SO o st O) (g : NO3 st st') (ho : o = 87 ∨ o = 136) : SO o st' O := fun i hi => (g (o + i) (by omega) (by omega)).trans (h i hi)
theorem SO.eqq {o : Nat} {st st' O : Nat → Int32} (h : SO o st O) (g : ∀ q : Nat, st' q = st q) : SO o st' O := fun i hi => (g (o + i)).trans (h i hi)
theorem SO.bk0 {k : Int32} {K st O O1 O2 : Nat → Int32} (h : SO 38 st O) (h1 : SO 87 st O1) (h2 : SO 136 st O2) : SO 38 (if (0 ≤ k.toInt ∧ k.toInt < 2) ∧ ¬ K k.toNatClampNeg = 0 then cpj (49 * (k.toNatClampNeg + 1)) 0 49 st else st) (bkW k K O O1 O2) := by
  unfold bkW
  by_cases c : 0 ≤ k.toInt ∧ k.toInt < 2
  · rcases k01 c with e | e
    · subst e
      have e0 : (0 : Int32).toNatClampNeg = 0 := by decide
      by_cases d : K 0 = 0
      · rw [if_neg (fun z => z.2 (by rw [e0]; exact d)), if_neg (fun z => z.2 d), if_neg (fun z => absurd z.1 (by decide))]
        exact h
      · rw [if_pos ⟨c, by rw [e0]; exact d⟩, if_pos ⟨rfl, d⟩]
        intro i hi
        have q : cpj (49 * ((0 : Int32).toNatClampNeg + 1)) 0 49 st (0 + (38 + i)) = st (49 * ((0 : Int32).toNatClampNeg + 1) + (38 + i)) := cpj_in (by omega)
        rw [Nat.zero_add] at q
        refine q.trans ?_
        rw [e0]
        exact (congrArg st (by omega)).trans (h1 i hi)
    · subst e
      have e0 : (1 : Int32).toNatClampNeg = 1 := by decide
      by_cases d : K 1 = 0
      · rw [if_neg (fun z => z.2 (by rw [e0]; exact d)), if_neg (fun z => absurd z.1 (by decide)), if_neg (fun z => z.2 d)]
        exact h
      · rw [if_pos ⟨c, by rw [e0]; exact d⟩, if_neg (fun z => absurd z.1 (by decide)), if_pos ⟨rfl, d⟩]
        intro i hi
        have q : cpj (49 * ((1 : Int32).toNatClampNeg + 1)) 0 49 st (0 + (38 + i)) = st (49 * ((1 : Int32).toNatClampNeg + 1) + (38 + i)) := cpj_in (by omega)
        rw [Nat.zero_add] at q
        refine q.trans ?_
        rw [e0]
        exact (congrArg st (by omega)).trans (h2 i hi)
  · rw [if_neg (fun z => c z.1), if_neg (fun z => c (by rw [z.1]; decide)), if_neg (fun z => c (by rw [z.1]; decide))]
    exact h
theorem SO.bko {o : Nat} {k : Int32} {K st O : Nat → Int32} (h : SO o st O) (ho : 49 ≤ o) : SO o (if (0 ≤ k.toInt ∧ k.toInt < 2) ∧ ¬ K k.toNatClampNeg = 0 then cpj (49 * (k.toNatClampNeg + 1)) 0 49 st else st) O := by
  split
  · intro i hi
    exact (cpj_out (by omega)).trans (h i hi)
  · exact h
-- read
theorem rdAc {Z CE : Nat → Int32} {F : Nat → Nat → Int32} (h : CEc Z F CE) {k : Nat} (hk : k < 4) {L lane : Int32} {x : Int} {n : Nat} (c : Int) (hc : c = 0 ∨ c = 1) : ∀ q : Nat, q < tpK L lane (Z k).toInt x n → F k (x + 2 * (q : Int) + c).toNat = CE (40 * k + (x + 2 * (q : Int) + c).toNat) :=
  fun q hq => h k _ hk (by have t := tpK_in hq; omega)
theorem rdAr {Z fc CE : Nat → Int32} (h : CEr Z fc CE) {k : Nat} (hk : k < 4) {L lane : Int32} {x : Int} {n : Nat} (c : Int) (hc : c = 0 ∨ c = 1) : ∀ q : Nat, q < tpK L lane (Z k).toInt x n → fc (40 * k + (x + 2 * (q : Int) + c).toNat) = CE (40 * k + (x + 2 * (q : Int) + c).toNat) :=
  fun q hq => h k _ hk (by have t := tpK_in hq; omega)
theorem tpK_lm {E : Nat → Int32} {k n : Nat} {lane : Int32} {z x : Int} (hl : 0 ≤ lane.toInt) : tpK (lmap E k) lane z x n = tpK (E k) lane z x n := by
  unfold tpK
  have e : (lmap E k = lane) ↔ (E k = lane) := by
    show ((if E k = -1 then -4 else E k) = lane) ↔ _
    by_cases c : E k = -1
    · rw [if_pos c, c]
      constructor
      · intro q; rw [← q] at hl; exact absurd hl (by decide)
      · intro q; rw [← q] at hl; exact absurd hl (by decide)
    · rw [if_neg c]
  by_cases c : E k = lane
  · rw [if_pos c, if_pos (e.mpr c)]
  · rw [if_neg c, if_neg (fun q => c (e.mp q))]
theorem rd_c {N B : Nat} {k lane x1 n : Int32} {E Z CE : Nat → Int32} {F : Nat → Nat → Int32} (h : CEc Z F CE) : (if ((0 ≤ k.toInt ∧ k.toInt < 4) ∧ (0 ≤ lane.toInt ∧ lane.toInt ≤ 2) ∧ 0 ≤ n.toInt ∧ n.toInt ≤ 20) then rdR N B (fun q8 : Nat => F k.toNatClampNeg (x1.toInt + 2 * (q8 : Int) + 0).toNat) (fun q8 : Nat => F k.toNatClampNeg (x1.toInt + 2 * (q8 : Int) + 1).toNat) (tpK (E k.toNatClampNeg) lane (Z k.toNatClampNeg).toInt x1.toInt n.toNatClampNeg) else -1) = (if ((0 ≤ k.toInt ∧ k.toInt < 4) ∧ (0 ≤ lane.toInt ∧ lane.toInt ≤ 2) ∧ 0 ≤ n.toInt ∧ n.toInt ≤ 20) then rdR N B (fun q8 : Nat => CE (40 * k.toNatClampNeg + (x1.toInt + 2 * (q8 : Int) + 0).toNat)) (fun q8 : Nat => CE (40 * k.toNatClampNeg + (x1.toInt + 2 * (q8 : Int) + 1).toNat)) (tpK (E k.toNatClampNeg) lane (Z k.toNatClampNeg).toInt x1.toInt n.toNatClampNeg) else -1) :=
  cr_get (fun c => rdR_cg (rdAc h (ck4 c.1) 0 (Or.inl rfl)) (rdAc h (ck4 c.1) 1 (Or.inr rfl)))
theorem rd_r {N B : Nat} {k lane x1 n : Int32} {E Z CE fc : Nat → Int32} (h : CEr Z fc CE) : (if ((0 ≤ k.toInt ∧ k.toInt < 4) ∧ (0 ≤ lane.toInt ∧ lane.toInt ≤ 2) ∧ 0 ≤ n.toInt ∧ n.toInt ≤ 20) then rdR N B (fun q8 : Nat => fc (40 * k.toNatClampNeg + (x1.toInt + 2 * (q8 : Int) + 0).toNat)) (fun q8 : Nat => fc (40 * k.toNatClampNeg + (x1.toInt + 2 * (q8 : Int) + 1).toNat)) (tpK (lmap E k.toNatClampNeg) lane (Z k.toNatClampNeg).toInt x1.toInt n.toNatClampNeg) else -1) = (if ((0 ≤ k.toInt ∧ k.toInt < 4) ∧ (0 ≤ lane.toInt ∧ lane.toInt ≤ 2) ∧ 0 ≤ n.toInt ∧ n.toInt ≤ 20) then rdR N B (fun q8 : Nat => CE (40 * k.toNatClampNeg + (x1.toInt + 2 * (q8 : Int) + 0).toNat)) (fun q8 : Nat => CE (40 * k.toNatClampNeg + (x1.toInt + 2 * (q8 : Int) + 1).toNat)) (tpK (E k.toNatClampNeg) lane (Z k.toNatClampNeg).toInt x1.toInt n.toNatClampNeg) else -1) :=
  cr_get (fun c => by
    rw [tpK_lm c.2.1.1]
    exact rdR_cg (rdAr h (ck4 c.1) 0 (Or.inl rfl)) (rdAr h (ck4 c.1) 1 (Or.inr rfl)))
theorem OR.rd {N B : Nat} {k lane x1 n : Int32} {E Z CE f3 O : Nat → Int32} {F : Nat → Nat → Int32} (h : CEc Z F CE) (ho : OR f3 O) : OR (if ((0 ≤ k.toInt ∧ k.toInt < 4) ∧ (0 ≤ lane.toInt ∧ lane.toInt ≤ 2) ∧ 0 ≤ n.toInt ∧ n.toInt ≤ 20) then rdF N B (fun q8 : Nat => F k.toNatClampNeg (x1.toInt + 2 * (q8 : Int) + 0).toNat) (fun q8 : Nat => F k.toNatClampNeg (x1.toInt + 2 * (q8 : Int) + 1).toNat) (tpK (E k.toNatClampNeg) lane (Z k.toNatClampNeg).toInt x1.toInt n.toNatClampNeg) f3 else f3) (if ((0 ≤ k.toInt ∧ k.toInt < 4) ∧ (0 ≤ lane.toInt ∧ lane.toInt ≤ 2) ∧ 0 ≤ n.toInt ∧ n.toInt ≤ 20) then rdF N B (fun q8 : Nat => CE (40 * k.toNatClampNeg + (x1.toInt + 2 * (q8 : Int) + 0).toNat)) (fun q8 : Nat => CE (40 * k.toNatClampNeg + (x1.toInt + 2 * (q8 : Int) + 1).toNat)) (tpK (E k.toNatClampNeg) lane (Z k.toNatClampNeg).toInt x1.toInt n.toNatClampNeg) O else O) := by
  split
  · rename_i c
    intro i hi
    rw [rdF_cg (o := f3) (rdAc h (ck4 c.1) 0 (Or.inl rfl)) (rdAc h (ck4 c.1) 1 (Or.inr rfl))]
    exact rdF_pt (ho i hi)
  · exact ho
theorem SO.rd {N B : Nat} {k lane x1 n : Int32} {E Z CE fc st st' O : Nat → Int32} (h : CEr Z fc CE) (ho : SO 38 st O) (hu : ∀ x9 : Nat, x9 < 10 → st' (38 + x9) = (if ((0 ≤ k.toInt ∧ k.toInt < 4) ∧ (0 ≤ lane.toInt ∧ lane.toInt ≤ 2) ∧ 0 ≤ n.toInt ∧ n.toInt ≤ 20) then rdF N B (fun q8 : Nat => fc (40 * k.toNatClampNeg + (x1.toInt + 2 * (q8 : Int) + 0).toNat)) (fun q8 : Nat => fc (40 * k.toNatClampNeg + (x1.toInt + 2 * (q8 : Int) + 1).toNat)) (tpK (lmap E k.toNatClampNeg) lane (Z k.toNatClampNeg).toInt x1.toInt n.toNatClampNeg) (fun i9 => st (38 + i9)) else (fun i9 => st (38 + i9))) x9) : SO 38 st' (if ((0 ≤ k.toInt ∧ k.toInt < 4) ∧ (0 ≤ lane.toInt ∧ lane.toInt ≤ 2) ∧ 0 ≤ n.toInt ∧ n.toInt ≤ 20) then rdF N B (fun q8 : Nat => CE (40 * k.toNatClampNeg + (x1.toInt + 2 * (q8 : Int) + 0).toNat)) (fun q8 : Nat => CE (40 * k.toNatClampNeg + (x1.toInt + 2 * (q8 : Int) + 1).toNat)) (tpK (E k.toNatClampNeg) lane (Z k.toNatClampNeg).toInt x1.toInt n.toNatClampNeg) O else O) := by
  intro i hi
  rw [hu i hi]
  split
  · rename_i c
    rw [tpK_lm c.2.1.1, rdF_cg (rdAr h (ck4 c.1) 0 (Or.inl rfl)) (rdAr h (ck4 c.1) 1 (Or.inr rfl))]
    exact rdF_pt (ho i hi)
  · exact ho i hi
-- the cells of the sheets
theorem CEc.sh {k lane n : Int32} {Z CE : Nat → Int32} {F : Nat → Nat → Int32} (h : CEc Z F CE) (hz : ∀ q : Nat, q < 4 → 0 ≤ (Z q).toInt ∧ (Z q).toInt ≤ 40) : CEc (if ((0 ≤ k.toInt ∧ k.toInt < 4) ∧ (0 ≤ lane.toInt ∧ lane.toInt ≤ 2) ∧ n.toInt ≤ 40 ∧ 0 ≤ n.toInt) then upd Z k.toNatClampNeg n else Z) (if ((0 ≤ k.toInt ∧ k.toInt < 4) ∧ (0 ≤ lane.toInt ∧ lane.toInt ≤ 2) ∧ n.toInt ≤ 40 ∧ 0 ≤ n.toInt) then va_up F k.toNatClampNeg (zpF n.toNatClampNeg (F k.toNatClampNeg)) else F) (if ((0 ≤ k.toInt ∧ k.toInt < 4) ∧ (0 ≤ lane.toInt ∧ lane.toInt ≤ 2) ∧ n.toInt ≤ 40 ∧ 0 ≤ n.toInt) then zpg k.toNatClampNeg 40 CE else CE) := by
  by_cases c : ((0 ≤ k.toInt ∧ k.toInt < 4) ∧ (0 ≤ lane.toInt ∧ lane.toInt ≤ 2) ∧ n.toInt ≤ 40 ∧ 0 ≤ n.toInt)
  · rw [if_pos c, if_pos c, if_pos c]
    have hk := ck4 c.1
    have en : n.toNatClampNeg = n.toInt.toNat := rfl
    generalize k.toNatClampNeg = j at hk ⊢
    intro k' i h1 h2
    by_cases e : k' = j
    · subst e
      have h3 : (i : Int) < n.toInt := by
        have h3 : (i : Int) < (if k' = k' then n else Z k').toInt := h2
        rw [if_pos rfl] at h3
        exact h3
      show (if k' = k' then zpF n.toNatClampNeg (F k') else F k') i = (if 40 * k' ≤ 40 * k' + i ∧ 40 * k' + i < 40 * k' + 40 then 0 else CE (40 * k' + i))
      rw [if_pos rfl, if_pos (by omega)]
      show (if i < n.toNatClampNeg then 0 else F k' i) = 0
      rw [if_pos (by omega)]
    · have h3 : (i : Int) < (Z k').toInt := by
        have h3 : (i : Int) < (if k' = j then n else Z k').toInt := h2
        rw [if_neg e] at h3
        exact h3
      have hb := hz k' h1
      show (if k' = j then zpF n.toNatClampNeg (F j) else F k') i = (if 40 * j ≤ 40 * k' + i ∧ 40 * k' + i < 40 * j + 40 then 0 else CE (40 * k' + i))
      rw [if_neg e, if_neg (by omega)]
      exact h k' i h1 h3
  · rw [if_neg c, if_neg c, if_neg c]
    exact h
theorem CEr.sh {k lane n : Int32} {Z fc CE : Nat → Int32} (h : CEr Z fc CE) (hz : ∀ q : Nat, q < 4 → 0 ≤ (Z q).toInt ∧ (Z q).toInt ≤ 40) : CEr (if ((0 ≤ k.toInt ∧ k.toInt < 4) ∧ (0 ≤ lane.toInt ∧ lane.toInt ≤ 2) ∧ n.toInt ≤ 40 ∧ 0 ≤ n.toInt) then upd Z k.toNatClampNeg n else Z) (if ((0 ≤ k.toInt ∧ k.toInt < 4) ∧ (0 ≤ lane.toInt ∧ lane.toInt ≤ 2) ∧ n.toInt ≤ 40 ∧ 0 ≤ n.toInt) then zpg k.toNatClampNeg 40 fc else fc) (if ((0 ≤ k.toInt ∧ k.toInt < 4) ∧ (0 ≤ lane.toInt ∧ lane.toInt ≤ 2) ∧ n.toInt ≤ 40 ∧ 0 ≤ n.toInt) then zpg k.toNatClampNeg 40 CE else CE) := by
  by_cases c : ((0 ≤ k.toInt ∧ k.toInt < 4) ∧ (0 ≤ lane.toInt ∧ lane.toInt ≤ 2) ∧ n.toInt ≤ 40 ∧ 0 ≤ n.toInt)
  · rw [if_pos c, if_pos c, if_pos c]
    have hk := ck4 c.1
    have hn := c.2.2.1
    generalize k.toNatClampNeg = j at hk ⊢
    intro k' i h1 h2
    show (if 40 * j ≤ 40 * k' + i ∧ 40 * k' + i < 40 * j + 40 then 0 else fc (40 * k' + i)) = (if 40 * j ≤ 40 * k' + i ∧ 40 * k' + i < 40 * j + 40 then 0 else CE (40 * k' + i))
    by_cases e : k' = j
    · subst e
      have h3 : (i : Int) < n.toInt := by
        have h3 : (i : Int) < (if k' = k' then n else Z k').toInt := h2
        rw [if_pos rfl] at h3
        exact h3
      rw [if_pos (by omega), if_pos (by omega)]
    · have h3 : (i : Int) < (Z k').toInt := by
        have h3 : (i : Int) < (if k' = j then n else Z k').toInt := h2
        rw [if_neg e] at h3
        exact h3
      rw [h k' i h1 h3]
  · rw [if_neg c, if_neg c, if_neg c]
    exact h
theorem CEc.ly {k i v : Int32} {E Z CE : Nat → Int32} {F : Nat → Nat → Int32} (h : CEc Z F CE) (hz : ∀ q : Nat, q < 4 → 0 ≤ (Z q).toInt ∧ (Z q).toInt ≤ 40) : CEc Z (if ((0 ≤ k.toInt ∧ k.toInt < 4) ∧ ¬ E k.toNatClampNeg = -1 ∧ 0 ≤ i.toInt ∧ i.toInt < (Z k.toNatClampNeg).toInt) then va_up F k.toNatClampNeg (upd (F k.toNatClampNeg) i.toNatClampNeg (nrw (E k.toNatClampNeg) v)) else F) (if ((0 ≤ k.toInt ∧ k.toInt < 4) ∧ ¬ E k.toNatClampNeg = -1 ∧ 0 ≤ i.toInt ∧ i.toInt < (Z k.toNatClampNeg).toInt) then upd CE (40 * k.toNatClampNeg + i.toNatClampNeg) (nrw (E k.toNatClampNeg) v) else CE) := by
  by_cases c : ((0 ≤ k.toInt ∧ k.toInt < 4) ∧ ¬ E k.toNatClampNeg = -1 ∧ 0 ≤ i.toInt ∧ i.toInt < (Z k.toNatClampNeg).toInt)
  · rw [if_pos c, if_pos c]
    have hk := ck4 c.1
    have hi := c.2.2
    have ei : i.toNatClampNeg = i.toInt.toNat := rfl
    generalize k.toNatClampNeg = j at hk hi ⊢
    have hj := hz j hk
    intro k' q h1 h2
    have hb := hz k' h1
    show (if k' = j then upd (F j) i.toNatClampNeg (nrw (E j) v) else F k') q = (if 40 * k' + q = 40 * j + i.toNatClampNeg then nrw (E j) v else CE (40 * k' + q))
    by_cases e : k' = j
    · subst e
      rw [if_pos rfl]
      show (if q = i.toNatClampNeg then nrw (E k') v else F k' q) = _
      by_cases d : q = i.toNatClampNeg
      · rw [if_pos d, if_pos (by omega)]
      · rw [if_neg d, if_neg (by omega)]; exact h k' q h1 h2
    · rw [if_neg e, if_neg (by omega)]; exact h k' q h1 h2
  · rw [if_neg c, if_neg c]
    exact h
theorem lm_iff {E : Nat → Int32} {j : Nat} (h : ∀ q : Nat, q < 4 → E q = -1 ∨ (0 ≤ (E q).toInt ∧ (E q).toInt ≤ 2)) (hj : j < 4) : lmap E j = -4 ↔ E j = -1 := by
  constructor
  · intro q
    rcases h j hj with a | a
    · exact a
    · exfalso
      have q' : (if E j = -1 then (-4 : Int32) else E j) = -4 := q
      split at q'
      · rename_i b; rw [b] at a; exact absurd a.1 (by decide)
      · rw [q'] at a; exact absurd a.1 (by decide)
  · intro q
    show (if E j = -1 then (-4 : Int32) else E j) = -4
    rw [if_pos q]
theorem CEr.ly {k i v : Int32} {E Z fc CE : Nat → Int32} (hE : ∀ q : Nat, q < 4 → E q = -1 ∨ (0 ≤ (E q).toInt ∧ (E q).toInt ≤ 2)) (h : CEr Z fc CE) (hz : ∀ q : Nat, q < 4 → 0 ≤ (Z q).toInt ∧ (Z q).toInt ≤ 40) : CEr Z (if ((0 ≤ k.toInt ∧ k.toInt < 4) ∧ ¬ lmap E k.toNatClampNeg = -4 ∧ 0 ≤ i.toInt ∧ i.toInt < (Z k.toNatClampNeg).toInt) then upd fc (40 * k.toNatClampNeg + i.toNatClampNeg) (nrR (lmap E k.toNatClampNeg) v) else fc) (if ((0 ≤ k.toInt ∧ k.toInt < 4) ∧ ¬ E k.toNatClampNeg = -1 ∧ 0 ≤ i.toInt ∧ i.toInt < (Z k.toNatClampNeg).toInt) then upd CE (40 * k.toNatClampNeg + i.toNatClampNeg) (nrw (E k.toNatClampNeg) v) else CE) := by
  by_cases c : ((0 ≤ k.toInt ∧ k.toInt < 4) ∧ ¬ E k.toNatClampNeg = -1 ∧ 0 ≤ i.toInt ∧ i.toInt < (Z k.toNatClampNeg).toInt)
  · have hk := ck4 c.1
    have hi := c.2.2
    rw [if_pos c, if_pos ⟨c.1, fun q => c.2.1 ((lm_iff hE hk).mp q), c.2.2⟩]
    have el : lmap E k.toNatClampNeg = E k.toNatClampNeg := if_neg c.2.1
    rw [el, ← nrw_R]
    have ei : i.toNatClampNeg = i.toInt.toNat := rfl
    generalize k.toNatClampNeg = j at hk hi ⊢
    have hj := hz j hk
    intro k' q h1 h2
    have hb := hz k' h1
    show (if 40 * k' + q = 40 * j + i.toNatClampNeg then nrw (E j) v else fc (40 * k' + q)) = (if 40 * k' + q = 40 * j + i.toNatClampNeg then nrw (E j) v else CE (40 * k' + q))
    rw [h k' q h1 h2]
  · rw [if_neg c, if_neg (fun q => c ⟨q.1, fun z => q.2.1 ((lm_iff hE (ck4 q.1)).mpr z), q.2.2⟩)]
    exact h
-- answers
theorem pu_c {i k : Int32} {N B : Nat} {f3 O : Nat → Int32} (ho : OR f3 O) (hN : N ≤ 10) : (if ((0 ≤ i.toInt ∧ i.toInt < ((N : Nat) : Int)) ∧ (0 ≤ k.toInt ∧ k.toInt < ((B : Nat) : Int))) then f3 i.toNatClampNeg else -1) = (if ((0 ≤ i.toInt ∧ i.toInt < ((N : Nat) : Int)) ∧ (0 ≤ k.toInt ∧ k.toInt < ((B : Nat) : Int))) then O i.toNatClampNeg else -1) := cr_get (fun c => (ho _ (by have := ck_lt c.1; omega)).symm)
theorem pu_r {i k : Int32} {N B : Nat} {st O : Nat → Int32} (ho : SO 38 st O) (hN : N ≤ 10) : (if ((0 ≤ i.toInt ∧ i.toInt < ((N : Nat) : Int)) ∧ (0 ≤ k.toInt ∧ k.toInt < ((B : Nat) : Int))) then st (38 + i.toNatClampNeg) else -1) = (if ((0 ≤ i.toInt ∧ i.toInt < ((N : Nat) : Int)) ∧ (0 ≤ k.toInt ∧ k.toInt < ((B : Nat) : Int))) then O i.toNatClampNeg else -1) := cr_get (fun c => ho _ (by have := ck_lt c.1; omega))
theorem sdN_c {N B D : Nat} {f1 f2 f4 f5 f6 W : Nat → Int32} (h : CR N B (nI D) f1 f2 f4 f5 f6 W) (hD : D ≤ 9) : sdN W = D := by
  unfold sdN
  rw [h.1, Int32.sub_add_cancel, nI_clamp (by omega)]
theorem sdN_r {N B : Nat} {st W : Nat → Int32} (h : SR 0 N B st W) : sdN st = sdN W := by
  unfold sdN
  rw [h.g (Or.inl rfl)]
/-- the order is of bearers that there are -/
def VO (N B : Nat) (O : Nat → Int32) : Prop := ∀ i : Nat, i < N → 0 ≤ (O i).toInt ∧ (O i).toInt < ((B : Nat) : Int)
def XV (N B : Nat) (K O0 O1 O2 : Nat → Int32) : Prop := VO N B O0 ∧ (K 0 = 0 ∨ VO N B O1) ∧ (K 1 = 0 ∨ VO N B O2)
def OV (xb : Int32) (g : Nat → Int32) : Prop := ∀ i : Nat, i < 10 → g i = 0 ∨ (0 ≤ (g i).toInt ∧ (g i).toInt ≤ xb.toInt)
theorem tNN_in {f : Nat → Int32} {T : Nat} {lo hi : Int32} {c : CS5} (h : ¬ (tNN f T lo hi c).1 = 0) : lo.toInt ≤ (cVL f T (tNN f T lo hi c).2).toInt ∧ (cVL f T (tNN f T lo hi c).2).toInt ≤ hi.toInt := by
  have e : tNN f T lo hi c = (if tNG f T c = 0 then (0, tNT f T c) else if (tNT f T c).2.2.1 = 2 then (if cVL f T (tNT f T c) < lo then (0, cRF 3 (tNT f T c)) else if cVL f T (tNT f T c) ≤ hi then (1, tNT f T c) else (0, cRF 3 (tNT f T c))) else (0, cRF 2 (tNT f T c))) := rfl
  rw [e] at h ⊢
  by_cases a : tNG f T c = 0
  · rw [if_pos a] at h; exact absurd rfl h
  rw [if_neg a] at h ⊢
  by_cases b : (tNT f T c).2.2.1 = 2
  · rw [if_pos b] at h ⊢
    by_cases d : cVL f T (tNT f T c) < lo
    · rw [if_pos d] at h; exact absurd rfl h
    rw [if_neg d] at h ⊢
    by_cases g : cVL f T (tNT f T c) ≤ hi
    · rw [if_pos g]
      have d' : ¬ (cVL f T (tNT f T c)).toInt < lo.toInt := fun q => d (Int32.lt_iff_toInt_lt.mpr q)
      have g' := Int32.le_iff_toInt_le.mp g
      exact ⟨by show lo.toInt ≤ (cVL f T (tNT f T c)).toInt; omega, g'⟩
    · rw [if_neg g] at h; exact absurd rfl h
  · rw [if_neg b] at h; exact absurd rfl h
theorem mx_ge (x y : Int32) : x.toInt ≤ (mx x y).toInt ∧ y.toInt ≤ (mx x y).toInt := by
  unfold mx
  split <;> omega
theorem OV.up {xb b : Int32} {g : Nat → Int32} {k : Nat} (h : OV xb g) (hb : 0 ≤ b.toInt) : OV (mx xb b) (upd g k b) := by
  have m := mx_ge xb b
  intro i hi
  show (if i = k then b else g i) = 0 ∨ (0 ≤ (if i = k then b else g i).toInt ∧ (if i = k then b else g i).toInt ≤ (mx xb b).toInt)
  split
  · exact Or.inr ⟨hb, m.2⟩
  · rcases h i hi with a | a
    · exact Or.inl a
    · exact Or.inr ⟨a.1, by omega⟩
theorem cCR_OV {f : Nat → Int32} {T : Nat} {c : CS5} {ca xs xb : Int32} {g3 : Nat → Int32} (h : OV xb g3) : OV (cCR f T c ca xs xb g3).2.2.2.2.1 (cCR f T c ca xs xb g3).2.2.2.2.2 := by
  unfold cCR
  by_cases a : (tNN f T 0 9 c).1 = 0
  · rw [if_pos a]; exact h
  rw [if_neg a]
  by_cases b : (ca >>> (cVL f T (tNN f T 0 9 c).2 &&& 31)) &&& 1 = 1
  · rw [if_pos b]; exact h
  rw [if_neg b]
  by_cases d : (tNN f T 0 5 (tNN f T 0 9 c).2).1 = 0
  · rw [if_pos d]; exact h
  rw [if_neg d]
  have z : (0 : Int32).toInt = 0 := by decide
  have t := (tNN_in d).1
  exact h.up (by omega)
theorem cLN_OV {f : Nat → Int32} {T : Nat} {c : CS5} {st ca xs xb : Int32} {N B D : Nat} {g1 g2 g3 g4 g5 g6 : Nat → Int32} (h : OV xb g3) : OV (cLN f T c st ca xs xb N B D g1 g2 g3 g4 g5 g6).2.2.2.2.2.1 (cLN f T c st ca xs xb N B D g1 g2 g3 g4 g5 g6).2.2.2.2.2.2.2.2.2.2.2.1 := by
  unfold cLN
  by_cases i0 : cIN f c 0 = 0
  · rw [if_pos i0]
    by_cases i1 : cIN f c 1 = 0
    · rw [if_pos i1]
      by_cases i2 : cIN f c 2 = 0
      · rw [if_pos i2]
        by_cases i9 : cIN f c 9 = 0
        · rw [if_pos i9]; exact h
        · rw [if_neg i9]; exact cCR_OV h
      · rw [if_neg i2]; exact h
    · rw [if_neg i1]; exact h
  · rw [if_neg i0]; exact h
def OVq (q : CW) : Prop := OV q.2.2.2.2.1 q.2.2.2.2.2.2.2.2.2.2.1
theorem cLP_OV {f : Nat → Int32} {T : Nat} : ∀ (k : Nat) (q : CW) (n : Int32), OVq q → OVq (cLP f T k q n).1 := by
  intro k
  induction k with
  | zero => intro q n h; exact h
  | succ k ih =>
    intro q n h
    have hl : OVq (cLNq f T q).2 := cLN_OV h
    show OVq (if q.1.1 = 0 then (if q.1.2.2.1 = 0 then (q, n) else if (cLNq f T q).1 = 0 then cLP f T k (cLNq f T q).2 n else cLP f T k (cNTq f T (cLNq f T q).2) (n + 1)) else (q, n)).1
    by_cases a : q.1.1 = 0
    · rw [if_pos a]
      by_cases b : q.1.2.2.1 = 0
      · rw [if_pos b]; exact h
      rw [if_neg b]
      by_cases d : (cLNq f T q).1 = 0
      · rw [if_pos d]; exact ih _ _ hl
      · rw [if_neg d]
        have hl' : OVq (cNTq f T (cLNq f T q).2) := hl
        exact ih _ _ hl'
    · rw [if_neg a]; exact h
theorem cFN_ok {T : Nat} {q : CW} (h : (cFN T q).1 = 0) : q.2.2.2.2.1.toInt < ((q.2.2.2.2.2.2.1 : Nat) : Int) ∧ (0 < q.2.2.2.2.2.1 → ¬ q.2.2.2.2.2.2.1 = 0) := by
  unfold cFN at h
  by_cases a : q.1.1 = 0
  · rw [if_pos a] at h
    unfold cLB at h
    have bad : ∀ k : Int32, (cRT k T q.1).1 = k := fun k => if_pos a
    by_cases b : q.2.2.2.1.toInt < ((q.2.2.2.2.2.1 : Nat) : Int)
    · rw [if_pos b] at h
      by_cases c : q.2.2.2.2.1.toInt < ((q.2.2.2.2.2.2.1 : Nat) : Int)
      · rw [if_pos c] at h
        refine ⟨c, fun d e => ?_⟩
        rw [if_pos d, if_pos e, bad] at h
        exact absurd h (by decide)
      · rw [if_neg c, bad] at h
        exact absurd h (by decide)
    · rw [if_neg b, bad] at h
      exact absurd h (by decide)
  · rw [if_neg a] at h
    exact absurd h a
theorem tx_VO {f : Nat → Int32} {T : Nat} (h3 : T ≤ 320) (hF : ¬ 0 < (txF f T).toInt) : VO (TQ f T).1.2.1 (TQ f T).1.2.2.1 (fun i => (TQ f T).1.2.2.2.2.2.2.2 (38 + i)) := by
  have hO : OVq (cRA f T 0 (fun _ => 0) (fun _ => 0) (fun _ => 0) (fun _ => 0) (fun _ => 0) (fun _ => 0)).1 := cLP_OV _ _ _ (fun i hi => Or.inl (if_pos hi))
  have ts := text_sim (f := f) h3 0 (fun _ => 0) (fun _ => 0) (fun _ => 0) (fun _ => 0) (fun _ => 0) (fun _ => 0) 0 0 0 0 (fun _ => 0)
  unfold txF TQ at hF
  unfold TQ
  generalize cRA f T 0 (fun _ => 0) (fun _ => 0) (fun _ => 0) (fun _ => 0) (fun _ => 0) (fun _ => 0) = Q at hO ts
  generalize txQ f T 0 0 0 0 (fun _ => 0) = X at ts hF ⊢
  rcases ts with ⟨p, q, _, w, _⟩ | g
  · obtain ⟨⟨w1, w2, w3, w4, w5, w6⟩, w7, w8, w9, w10, w11⟩ := w
    have k := cFN_ok p
    intro i hi
    rw [← w5] at hi
    rw [← w6]
    have h10 : i < 10 := Nat.lt_of_lt_of_le hi w7.1
    show 0 ≤ (X.1.2.2.2.2.2.2.2 (38 + i)).toInt ∧ (X.1.2.2.2.2.2.2.2 (38 + i)).toInt < _
    rw [w10 i h10]
    have k2 : ¬ Q.1.2.2.2.2.2.2.1 = 0 := k.2 (by omega)
    rcases hO i h10 with a | a
    · have z : (0 : Int32).toInt = 0 := by decide
      rw [a, z]
      exact ⟨Int.le_refl 0, by omega⟩
    · exact ⟨a.1, by have k1 := k.1; have a2 := a.2; omega⟩
  · exact absurd g.pos hF
theorem tx_V {f : Nat → Int32} {T N B : Nat} {K O0 O1 O2 : Nat → Int32} (h3 : T ≤ 320) (h : XV N B K O0 O1 O2) : XV (txN f T N) (txB f T B) (txK f T K) (txO f T O0) O1 O2 := by
  unfold txN txB txK txO
  by_cases c : 0 < (txF f T).toInt
  · rw [if_pos c, if_pos c, if_pos c, if_pos c]; exact h
  · rw [if_neg c, if_neg c, if_neg c, if_neg c]
    exact ⟨tx_VO h3 c, Or.inl rfl, Or.inl rfl⟩
theorem pt_V {N B : Nat} {i k : Int32} {K O0 O1 O2 : Nat → Int32} (h : XV N B K O0 O1 O2) : XV N B K (if ((0 ≤ i.toInt ∧ i.toInt < ((N : Nat) : Int)) ∧ (0 ≤ k.toInt ∧ k.toInt < ((B : Nat) : Int))) then upd O0 i.toNatClampNeg k else O0) O1 O2 := by
  refine ⟨?_, h.2⟩
  split
  · rename_i c
    intro q hq
    show 0 ≤ (if q = i.toNatClampNeg then k else O0 q).toInt ∧ (if q = i.toNatClampNeg then k else O0 q).toInt < _
    split
    · exact c.2
    · exact h.1 q hq
  · exact h.1
theorem kp_V {N B : Nat} {k : Int32} {K O0 O1 O2 : Nat → Int32} (h : XV N B K O0 O1 O2) : XV N B (if (0 ≤ k.toInt ∧ k.toInt < 2) then upd K k.toNatClampNeg 1 else K) O0 (if k = 0 then O0 else O1) (if k = 1 then O0 else O2) := by
  by_cases c : 0 ≤ k.toInt ∧ k.toInt < 2
  · rw [if_pos c]
    rcases k01 c with e | e
    · subst e
      rw [if_pos rfl, if_neg (by decide)]
      exact ⟨h.1, Or.inr h.1, h.2.2⟩
    · subst e
      rw [if_neg (by decide), if_pos rfl]
      exact ⟨h.1, h.2.1, Or.inr h.1⟩
  · rw [if_neg c, if_neg (fun e => c (by rw [e]; decide)), if_neg (fun e => c (by rw [e]; decide))]
    exact h
theorem bk_V {N B : Nat} {k : Int32} {K O0 O1 O2 : Nat → Int32} (h : XV N B K O0 O1 O2) : XV N B K (bkW k K O0 O1 O2) O1 O2 := by
  refine ⟨?_, h.2⟩
  unfold bkW
  by_cases c : k = 0 ∧ ¬ K 0 = 0
  · rw [if_pos c]; exact h.2.1.resolve_left c.2
  rw [if_neg c]
  by_cases d : k = 1 ∧ ¬ K 1 = 0
  · rw [if_pos d]; exact h.2.2.resolve_left d.2
  rw [if_neg d]
  exact h.1
theorem rdO_V {N B : Nat} {a b o : Nat → Int32} (ho : VO N B o) : ∀ m : Nat, (∀ q : Nat, q < m → (0 ≤ (b q).toInt ∧ (b q).toInt < ((B : Nat) : Int))) → VO N B (rdO a b o m) := by
  intro m
  induction m with
  | zero => intro _; exact ho
  | succ m ih =>
    intro h i hi
    show 0 ≤ (if i = (a m).toNatClampNeg then b m else rdO a b o m i).toInt ∧ (if i = (a m).toNatClampNeg then b m else rdO a b o m i).toInt < _
    split
    · exact h m (by omega)
    · exact ih (fun q hq => h q (by omega)) i hi
theorem rdI_all {N B : Nat} {a b : Nat → Int32} : ∀ (n s : Nat), ¬ rdI N B a b n s < s + n → ∀ q : Nat, s ≤ q → q < s + n → (0 ≤ (b q).toInt ∧ (b q).toInt < ((B : Nat) : Int)) := by
  intro n
  induction n with
  | zero => intro s _ q h1 h2; exact absurd h2 (by omega)
  | succ n ih =>
    intro s h q h1 h2
    have h' : ¬ (if (0 ≤ (a s).toInt ∧ (a s).toInt < ((N : Nat) : Int)) ∧ (0 ≤ (b s).toInt ∧ (b s).toInt < ((B : Nat) : Int)) then rdI N B a b n (s + 1) else s) < s + (n + 1) := h
    by_cases c : (0 ≤ (a s).toInt ∧ (a s).toInt < ((N : Nat) : Int)) ∧ (0 ≤ (b s).toInt ∧ (b s).toInt < ((B : Nat) : Int))
    · rw [if_pos c] at h'
      by_cases e : q = s
      · rw [e]; exact c.2
      · exact ih (s + 1) (by omega) q (by omega) (by omega)
    · rw [if_neg c] at h'
      exact absurd (show s < s + (n + 1) by omega) h'
theorem rdF_V {N B m : Nat} {a b o : Nat → Int32} (ho : VO N B o) : VO N B (rdF N B a b m o) := by
  unfold rdF
  split
  · exact ho
  · rename_i c
    exact rdO_V ho m (fun q hq => rdI_all m 0 (by rw [Nat.zero_add]; exact c) q (Nat.zero_le q) (by omega))
theorem rd_V {N B m : Nat} {C : Prop} [Decidable C] {a b K O0 O1 O2 : Nat → Int32} (h : XV N B K O0 O1 O2) : XV N B K (if C then rdF N B a b m O0 else O0) O1 O2 := by
  refine ⟨?_, h.2⟩
  split
  · exact rdF_V h.1
  · exact h.1
-- harm in the order
def haO (N B : Nat) (W O : Nat → Int32) (j : Nat) : Int32 := haW N B W (nI j) (if j = 0 then -4 else O (j - 1)) (O j)
theorem haO_c {N B j : Nat} {d : Int32} {f1 f2 f3 f4 f5 f6 W O : Nat → Int32} (h : CR N B d f1 f2 f4 f5 f6 W) (ho : OR f3 O) (hv : VO N B O) (hN : N ≤ 10) (hB : B ≤ 6) (hj : j < N) : hmO N B f1 f2 f3 f4 f5 f6 (nI j) = haO N B W O j := by
  have tj : (nI j).toInt = (j : Int) := nI_toInt (by omega)
  unfold hmO haO
  rw [if_pos (by omega), nI_clamp (by omega), ← ho j (by omega)]
  have e1 : (if nI j = 0 then (-4 : Int32) else f3 (j - 1)) = (if j = 0 then -4 else O (j - 1)) := by
    by_cases c : j = 0
    · subst c; rw [if_pos (show nI 0 = (0 : Int32) from rfl), if_pos rfl]
    · rw [if_neg (fun e => c (by have t := congrArg Int32.toInt e; have z : (0 : Int32).toInt = 0 := by decide
                                 omega)), if_neg c, ho (j - 1) (by omega)]
  rw [e1]
  have m4 : (-4 : Int32).toInt = -4 := by decide
  have cg : (if j = 0 then (-4 : Int32) else O (j - 1)).toInt = -4 ∨ (0 ≤ (if j = 0 then (-4 : Int32) else O (j - 1)).toInt ∧ (if j = 0 then (-4 : Int32) else O (j - 1)).toInt < ((B : Nat) : Int)) := by
    by_cases c : j = 0
    · rw [if_pos c]; exact Or.inl m4
    · rw [if_neg c]; exact Or.inr (hv (j - 1) (by omega))
  have hh := ha_c (i := nI j) (g := if j = 0 then -4 else O (j - 1)) (k := O j) h hB
  rw [if_pos ⟨⟨by omega, by omega⟩, cg, hv j hj⟩] at hh
  exact hh
theorem haO_r {N B j : Nat} {st W O : Nat → Int32} (h : SR 0 N B st W) (ho : SO 38 st O) (hv : VO N B O) (hN : N ≤ 10) (hB : B ≤ 6) (hj : j < N) : rhO st j 0 = haO N B W O j := by
  have tj : (nI j).toInt = (j : Int) := nI_toInt (by omega)
  have m4 : (-4 : Int32).toInt = -4 := by decide
  have hb := hv j hj
  have eb : st (38 + j) = O j := ho j (by omega)
  unfold rhO haO
  rw [eb]
  by_cases c : j = 0
  · rw [if_pos c, if_pos c]
    have hh := ha_r (i := nI j) (g := -4) (k := O j) h
    rw [if_pos ⟨⟨by omega, by omega⟩, Or.inl m4, hb⟩, if_pos rfl, nI_clamp (by omega)] at hh
    exact hh
  · have ha := hv (j - 1) (by omega)
    have ea : st (38 + j - 1) = O (j - 1) := by rw [show 38 + j - 1 = 38 + (j - 1) by omega]; exact ho (j - 1) (by omega)
    rw [if_neg c, if_neg c, ea]
    have hh := ha_r (i := nI j) (g := O (j - 1)) (k := O j) h
    rw [if_pos ⟨⟨by omega, by omega⟩, Or.inr ha, hb⟩, if_neg (fun e => by rw [e] at ha; omega), nI_clamp (by omega)] at hh
    exact hh
theorem cy_c {sd what : Int32} {N B D : Nat} {f1 f2 f3 f4 f5 f6 W O : Nat → Int32} (h : CR N B (nI D) f1 f2 f4 f5 f6 W) (ho : OR f3 O) (hv : VO N B O) (hN : N ≤ 10) (hB : B ≤ 6) (hD : 1 ≤ D ∧ D ≤ 9) : (if (0 ≤ what.toInt ∧ what.toInt ≤ 2) then crA what (crR (fun j9 => hmO N B f1 f2 f3 f4 f5 f6 (nI j9)) sd D N) else -1) = (if (0 ≤ what.toInt ∧ what.toInt ≤ 2) then crA what (crR (haO N B W O) sd (sdN W) N) else -1) :=
  cr_get (fun _ => by rw [sdN_c h hD.2, crR_cg N (fun j hj => haO_c h ho hv hN hB hj)])
theorem cy_r {sd what : Int32} {N B : Nat} {st W O : Nat → Int32} (h : SR 0 N B st W) (ho : SO 38 st O) (hv : VO N B O) (hN : N ≤ 10) (hB : B ≤ 6) : (if (0 ≤ what.toInt ∧ what.toInt ≤ 2) then crA what (crR (fun j9 => rhO st j9 0) sd (sdN st) N) else -1) = (if (0 ≤ what.toInt ∧ what.toInt ≤ 2) then crA what (crR (haO N B W O) sd (sdN W) N) else -1) :=
  cr_get (fun _ => by rw [sdN_r h, crR_cg N (fun j hj => haO_r h ho hv hN hB hj)])
def nzW (x : Int32) (W : Nat → Int32) : Nat → Int32 := fun q => if (q < 20 ∧ q % 2 = 0) ∧ ((x >>> (nI (q / 2) &&& 31)) &&& 1) = 1 then 0 else W q
theorem nzW_n {x : Int32} {W : Nat → Int32} {q : Nat} (h : ¬ (q < 20 ∧ q % 2 = 0)) : nzW x W q = W q := if_neg (fun z => h z.1)
theorem nzW_e {x : Int32} {W : Nat → Int32} {i : Nat} (h : i < 10) : nzW x W (2 * i) = if ((x >>> (nI i &&& 31)) &&& 1) = 1 then 0 else W (2 * i) := by
  unfold nzW
  rw [show 2 * i / 2 = i by omega]
  by_cases c : ((x >>> (nI i &&& 31)) &&& 1) = 1
  · rw [if_pos c, if_pos ⟨by omega, c⟩]
  · rw [if_neg c, if_neg (fun z => c z.2)]
theorem CR.nz {N B : Nat} {d x : Int32} {f1 f2 f4 f5 f6 W : Nat → Int32} (h : CR N B d f1 f2 f4 f5 f6 W) (hN : N ≤ 10) : CR N B d (nzS x f1) f2 f4 f5 f6 (nzW x W) := by
  refine ⟨(nzW_n (by omega)).trans h.1, fun i hi => ⟨?_, (nzW_n (by omega)).trans (h.2.1 i hi).2⟩, fun i hi => ⟨(nzW_n (by omega)).trans (h.2.2 i hi).1, (nzW_n (by omega)).trans (h.2.2 i hi).2.1, (nzW_n (by omega)).trans (h.2.2 i hi).2.2⟩⟩
  rw [nzW_e (by omega), (h.2.1 i hi).1]
  rfl
def X10Pr (dC : Nat → ClassId) (dI : Nat → Nat → Nat) (G : Nat → ClassId) (ax : Nat → Nat) (fa : Int32) (H : Heap) : Prop := ∃ (zi0_13 : Int32), (va_at (dC, dI) vwCl (ax 0, .inr (10, [.ref (ax 1), .ref (ax 11), .ref (ax 18), .ref (ax 25), .ref (ax 40), .ref (ax 41), .ref (ax 44), .ref (ax 68), .ref (ax 69), .ref (ax 74), .ref (ax 77), .ref (ax 102), .int fa, .int zi0_13])) H)
theorem X10Pr.kept {dC : Nat → ClassId} {dI : Nat → Nat → Nat} {G : Nat → ClassId} {ax : Nat → Nat} {fa : Int32} {H H1 : Heap} (hk : ∀ j : Nat, 0 ≤ j → j < 1 → ax j < H.size → H1[ax j]? = H[ax j]?) (h : X10Pr dC dI G ax fa H) : X10Pr dC dI G ax fa H1 := by
  unfold X10Pr at h ⊢
  obtain ⟨zi0_13, q0⟩ := h
  exact ⟨zi0_13, q0.kept (hk 0 (by decide) (by decide) q0.lt)⟩
def X10P0 (dC : Nat → ClassId) (dI : Nat → Nat → Nat) (G : Nat → ClassId) (ax : Nat → Nat) (H : Heap) : Prop := ∃ (zi1_2 : Int32) (zi1_3 : Int32) (zi1_4 : Int32) (zi1_5 : Int32) (zi1_6 : Int32) (zi1_7 : Int32) (zi1_8 : Int32) (zi1_9 : Int32) (zi1_10 : Int32) (zi1_11 : Int32), (va_at (dC, dI) vwCl (ax 1, .inr (5, [.ref (ax 2), .ref (ax 4), .int zi1_2, .int zi1_3, .int zi1_4, .int zi1_5, .int zi1_6, .int zi1_7, .int zi1_8, .int zi1_9, .int zi1_10, .int zi1_11])) H)
theorem X10P0.kept {dC : Nat → ClassId} {dI : Nat → Nat → Nat} {G : Nat → ClassId} {ax : Nat → Nat} {H H1 : Heap} (hk : ∀ j : Nat, 1 ≤ j → j < 2 → ax j < H.size → H1[ax j]? = H[ax j]?) (h : X10P0 dC dI G ax H) : X10P0 dC dI G ax H1 := by
  unfold X10P0 at h ⊢
  obtain ⟨zi1_2, zi1_3, zi1_4, zi1_5, zi1_6, zi1_7, zi1_8, zi1_9, zi1_10, zi1_11, q1⟩ := h
  exact ⟨zi1_2, zi1_3, zi1_4, zi1_5, zi1_6, zi1_7, zi1_8, zi1_9, zi1_10, zi1_11, q1.kept (hk 1 (by decide) (by decide) q1.lt)⟩
def X10P0_0 (dC : Nat → ClassId) (dI : Nat → Nat → Nat) (G : Nat → ClassId) (ax : Nat → Nat) (T : Nat) (Y : Nat → Int32) (H : Heap) : Prop := (T ≤ 320) ∧ (va_at (dC, dI) vwCl (ax 2, .inr (7, [.int (nI T), .ref (ax 3)])) H) ∧ (va_at (dC, dI) vwCl (ax 3, .inl (G 0, 320, .inl Y)) H)
theorem X10P0_0.kept {dC : Nat → ClassId} {dI : Nat → Nat → Nat} {G : Nat → ClassId} {ax : Nat → Nat} {T : Nat} {Y : Nat → Int32} {H H1 : Heap} (hk : ∀ j : Nat, 2 ≤ j → j < 4 → ax j < H.size → H1[ax j]? = H[ax j]?) (h : X10P0_0 dC dI G ax T Y H) : X10P0_0 dC dI G ax T Y H1 := by
  unfold X10P0_0 at h ⊢
  obtain ⟨j0, q2, q3⟩ := h
  exact ⟨j0, q2.kept (hk 2 (by decide) (by decide) q2.lt), q3.kept (hk 3 (by decide) (by decide) q3.lt)⟩
def X10P0_1 (dC : Nat → ClassId) (dI : Nat → Nat → Nat) (G : Nat → ClassId) (ax : Nat → Nat) (H : Heap) : Prop := ∃ (zn4_0 : Nat) (zn4_1 : Nat) (zn4_2 : Nat) (zf5 : Nat → Int32) (zf6 : Nat → Int32) (zf7 : Nat → Int32) (zf8 : Nat → Int32) (zf9 : Nat → Int32) (zf10 : Nat → Int32), (zn4_0 ≤ 10) ∧ (zn4_1 ≤ 6) ∧ (1 ≤ zn4_2 ∧ zn4_2 ≤ 9) ∧ (va_at (dC, dI) vwCl (ax 4, .inr (9, [.int (nI zn4_0), .int (nI zn4_1), .int (nI zn4_2), .ref (ax 5), .ref (ax 6), .ref (ax 7), .ref (ax 8), .ref (ax 9), .ref (ax 10)])) H) ∧ (va_at (dC, dI) vwCl (ax 5, .inl (G 0, 10, .inl zf5)) H) ∧ (va_at (dC, dI) vwCl (ax 6, .inl (G 0, 10, .inl zf6)) H) ∧ (va_at (dC, dI) vwCl (ax 7, .inl (G 0, 10, .inl zf7)) H) ∧ (va_at (dC, dI) vwCl (ax 8, .inl (G 0, 6, .inl zf8)) H) ∧ (va_at (dC, dI) vwCl (ax 9, .inl (G 0, 6, .inl zf9)) H) ∧ (va_at (dC, dI) vwCl (ax 10, .inl (G 0, 6, .inl zf10)) H)
theorem X10P0_1.kept {dC : Nat → ClassId} {dI : Nat → Nat → Nat} {G : Nat → ClassId} {ax : Nat → Nat} {H H1 : Heap} (hk : ∀ j : Nat, 4 ≤ j → j < 11 → ax j < H.size → H1[ax j]? = H[ax j]?) (h : X10P0_1 dC dI G ax H) : X10P0_1 dC dI G ax H1 := by
  unfold X10P0_1 at h ⊢
  obtain ⟨zn4_0, zn4_1, zn4_2, zf5, zf6, zf7, zf8, zf9, zf10, j0, j1, j2, q4, q5, q6, q7, q8, q9, q10⟩ := h
  exact ⟨zn4_0, zn4_1, zn4_2, zf5, zf6, zf7, zf8, zf9, zf10, j0, j1, j2, q4.kept (hk 4 (by decide) (by decide) q4.lt), q5.kept (hk 5 (by decide) (by decide) q5.lt), q6.kept (hk 6 (by decide) (by decide) q6.lt), q7.kept (hk 7 (by decide) (by decide) q7.lt), q8.kept (hk 8 (by decide) (by decide) q8.lt), q9.kept (hk 9 (by decide) (by decide) q9.lt), q10.kept (hk 10 (by decide) (by decide) q10.lt)⟩
def X10P1 (dC : Nat → ClassId) (dI : Nat → Nat → Nat) (G : Nat → ClassId) (ax : Nat → Nat) (W0 : Nat → Int32) (N : Nat) (B : Nat) (O0 : Nat → Int32) (H : Heap) : Prop := ∃ (zn11_2 : Nat) (zf12 : Nat → Int32) (zf13 : Nat → Int32) (zf14 : Nat → Int32) (zf15 : Nat → Int32) (zf16 : Nat → Int32) (zf17 : Nat → Int32), (CR N B (nI zn11_2) zf12 zf13 zf15 zf16 zf17 W0) ∧ (OR zf14 O0) ∧ (N ≤ 10) ∧ (B ≤ 6) ∧ (1 ≤ zn11_2 ∧ zn11_2 ≤ 9) ∧ (va_at (dC, dI) vwCl (ax 11, .inr (9, [.int (nI N), .int (nI B), .int (nI zn11_2), .ref (ax 12), .ref (ax 13), .ref (ax 14), .ref (ax 15), .ref (ax 16), .ref (ax 17)])) H) ∧ (va_at (dC, dI) vwCl (ax 12, .inl (G 0, 10, .inl zf12)) H) ∧ (va_at (dC, dI) vwCl (ax 13, .inl (G 0, 10, .inl zf13)) H) ∧ (va_at (dC, dI) vwCl (ax 14, .inl (G 0, 10, .inl zf14)) H) ∧ (va_at (dC, dI) vwCl (ax 15, .inl (G 0, 6, .inl zf15)) H) ∧ (va_at (dC, dI) vwCl (ax 16, .inl (G 0, 6, .inl zf16)) H) ∧ (va_at (dC, dI) vwCl (ax 17, .inl (G 0, 6, .inl zf17)) H)
theorem X10P1.kept {dC : Nat → ClassId} {dI : Nat → Nat → Nat} {G : Nat → ClassId} {ax : Nat → Nat} {W0 : Nat → Int32} {N : Nat} {B : Nat} {O0 : Nat → Int32} {H H1 : Heap} (hk : ∀ j : Nat, 11 ≤ j → j < 18 → ax j < H.size → H1[ax j]? = H[ax j]?) (h : X10P1 dC dI G ax W0 N B O0 H) : X10P1 dC dI G ax W0 N B O0 H1 := by
  unfold X10P1 at h ⊢
  obtain ⟨zn11_2, zf12, zf13, zf14, zf15, zf16, zf17, j0, j1, j2, j3, j4, q11, q12, q13, q14, q15, q16, q17⟩ := h
  exact ⟨zn11_2, zf12, zf13, zf14, zf15, zf16, zf17, j0, j1, j2, j3, j4, q11.kept (hk 11 (by decide) (by decide) q11.lt), q12.kept (hk 12 (by decide) (by decide) q12.lt), q13.kept (hk 13 (by decide) (by decide) q13.lt), q14.kept (hk 14 (by decide) (by decide) q14.lt), q15.kept (hk 15 (by decide) (by decide) q15.lt), q16.kept (hk 16 (by decide) (by decide) q16.lt), q17.kept (hk 17 (by decide) (by decide) q17.lt)⟩
def X10P2 (dC : Nat → ClassId) (dI : Nat → Nat → Nat) (G : Nat → ClassId) (ax : Nat → Nat) (H : Heap) : Prop := ∃ (zn18_0 : Nat) (zn18_1 : Nat) (zn18_2 : Nat) (zf19 : Nat → Int32) (zf20 : Nat → Int32) (zf21 : Nat → Int32) (zf22 : Nat → Int32) (zf23 : Nat → Int32) (zf24 : Nat → Int32), (zn18_0 ≤ 10) ∧ (zn18_1 ≤ 6) ∧ (1 ≤ zn18_2 ∧ zn18_2 ≤ 9) ∧ (va_at (dC, dI) vwCl (ax 18, .inr (9, [.int (nI zn18_0), .int (nI zn18_1), .int (nI zn18_2), .ref (ax 19), .ref (ax 20), .ref (ax 21), .ref (ax 22), .ref (ax 23), .ref (ax 24)])) H) ∧ (va_at (dC, dI) vwCl (ax 19, .inl (G 0, 10, .inl zf19)) H) ∧ (va_at (dC, dI) vwCl (ax 20, .inl (G 0, 10, .inl zf20)) H) ∧ (va_at (dC, dI) vwCl (ax 21, .inl (G 0, 10, .inl zf21)) H) ∧ (va_at (dC, dI) vwCl (ax 22, .inl (G 0, 6, .inl zf22)) H) ∧ (va_at (dC, dI) vwCl (ax 23, .inl (G 0, 6, .inl zf23)) H) ∧ (va_at (dC, dI) vwCl (ax 24, .inl (G 0, 6, .inl zf24)) H)
theorem X10P2.kept {dC : Nat → ClassId} {dI : Nat → Nat → Nat} {G : Nat → ClassId} {ax : Nat → Nat} {H H1 : Heap} (hk : ∀ j : Nat, 18 ≤ j → j < 25 → ax j < H.size → H1[ax j]? = H[ax j]?) (h : X10P2 dC dI G ax H) : X10P2 dC dI G ax H1 := by
  unfold X10P2 at h ⊢
  obtain ⟨zn18_0, zn18_1, zn18_2, zf19, zf20, zf21, zf22, zf23, zf24, j0, j1, j2, q18, q19, q20, q21, q22, q23, q24⟩ := h
  exact ⟨zn18_0, zn18_1, zn18_2, zf19, zf20, zf21, zf22, zf23, zf24, j0, j1, j2, q18.kept (hk 18 (by decide) (by decide) q18.lt), q19.kept (hk 19 (by decide) (by decide) q19.lt), q20.kept (hk 20 (by decide) (by decide) q20.lt), q21.kept (hk 21 (by decide) (by decide) q21.lt), q22.kept (hk 22 (by decide) (by decide) q22.lt), q23.kept (hk 23 (by decide) (by decide) q23.lt), q24.kept (hk 24 (by decide) (by decide) q24.lt)⟩
def X10P3 (dC : Nat → ClassId) (dI : Nat → Nat → Nat) (G : Nat → ClassId) (ax : Nat → Nat) (H : Heap) : Prop := (va_at (dC, dI) vwCl (ax 25, .inl (G 3, 2, .inr (.inr (.inr (.inr (va_up (va_up (fun _ => none) 0 (some (ax 26))) 1 (some (ax 33)))))))) H)
theorem X10P3.kept {dC : Nat → ClassId} {dI : Nat → Nat → Nat} {G : Nat → ClassId} {ax : Nat → Nat} {H H1 : Heap} (hk : ∀ j : Nat, 25 ≤ j → j < 26 → ax j < H.size → H1[ax j]? = H[ax j]?) (h : X10P3 dC dI G ax H) : X10P3 dC dI G ax H1 := by
  unfold X10P3 at h ⊢
  have q25 := h
  exact q25.kept (hk 25 (by decide) (by decide) q25.lt)
def X10P3_0 (dC : Nat → ClassId) (dI : Nat → Nat → Nat) (G : Nat → ClassId) (ax : Nat → Nat) (W1 : Nat → Int32) (N1 : Nat) (B1 : Nat) (O1 : Nat → Int32) (H : Heap) : Prop := ∃ (zn26_2 : Nat) (zf27 : Nat → Int32) (zf28 : Nat → Int32) (zf29 : Nat → Int32) (zf30 : Nat → Int32) (zf31 : Nat → Int32) (zf32 : Nat → Int32), (CR N1 B1 (nI zn26_2) zf27 zf28 zf30 zf31 zf32 W1) ∧ (OR zf29 O1) ∧ (N1 ≤ 10) ∧ (B1 ≤ 6) ∧ (1 ≤ zn26_2 ∧ zn26_2 ≤ 9) ∧ (va_at (dC, dI) vwCl (ax 26, .inr (9, [.int (nI N1), .int (nI B1), .int (nI zn26_2), .ref (ax 27), .ref (ax 28), .ref (ax 29), .ref (ax 30), .ref (ax 31), .ref (ax 32)])) H) ∧ (va_at (dC, dI) vwCl (ax 27, .inl (G 0, 10, .inl zf27)) H) ∧ (va_at (dC, dI) vwCl (ax 28, .inl (G 0, 10, .inl zf28)) H) ∧ (va_at (dC, dI) vwCl (ax 29, .inl (G 0, 10, .inl zf29)) H) ∧ (va_at (dC, dI) vwCl (ax 30, .inl (G 0, 6, .inl zf30)) H) ∧ (va_at (dC, dI) vwCl (ax 31, .inl (G 0, 6, .inl zf31)) H) ∧ (va_at (dC, dI) vwCl (ax 32, .inl (G 0, 6, .inl zf32)) H)
theorem X10P3_0.kept {dC : Nat → ClassId} {dI : Nat → Nat → Nat} {G : Nat → ClassId} {ax : Nat → Nat} {W1 : Nat → Int32} {N1 : Nat} {B1 : Nat} {O1 : Nat → Int32} {H H1 : Heap} (hk : ∀ j : Nat, 26 ≤ j → j < 33 → ax j < H.size → H1[ax j]? = H[ax j]?) (h : X10P3_0 dC dI G ax W1 N1 B1 O1 H) : X10P3_0 dC dI G ax W1 N1 B1 O1 H1 := by
  unfold X10P3_0 at h ⊢
  obtain ⟨zn26_2, zf27, zf28, zf29, zf30, zf31, zf32, j0, j1, j2, j3, j4, q26, q27, q28, q29, q30, q31, q32⟩ := h
  exact ⟨zn26_2, zf27, zf28, zf29, zf30, zf31, zf32, j0, j1, j2, j3, j4, q26.kept (hk 26 (by decide) (by decide) q26.lt), q27.kept (hk 27 (by decide) (by decide) q27.lt), q28.kept (hk 28 (by decide) (by decide) q28.lt), q29.kept (hk 29 (by decide) (by decide) q29.lt), q30.kept (hk 30 (by decide) (by decide) q30.lt), q31.kept (hk 31 (by decide) (by decide) q31.lt), q32.kept (hk 32 (by decide) (by decide) q32.lt)⟩
def X10P3_1 (dC : Nat → ClassId) (dI : Nat → Nat → Nat) (G : Nat → ClassId) (ax : Nat → Nat) (W2 : Nat → Int32) (N2 : Nat) (B2 : Nat) (O2 : Nat → Int32) (H : Heap) : Prop := ∃ (zn33_2 : Nat) (zf34 : Nat → Int32) (zf35 : Nat → Int32) (zf36 : Nat → Int32) (zf37 : Nat → Int32) (zf38 : Nat → Int32) (zf39 : Nat → Int32), (CR N2 B2 (nI zn33_2) zf34 zf35 zf37 zf38 zf39 W2) ∧ (OR zf36 O2) ∧ (N2 ≤ 10) ∧ (B2 ≤ 6) ∧ (1 ≤ zn33_2 ∧ zn33_2 ≤ 9) ∧ (va_at (dC, dI) vwCl (ax 33, .inr (9, [.int (nI N2), .int (nI B2), .int (nI zn33_2), .ref (ax 34), .ref (ax 35), .ref (ax 36), .ref (ax 37), .ref (ax 38), .ref (ax 39)])) H) ∧ (va_at (dC, dI) vwCl (ax 34, .inl (G 0, 10, .inl zf34)) H) ∧ (va_at (dC, dI) vwCl (ax 35, .inl (G 0, 10, .inl zf35)) H) ∧ (va_at (dC, dI) vwCl (ax 36, .inl (G 0, 10, .inl zf36)) H) ∧ (va_at (dC, dI) vwCl (ax 37, .inl (G 0, 6, .inl zf37)) H) ∧ (va_at (dC, dI) vwCl (ax 38, .inl (G 0, 6, .inl zf38)) H) ∧ (va_at (dC, dI) vwCl (ax 39, .inl (G 0, 6, .inl zf39)) H)
theorem X10P3_1.kept {dC : Nat → ClassId} {dI : Nat → Nat → Nat} {G : Nat → ClassId} {ax : Nat → Nat} {W2 : Nat → Int32} {N2 : Nat} {B2 : Nat} {O2 : Nat → Int32} {H H1 : Heap} (hk : ∀ j : Nat, 33 ≤ j → j < 40 → ax j < H.size → H1[ax j]? = H[ax j]?) (h : X10P3_1 dC dI G ax W2 N2 B2 O2 H) : X10P3_1 dC dI G ax W2 N2 B2 O2 H1 := by
  unfold X10P3_1 at h ⊢
  obtain ⟨zn33_2, zf34, zf35, zf36, zf37, zf38, zf39, j0, j1, j2, j3, j4, q33, q34, q35, q36, q37, q38, q39⟩ := h
  exact ⟨zn33_2, zf34, zf35, zf36, zf37, zf38, zf39, j0, j1, j2, j3, j4, q33.kept (hk 33 (by decide) (by decide) q33.lt), q34.kept (hk 34 (by decide) (by decide) q34.lt), q35.kept (hk 35 (by decide) (by decide) q35.lt), q36.kept (hk 36 (by decide) (by decide) q36.lt), q37.kept (hk 37 (by decide) (by decide) q37.lt), q38.kept (hk 38 (by decide) (by decide) q38.lt), q39.kept (hk 39 (by decide) (by decide) q39.lt)⟩
def X10P4 (dC : Nat → ClassId) (dI : Nat → Nat → Nat) (G : Nat → ClassId) (ax : Nat → Nat) (K : Nat → Int32) (H : Heap) : Prop := (va_at (dC, dI) vwCl (ax 40, .inl (G 2, 2, .inl K)) H)
theorem X10P4.kept {dC : Nat → ClassId} {dI : Nat → Nat → Nat} {G : Nat → ClassId} {ax : Nat → Nat} {K : Nat → Int32} {H H1 : Heap} (hk : ∀ j : Nat, 40 ≤ j → j < 41 → ax j < H.size → H1[ax j]? = H[ax j]?) (h : X10P4 dC dI G ax K H) : X10P4 dC dI G ax K H1 := by
  unfold X10P4 at h ⊢
  have q40 := h
  exact q40.kept (hk 40 (by decide) (by decide) q40.lt)
def X10P5 (dC : Nat → ClassId) (dI : Nat → Nat → Nat) (G : Nat → ClassId) (ax : Nat → Nat) (H : Heap) : Prop := ∃ (zl41_0 : Int64) (zf42 : Nat → Int64) (zf43 : Nat → Int64), (va_at (dC, dI) vwCl (ax 41, .inr (4, [.long zl41_0, .ref (ax 42), .ref (ax 43)])) H) ∧ (va_at (dC, dI) vwCl (ax 42, .inl (G 1, 10, .inr (.inl zf42))) H) ∧ (va_at (dC, dI) vwCl (ax 43, .inl (G 1, 10, .inr (.inl zf43))) H)
theorem X10P5.kept {dC : Nat → ClassId} {dI : Nat → Nat → Nat} {G : Nat → ClassId} {ax : Nat → Nat} {H H1 : Heap} (hk : ∀ j : Nat, 41 ≤ j → j < 44 → ax j < H.size → H1[ax j]? = H[ax j]?) (h : X10P5 dC dI G ax H) : X10P5 dC dI G ax H1 := by
  unfold X10P5 at h ⊢
  obtain ⟨zl41_0, zf42, zf43, q41, q42, q43⟩ := h
  exact ⟨zl41_0, zf42, zf43, q41.kept (hk 41 (by decide) (by decide) q41.lt), q42.kept (hk 42 (by decide) (by decide) q42.lt), q43.kept (hk 43 (by decide) (by decide) q43.lt)⟩
def X10P6 (dC : Nat → ClassId) (dI : Nat → Nat → Nat) (G : Nat → ClassId) (ax : Nat → Nat) (H : Heap) : Prop := ∃ (zl44_0 : Int64) (zF47 : Nat → Nat → Int64) (zF58 : Nat → Nat → Int32), (va_at (dC, dI) vwCl (ax 44, .inr (0, [.long zl44_0, .ref (ax 45), .ref (ax 46)])) H) ∧ (va_at (dC, dI) vwCl (ax 45, .inl (G 5, 11, .inr (.inr (.inr (.inr (fun ir => if ir < 11 then some (ax (47 + ir)) else none)))))) H) ∧ (va_at (dC, dI) vwCl (ax 46, .inl (G 4, 10, .inr (.inr (.inr (.inr (fun ir => if ir < 10 then some (ax (58 + ir)) else none)))))) H) ∧ (va_P (dC, dI) vwCl (((List.range 11).map (fun iq => (ax (47 + iq), .inl (G 1, 70, .inr (.inl (zF47 iq)))))) : va_W) H) ∧ (va_P (dC, dI) vwCl (((List.range 10).map (fun iq => (ax (58 + iq), .inl (G 0, 70, .inl (zF58 iq))))) : va_W) H)
theorem X10P6.kept {dC : Nat → ClassId} {dI : Nat → Nat → Nat} {G : Nat → ClassId} {ax : Nat → Nat} {H H1 : Heap} (hk : ∀ j : Nat, 44 ≤ j → j < 68 → ax j < H.size → H1[ax j]? = H[ax j]?) (h : X10P6 dC dI G ax H) : X10P6 dC dI G ax H1 := by
  unfold X10P6 at h ⊢
  obtain ⟨zl44_0, zF47, zF58, q44, q45, q46, q47, q58⟩ := h
  exact ⟨zl44_0, zF47, zF58, q44.kept (hk 44 (by decide) (by decide) q44.lt), q45.kept (hk 45 (by decide) (by decide) q45.lt), q46.kept (hk 46 (by decide) (by decide) q46.lt), blk_kept q47 (fun i h1 h2 => hk (47 + i) (by omega) (by omega) h2), blk_kept q58 (fun i h1 h2 => hk (58 + i) (by omega) (by omega) h2)⟩
def X10P7 (dC : Nat → ClassId) (dI : Nat → Nat → Nat) (G : Nat → ClassId) (ax : Nat → Nat) (H : Heap) : Prop := ∃ (zi68_0 : Int32) (zi68_1 : Int32) (zi68_2 : Int32), (va_at (dC, dI) vwCl (ax 68, .inr (1, [.int zi68_0, .int zi68_1, .int zi68_2])) H)
theorem X10P7.kept {dC : Nat → ClassId} {dI : Nat → Nat → Nat} {G : Nat → ClassId} {ax : Nat → Nat} {H H1 : Heap} (hk : ∀ j : Nat, 68 ≤ j → j < 69 → ax j < H.size → H1[ax j]? = H[ax j]?) (h : X10P7 dC dI G ax H) : X10P7 dC dI G ax H1 := by
  unfold X10P7 at h ⊢
  obtain ⟨zi68_0, zi68_1, zi68_2, q68⟩ := h
  exact ⟨zi68_0, zi68_1, zi68_2, q68.kept (hk 68 (by decide) (by decide) q68.lt)⟩
def X10P8 (dC : Nat → ClassId) (dI : Nat → Nat → Nat) (G : Nat → ClassId) (ax : Nat → Nat) (S : Nat) (H : Heap) : Prop := ∃ (zf70 : Nat → Int32) (zf71 : Nat → Int32) (zf72 : Nat → Int32) (zf73 : Nat → Int32), (S ≤ 8) ∧ (va_at (dC, dI) vwCl (ax 69, .inr (2, [.int (nI S), .ref (ax 70), .ref (ax 71), .ref (ax 72), .ref (ax 73)])) H) ∧ (va_at (dC, dI) vwCl (ax 70, .inl (G 0, 8, .inl zf70)) H) ∧ (va_at (dC, dI) vwCl (ax 71, .inl (G 0, 8, .inl zf71)) H) ∧ (va_at (dC, dI) vwCl (ax 72, .inl (G 0, 8, .inl zf72)) H) ∧ (va_at (dC, dI) vwCl (ax 73, .inl (G 0, 8, .inl zf73)) H)
theorem X10P8.kept {dC : Nat → ClassId} {dI : Nat → Nat → Nat} {G : Nat → ClassId} {ax : Nat → Nat} {S : Nat} {H H1 : Heap} (hk : ∀ j : Nat, 69 ≤ j → j < 74 → ax j < H.size → H1[ax j]? = H[ax j]?) (h : X10P8 dC dI G ax S H) : X10P8 dC dI G ax S H1 := by
  unfold X10P8 at h ⊢
  obtain ⟨zf70, zf71, zf72, zf73, j0, q69, q70, q71, q72, q73⟩ := h
  exact ⟨zf70, zf71, zf72, zf73, j0, q69.kept (hk 69 (by decide) (by decide) q69.lt), q70.kept (hk 70 (by decide) (by decide) q70.lt), q71.kept (hk 71 (by decide) (by decide) q71.lt), q72.kept (hk 72 (by decide) (by decide) q72.lt), q73.kept (hk 73 (by decide) (by decide) q73.lt)⟩
def X10P9 (dC : Nat → ClassId) (dI : Nat → Nat → Nat) (G : Nat → ClassId) (ax : Nat → Nat) (M : Nat) (H : Heap) : Prop := ∃ (zf75 : Nat → Int32) (zf76 : Nat → Int32), (M ≤ 6) ∧ (va_at (dC, dI) vwCl (ax 74, .inr (3, [.int (nI M), .ref (ax 75), .ref (ax 76)])) H) ∧ (va_at (dC, dI) vwCl (ax 75, .inl (G 0, 6, .inl zf75)) H) ∧ (va_at (dC, dI) vwCl (ax 76, .inl (G 0, 6, .inl zf76)) H)
theorem X10P9.kept {dC : Nat → ClassId} {dI : Nat → Nat → Nat} {G : Nat → ClassId} {ax : Nat → Nat} {M : Nat} {H H1 : Heap} (hk : ∀ j : Nat, 74 ≤ j → j < 77 → ax j < H.size → H1[ax j]? = H[ax j]?) (h : X10P9 dC dI G ax M H) : X10P9 dC dI G ax M H1 := by
  unfold X10P9 at h ⊢
  obtain ⟨zf75, zf76, j0, q74, q75, q76⟩ := h
  exact ⟨zf75, zf76, j0, q74.kept (hk 74 (by decide) (by decide) q74.lt), q75.kept (hk 75 (by decide) (by decide) q75.lt), q76.kept (hk 76 (by decide) (by decide) q76.lt)⟩
def X10P10 (dC : Nat → ClassId) (dI : Nat → Nat → Nat) (G : Nat → ClassId) (ax : Nat → Nat) (H : Heap) : Prop := ∃ (zi77_0 : Int32) (zF80 : Nat → Nat → Int32) (zF91 : Nat → Nat → Int32), (va_at (dC, dI) vwCl (ax 77, .inr (8, [.int zi77_0, .ref (ax 78), .ref (ax 79)])) H) ∧ (va_at (dC, dI) vwCl (ax 78, .inl (G 4, 11, .inr (.inr (.inr (.inr (fun ir => if ir < 11 then some (ax (80 + ir)) else none)))))) H) ∧ (va_at (dC, dI) vwCl (ax 79, .inl (G 4, 11, .inr (.inr (.inr (.inr (fun ir => if ir < 11 then some (ax (91 + ir)) else none)))))) H) ∧ (va_P (dC, dI) vwCl (((List.range 11).map (fun iq => (ax (80 + iq), .inl (G 0, 10, .inl (zF80 iq))))) : va_W) H) ∧ (va_P (dC, dI) vwCl (((List.range 11).map (fun iq => (ax (91 + iq), .inl (G 0, 10, .inl (zF91 iq))))) : va_W) H)
theorem X10P10.kept {dC : Nat → ClassId} {dI : Nat → Nat → Nat} {G : Nat → ClassId} {ax : Nat → Nat} {H H1 : Heap} (hk : ∀ j : Nat, 77 ≤ j → j < 102 → ax j < H.size → H1[ax j]? = H[ax j]?) (h : X10P10 dC dI G ax H) : X10P10 dC dI G ax H1 := by
  unfold X10P10 at h ⊢
  obtain ⟨zi77_0, zF80, zF91, q77, q78, q79, q80, q91⟩ := h
  exact ⟨zi77_0, zF80, zF91, q77.kept (hk 77 (by decide) (by decide) q77.lt), q78.kept (hk 78 (by decide) (by decide) q78.lt), q79.kept (hk 79 (by decide) (by decide) q79.lt), blk_kept q80 (fun i h1 h2 => hk (80 + i) (by omega) (by omega) h2), blk_kept q91 (fun i h1 h2 => hk (91 + i) (by omega) (by omega) h2)⟩
def X10P11 (dC : Nat → ClassId) (dI : Nat → Nat → Nat) (G : Nat → ClassId) (ax : Nat → Nat) (E : Nat → Int32) (Z : Nat → Int32) (CE : Nat → Int32) (H : Heap) : Prop := ∃ (zi102_3 : Int32) (zi102_4 : Int32) (zf106 : Nat → Int32) (zf107 : Nat → Int32) (zF108 : Nat → Nat → Int32), (CEc Z zF108 CE) ∧ (∀ q : Nat, q < 4 → E q = -1 ∨ (0 ≤ (E q).toInt ∧ (E q).toInt ≤ 2)) ∧ (∀ q : Nat, q < 4 → 0 ≤ (Z q).toInt ∧ (Z q).toInt ≤ 40) ∧ (va_at (dC, dI) vwCl (ax 102, .inr (6, [.ref (ax 103), .ref (ax 104), .ref (ax 105), .int zi102_3, .int zi102_4, .ref (ax 106), .ref (ax 107)])) H) ∧ (va_at (dC, dI) vwCl (ax 103, .inl (G 0, 4, .inl E)) H) ∧ (va_at (dC, dI) vwCl (ax 104, .inl (G 0, 4, .inl Z)) H) ∧ (va_at (dC, dI) vwCl (ax 105, .inl (G 4, 4, .inr (.inr (.inr (.inr (fun ir => if ir < 4 then some (ax (108 + ir)) else none)))))) H) ∧ (va_at (dC, dI) vwCl (ax 106, .inl (G 0, 20, .inl zf106)) H) ∧ (va_at (dC, dI) vwCl (ax 107, .inl (G 0, 20, .inl zf107)) H) ∧ (va_P (dC, dI) vwCl (((List.range 4).map (fun iq => (ax (108 + iq), .inl (G 0, 40, .inl (zF108 iq))))) : va_W) H)
theorem X10P11.kept {dC : Nat → ClassId} {dI : Nat → Nat → Nat} {G : Nat → ClassId} {ax : Nat → Nat} {E : Nat → Int32} {Z : Nat → Int32} {CE : Nat → Int32} {H H1 : Heap} (hk : ∀ j : Nat, 102 ≤ j → j < 112 → ax j < H.size → H1[ax j]? = H[ax j]?) (h : X10P11 dC dI G ax E Z CE H) : X10P11 dC dI G ax E Z CE H1 := by
  unfold X10P11 at h ⊢
  obtain ⟨zi102_3, zi102_4, zf106, zf107, zF108, j0, j1, j2, q102, q103, q104, q105, q106, q107, q108⟩ := h
  exact ⟨zi102_3, zi102_4, zf106, zf107, zF108, j0, j1, j2, q102.kept (hk 102 (by decide) (by decide) q102.lt), q103.kept (hk 103 (by decide) (by decide) q103.lt), q104.kept (hk 104 (by decide) (by decide) q104.lt), q105.kept (hk 105 (by decide) (by decide) q105.lt), q106.kept (hk 106 (by decide) (by decide) q106.lt), q107.kept (hk 107 (by decide) (by decide) q107.lt), blk_kept q108 (fun i h1 h2 => hk (108 + i) (by omega) (by omega) h2)⟩
def X10I (dC : Nat → ClassId) (dI : Nat → Nat → Nat) (G : Nat → ClassId) (ax : Nat → Nat) (T : Nat) (Y : Nat → Int32) (fa : Int32) (W0 : Nat → Int32) (W1 : Nat → Int32) (W2 : Nat → Int32) (N : Nat) (B : Nat) (N1 : Nat) (B1 : Nat) (N2 : Nat) (B2 : Nat) (K : Nat → Int32) (S : Nat) (M : Nat) (E : Nat → Int32) (Z : Nat → Int32) (O0 : Nat → Int32) (O1 : Nat → Int32) (O2 : Nat → Int32) (CE : Nat → Int32) (H : Heap) : Prop := X10Pr dC dI G ax fa H ∧ X10P0 dC dI G ax H ∧ X10P0_0 dC dI G ax T Y H ∧ X10P0_1 dC dI G ax H ∧ X10P1 dC dI G ax W0 N B O0 H ∧ X10P2 dC dI G ax H ∧ X10P3 dC dI G ax H ∧ X10P3_0 dC dI G ax W1 N1 B1 O1 H ∧ X10P3_1 dC dI G ax W2 N2 B2 O2 H ∧ X10P4 dC dI G ax K H ∧ X10P5 dC dI G ax H ∧ X10P6 dC dI G ax H ∧ X10P7 dC dI G ax H ∧ X10P8 dC dI G ax S H ∧ X10P9 dC dI G ax M H ∧ X10P10 dC dI G ax H ∧ X10P11 dC dI G ax E Z CE H ∧ (XIN N B K N1 B1 N2 B2) ∧ XV N B K O0 O1 O2
theorem X10I.kept {dC : Nat → ClassId} {dI : Nat → Nat → Nat} {G : Nat → ClassId} {ax : Nat → Nat} {T : Nat} {Y : Nat → Int32} {fa : Int32} {W0 : Nat → Int32} {W1 : Nat → Int32} {W2 : Nat → Int32} {N : Nat} {B : Nat} {N1 : Nat} {B1 : Nat} {N2 : Nat} {B2 : Nat} {K : Nat → Int32} {S : Nat} {M : Nat} {E : Nat → Int32} {Z : Nat → Int32} {O0 : Nat → Int32} {O1 : Nat → Int32} {O2 : Nat → Int32} {CE : Nat → Int32} {H H1 : Heap} (hk : ∀ j : Nat, 0 ≤ j → j < 112 → ax j < H.size → H1[ax j]? = H[ax j]?) (h : X10I dC dI G ax T Y fa W0 W1 W2 N B N1 B1 N2 B2 K S M E Z O0 O1 O2 CE H) : X10I dC dI G ax T Y fa W0 W1 W2 N B N1 B1 N2 B2 K S M E Z O0 O1 O2 CE H1 := by
  unfold X10I at h ⊢
  obtain ⟨p0, p1, p2, p3, p4, p5, p6, p7, p8, p9, p10, p11, p12, p13, p14, p15, p16, hX⟩ := h
  exact ⟨p0.kept (fun j h1 h2 => hk j (by omega) (by omega)), p1.kept (fun j h1 h2 => hk j (by omega) (by omega)), p2.kept (fun j h1 h2 => hk j (by omega) (by omega)), p3.kept (fun j h1 h2 => hk j (by omega) (by omega)), p4.kept (fun j h1 h2 => hk j (by omega) (by omega)), p5.kept (fun j h1 h2 => hk j (by omega) (by omega)), p6.kept (fun j h1 h2 => hk j (by omega) (by omega)), p7.kept (fun j h1 h2 => hk j (by omega) (by omega)), p8.kept (fun j h1 h2 => hk j (by omega) (by omega)), p9.kept (fun j h1 h2 => hk j (by omega) (by omega)), p10.kept (fun j h1 h2 => hk j (by omega) (by omega)), p11.kept (fun j h1 h2 => hk j (by omega) (by omega)), p12.kept (fun j h1 h2 => hk j (by omega) (by omega)), p13.kept (fun j h1 h2 => hk j (by omega) (by omega)), p14.kept (fun j h1 h2 => hk j (by omega) (by omega)), p15.kept (fun j h1 h2 => hk j (by omega) (by omega)), p16.kept (fun j h1 h2 => hk j (by omega) (by omega)), hX⟩
theorem X10I.recv {dC : Nat → ClassId} {dI : Nat → Nat → Nat} {G : Nat → ClassId} {ax : Nat → Nat} {T : Nat} {Y : Nat → Int32} {fa : Int32} {W0 : Nat → Int32} {W1 : Nat → Int32} {W2 : Nat → Int32} {N : Nat} {B : Nat} {N1 : Nat} {B1 : Nat} {N2 : Nat} {B2 : Nat} {K : Nat → Int32} {S : Nat} {M : Nat} {E : Nat → Int32} {Z : Nat → Int32} {O0 : Nat → Int32} {O1 : Nat → Int32} {O2 : Nat → Int32} {CE : Nat → Int32} {H : Heap} {s : State} (hK : KK dC dI G s) (h : X10I dC dI G ax T Y fa W0 W1 W2 N B N1 B1 N2 B2 K S M E Z O0 O1 O2 CE H) : ∃ cellB : Cell, H[ax 0]? = some cellB ∧ cellB.vm.isStatics = false ∧ s.vm.findClass RX10 = some cellB.cls := by
  unfold X10I X10Pr at h
  obtain ⟨⟨zi0_13, q⟩, -⟩ := h
  exact va_recv (ci := 10) (q0 := 0) hK.1 (vpc q va_nilP) rfl rfl
def X11Pr (dC : Nat → ClassId) (dI : Nat → Nat → Nat) (G : Nat → ClassId) (ax : Nat → Nat) (T : Nat) (fa : Int32) (N : Nat) (B : Nat) (S : Nat) (M : Nat) (H : Heap) : Prop := ∃ (zi112_4 : Int32) (zi112_5 : Int32) (zi112_6 : Int32) (zi112_7 : Int32) (zi112_8 : Int32) (zi112_9 : Int32) (zi112_13 : Int32) (zi112_14 : Int32) (zi112_15 : Int32) (zn112_16 : Nat) (zi112_17 : Int32) (zi112_18 : Int32) (zi112_34 : Int32), (N ≤ 10) ∧ (B ≤ 6) ∧ (T ≤ 320) ∧ (S ≤ 8) ∧ (M ≤ 6) ∧ (N = 0 ∨ 0 < B) ∧ (zn112_16 ≤ 320) ∧ (va_at (dC, dI) vwCl (ax 112, .inr (11, [.ref (ax 113), .int (nI N), .int (nI B), .ref (ax 114), .int zi112_4, .int zi112_5, .int zi112_6, .int zi112_7, .int zi112_8, .int zi112_9, .ref (ax 115), .int (nI T), .int fa, .int zi112_13, .int zi112_14, .int zi112_15, .int (nI zn112_16), .int zi112_17, .int zi112_18, .ref (ax 116), .ref (ax 117), .ref (ax 118), .ref (ax 119), .ref (ax 120), .ref (ax 121), .int (nI S), .ref (ax 122), .int (nI M), .ref (ax 123), .ref (ax 124), .ref (ax 125), .ref (ax 126), .ref (ax 127), .ref (ax 128), .int zi112_34])) H)
theorem X11Pr.kept {dC : Nat → ClassId} {dI : Nat → Nat → Nat} {G : Nat → ClassId} {ax : Nat → Nat} {T : Nat} {fa : Int32} {N : Nat} {B : Nat} {S : Nat} {M : Nat} {H H1 : Heap} (hk : ∀ j : Nat, 112 ≤ j → j < 113 → ax j < H.size → H1[ax j]? = H[ax j]?) (h : X11Pr dC dI G ax T fa N B S M H) : X11Pr dC dI G ax T fa N B S M H1 := by
  unfold X11Pr at h ⊢
  obtain ⟨zi112_4, zi112_5, zi112_6, zi112_7, zi112_8, zi112_9, zi112_13, zi112_14, zi112_15, zn112_16, zi112_17, zi112_18, zi112_34, j0, j1, j2, j3, j4, j5, j6, q112⟩ := h
  exact ⟨zi112_4, zi112_5, zi112_6, zi112_7, zi112_8, zi112_9, zi112_13, zi112_14, zi112_15, zn112_16, zi112_17, zi112_18, zi112_34, j0, j1, j2, j3, j4, j5, j6, q112.kept (hk 112 (by decide) (by decide) q112.lt)⟩
def X11P0 (dC : Nat → ClassId) (dI : Nat → Nat → Nat) (G : Nat → ClassId) (ax : Nat → Nat) (W0 : Nat → Int32) (W1 : Nat → Int32) (W2 : Nat → Int32) (N : Nat) (B : Nat) (N1 : Nat) (B1 : Nat) (N2 : Nat) (B2 : Nat) (O0 : Nat → Int32) (O1 : Nat → Int32) (O2 : Nat → Int32) (H : Heap) : Prop := ∃ (zf113 : Nat → Int32), (N1 ≤ 10) ∧ (B1 ≤ 6) ∧ (N2 ≤ 10) ∧ (B2 ≤ 6) ∧ (SR 0 N B zf113 W0) ∧ (SR 49 N1 B1 zf113 W1) ∧ (SR 98 N2 B2 zf113 W2) ∧ (SO 38 zf113 O0) ∧ (SO 87 zf113 O1) ∧ (SO 136 zf113 O2) ∧ (OKS zf113) ∧ (va_at (dC, dI) vwCl (ax 113, .inl (G 0, 196, .inl zf113)) H)
theorem X11P0.kept {dC : Nat → ClassId} {dI : Nat → Nat → Nat} {G : Nat → ClassId} {ax : Nat → Nat} {W0 : Nat → Int32} {W1 : Nat → Int32} {W2 : Nat → Int32} {N : Nat} {B : Nat} {N1 : Nat} {B1 : Nat} {N2 : Nat} {B2 : Nat} {O0 : Nat → Int32} {O1 : Nat → Int32} {O2 : Nat → Int32} {H H1 : Heap} (hk : ∀ j : Nat, 113 ≤ j → j < 114 → ax j < H.size → H1[ax j]? = H[ax j]?) (h : X11P0 dC dI G ax W0 W1 W2 N B N1 B1 N2 B2 O0 O1 O2 H) : X11P0 dC dI G ax W0 W1 W2 N B N1 B1 N2 B2 O0 O1 O2 H1 := by
  unfold X11P0 at h ⊢
  obtain ⟨zf113, j0, j1, j2, j3, j4, j5, j6, j7, j8, j9, j10, q113⟩ := h
  exact ⟨zf113, j0, j1, j2, j3, j4, j5, j6, j7, j8, j9, j10, q113.kept (hk 113 (by decide) (by decide) q113.lt)⟩
def X11P3 (dC : Nat → ClassId) (dI : Nat → Nat → Nat) (G : Nat → ClassId) (ax : Nat → Nat) (H : Heap) : Prop := ∃ (zf114 : Nat → Int32), (va_at (dC, dI) vwCl (ax 114, .inl (G 0, 49, .inl zf114)) H)
theorem X11P3.kept {dC : Nat → ClassId} {dI : Nat → Nat → Nat} {G : Nat → ClassId} {ax : Nat → Nat} {H H1 : Heap} (hk : ∀ j : Nat, 114 ≤ j → j < 115 → ax j < H.size → H1[ax j]? = H[ax j]?) (h : X11P3 dC dI G ax H) : X11P3 dC dI G ax H1 := by
  unfold X11P3 at h ⊢
  obtain ⟨zf114, q114⟩ := h
  exact ⟨zf114, q114.kept (hk 114 (by decide) (by decide) q114.lt)⟩
def X11P10 (dC : Nat → ClassId) (dI : Nat → Nat → Nat) (G : Nat → ClassId) (ax : Nat → Nat) (Y : Nat → Int32) (H : Heap) : Prop := (∀ q : Nat, q < 320 → 0 ≤ (Y q).toInt) ∧ (va_at (dC, dI) vwCl (ax 115, .inl (G 0, 320, .inl Y)) H)
theorem X11P10.kept {dC : Nat → ClassId} {dI : Nat → Nat → Nat} {G : Nat → ClassId} {ax : Nat → Nat} {Y : Nat → Int32} {H H1 : Heap} (hk : ∀ j : Nat, 115 ≤ j → j < 116 → ax j < H.size → H1[ax j]? = H[ax j]?) (h : X11P10 dC dI G ax Y H) : X11P10 dC dI G ax Y H1 := by
  unfold X11P10 at h ⊢
  obtain ⟨j0, q115⟩ := h
  exact ⟨j0, q115.kept (hk 115 (by decide) (by decide) q115.lt)⟩
def X11P19 (dC : Nat → ClassId) (dI : Nat → Nat → Nat) (G : Nat → ClassId) (ax : Nat → Nat) (H : Heap) : Prop := ∃ (zf116 : Nat → Int32), (∀ q : Nat, q < 11 → zf116 q = nI (cutL.getD q 0)) ∧ (va_at (dC, dI) vwCl (ax 116, .inl (G 0, 11, .inl zf116)) H)
theorem X11P19.kept {dC : Nat → ClassId} {dI : Nat → Nat → Nat} {G : Nat → ClassId} {ax : Nat → Nat} {H H1 : Heap} (hk : ∀ j : Nat, 116 ≤ j → j < 117 → ax j < H.size → H1[ax j]? = H[ax j]?) (h : X11P19 dC dI G ax H) : X11P19 dC dI G ax H1 := by
  unfold X11P19 at h ⊢
  obtain ⟨zf116, j0, q116⟩ := h
  exact ⟨zf116, j0, q116.kept (hk 116 (by decide) (by decide) q116.lt)⟩
def X11P20 (dC : Nat → ClassId) (dI : Nat → Nat → Nat) (G : Nat → ClassId) (ax : Nat → Nat) (H : Heap) : Prop := ∃ (zf117 : Nat → Int32), (∀ q : Nat, q < 54 → zf117 q = letL.getD q 0) ∧ (va_at (dC, dI) vwCl (ax 117, .inl (G 0, 54, .inl zf117)) H)
theorem X11P20.kept {dC : Nat → ClassId} {dI : Nat → Nat → Nat} {G : Nat → ClassId} {ax : Nat → Nat} {H H1 : Heap} (hk : ∀ j : Nat, 117 ≤ j → j < 118 → ax j < H.size → H1[ax j]? = H[ax j]?) (h : X11P20 dC dI G ax H) : X11P20 dC dI G ax H1 := by
  unfold X11P20 at h ⊢
  obtain ⟨zf117, j0, q117⟩ := h
  exact ⟨zf117, j0, q117.kept (hk 117 (by decide) (by decide) q117.lt)⟩
def X11P21 (dC : Nat → ClassId) (dI : Nat → Nat → Nat) (G : Nat → ClassId) (ax : Nat → Nat) (H : Heap) : Prop := ∃ (zf118 : Nat → Int64), (va_at (dC, dI) vwCl (ax 118, .inl (G 1, 10, .inr (.inl zf118))) H)
theorem X11P21.kept {dC : Nat → ClassId} {dI : Nat → Nat → Nat} {G : Nat → ClassId} {ax : Nat → Nat} {H H1 : Heap} (hk : ∀ j : Nat, 118 ≤ j → j < 119 → ax j < H.size → H1[ax j]? = H[ax j]?) (h : X11P21 dC dI G ax H) : X11P21 dC dI G ax H1 := by
  unfold X11P21 at h ⊢
  obtain ⟨zf118, q118⟩ := h
  exact ⟨zf118, q118.kept (hk 118 (by decide) (by decide) q118.lt)⟩
def X11P22 (dC : Nat → ClassId) (dI : Nat → Nat → Nat) (G : Nat → ClassId) (ax : Nat → Nat) (H : Heap) : Prop := ∃ (zf119 : Nat → Int64), (va_at (dC, dI) vwCl (ax 119, .inl (G 1, 10, .inr (.inl zf119))) H)
theorem X11P22.kept {dC : Nat → ClassId} {dI : Nat → Nat → Nat} {G : Nat → ClassId} {ax : Nat → Nat} {H H1 : Heap} (hk : ∀ j : Nat, 119 ≤ j → j < 120 → ax j < H.size → H1[ax j]? = H[ax j]?) (h : X11P22 dC dI G ax H) : X11P22 dC dI G ax H1 := by
  unfold X11P22 at h ⊢
  obtain ⟨zf119, q119⟩ := h
  exact ⟨zf119, q119.kept (hk 119 (by decide) (by decide) q119.lt)⟩
def X11P23 (dC : Nat → ClassId) (dI : Nat → Nat → Nat) (G : Nat → ClassId) (ax : Nat → Nat) (H : Heap) : Prop := ∃ (zf120 : Nat → Int64), (va_at (dC, dI) vwCl (ax 120, .inl (G 1, 770, .inr (.inl zf120))) H)
theorem X11P23.kept {dC : Nat → ClassId} {dI : Nat → Nat → Nat} {G : Nat → ClassId} {ax : Nat → Nat} {H H1 : Heap} (hk : ∀ j : Nat, 120 ≤ j → j < 121 → ax j < H.size → H1[ax j]? = H[ax j]?) (h : X11P23 dC dI G ax H) : X11P23 dC dI G ax H1 := by
  unfold X11P23 at h ⊢
  obtain ⟨zf120, q120⟩ := h
  exact ⟨zf120, q120.kept (hk 120 (by decide) (by decide) q120.lt)⟩
def X11P24 (dC : Nat → ClassId) (dI : Nat → Nat → Nat) (G : Nat → ClassId) (ax : Nat → Nat) (H : Heap) : Prop := ∃ (zf121 : Nat → Int32), (OKL zf121) ∧ (va_at (dC, dI) vwCl (ax 121, .inl (G 0, 32, .inl zf121)) H)
theorem X11P24.kept {dC : Nat → ClassId} {dI : Nat → Nat → Nat} {G : Nat → ClassId} {ax : Nat → Nat} {H H1 : Heap} (hk : ∀ j : Nat, 121 ≤ j → j < 122 → ax j < H.size → H1[ax j]? = H[ax j]?) (h : X11P24 dC dI G ax H) : X11P24 dC dI G ax H1 := by
  unfold X11P24 at h ⊢
  obtain ⟨zf121, j0, q121⟩ := h
  exact ⟨zf121, j0, q121.kept (hk 121 (by decide) (by decide) q121.lt)⟩
def X11P26 (dC : Nat → ClassId) (dI : Nat → Nat → Nat) (G : Nat → ClassId) (ax : Nat → Nat) (H : Heap) : Prop := ∃ (zf122 : Nat → Int32), (va_at (dC, dI) vwCl (ax 122, .inl (G 0, 12, .inl zf122)) H)
theorem X11P26.kept {dC : Nat → ClassId} {dI : Nat → Nat → Nat} {G : Nat → ClassId} {ax : Nat → Nat} {H H1 : Heap} (hk : ∀ j : Nat, 122 ≤ j → j < 123 → ax j < H.size → H1[ax j]? = H[ax j]?) (h : X11P26 dC dI G ax H) : X11P26 dC dI G ax H1 := by
  unfold X11P26 at h ⊢
  obtain ⟨zf122, q122⟩ := h
  exact ⟨zf122, q122.kept (hk 122 (by decide) (by decide) q122.lt)⟩
def X11P28 (dC : Nat → ClassId) (dI : Nat → Nat → Nat) (G : Nat → ClassId) (ax : Nat → Nat) (H : Heap) : Prop := ∃ (zf123 : Nat → Int32), (va_at (dC, dI) vwCl (ax 123, .inl (G 0, 110, .inl zf123)) H)
theorem X11P28.kept {dC : Nat → ClassId} {dI : Nat → Nat → Nat} {G : Nat → ClassId} {ax : Nat → Nat} {H H1 : Heap} (hk : ∀ j : Nat, 123 ≤ j → j < 124 → ax j < H.size → H1[ax j]? = H[ax j]?) (h : X11P28 dC dI G ax H) : X11P28 dC dI G ax H1 := by
  unfold X11P28 at h ⊢
  obtain ⟨zf123, q123⟩ := h
  exact ⟨zf123, q123.kept (hk 123 (by decide) (by decide) q123.lt)⟩
def X11P29 (dC : Nat → ClassId) (dI : Nat → Nat → Nat) (G : Nat → ClassId) (ax : Nat → Nat) (H : Heap) : Prop := ∃ (zf124 : Nat → Int32), (va_at (dC, dI) vwCl (ax 124, .inl (G 0, 110, .inl zf124)) H)
theorem X11P29.kept {dC : Nat → ClassId} {dI : Nat → Nat → Nat} {G : Nat → ClassId} {ax : Nat → Nat} {H H1 : Heap} (hk : ∀ j : Nat, 124 ≤ j → j < 125 → ax j < H.size → H1[ax j]? = H[ax j]?) (h : X11P29 dC dI G ax H) : X11P29 dC dI G ax H1 := by
  unfold X11P29 at h ⊢
  obtain ⟨zf124, q124⟩ := h
  exact ⟨zf124, q124.kept (hk 124 (by decide) (by decide) q124.lt)⟩
def X11P30 (dC : Nat → ClassId) (dI : Nat → Nat → Nat) (G : Nat → ClassId) (ax : Nat → Nat) (K : Nat → Int32) (H : Heap) : Prop := (va_at (dC, dI) vwCl (ax 125, .inl (G 2, 2, .inl K)) H)
theorem X11P30.kept {dC : Nat → ClassId} {dI : Nat → Nat → Nat} {G : Nat → ClassId} {ax : Nat → Nat} {K : Nat → Int32} {H H1 : Heap} (hk : ∀ j : Nat, 125 ≤ j → j < 126 → ax j < H.size → H1[ax j]? = H[ax j]?) (h : X11P30 dC dI G ax K H) : X11P30 dC dI G ax K H1 := by
  unfold X11P30 at h ⊢
  have q125 := h
  exact q125.kept (hk 125 (by decide) (by decide) q125.lt)
def X11P31 (dC : Nat → ClassId) (dI : Nat → Nat → Nat) (G : Nat → ClassId) (ax : Nat → Nat) (E : Nat → Int32) (H : Heap) : Prop := (∀ q : Nat, q < 4 → E q = -1 ∨ (0 ≤ (E q).toInt ∧ (E q).toInt ≤ 2)) ∧ (va_at (dC, dI) vwCl (ax 126, .inl (G 0, 4, .inl (lmap E))) H)
theorem X11P31.kept {dC : Nat → ClassId} {dI : Nat → Nat → Nat} {G : Nat → ClassId} {ax : Nat → Nat} {E : Nat → Int32} {H H1 : Heap} (hk : ∀ j : Nat, 126 ≤ j → j < 127 → ax j < H.size → H1[ax j]? = H[ax j]?) (h : X11P31 dC dI G ax E H) : X11P31 dC dI G ax E H1 := by
  unfold X11P31 at h ⊢
  obtain ⟨j0, q126⟩ := h
  exact ⟨j0, q126.kept (hk 126 (by decide) (by decide) q126.lt)⟩
def X11P32 (dC : Nat → ClassId) (dI : Nat → Nat → Nat) (G : Nat → ClassId) (ax : Nat → Nat) (Z : Nat → Int32) (H : Heap) : Prop := (∀ q : Nat, q < 4 → 0 ≤ (Z q).toInt ∧ (Z q).toInt ≤ 40) ∧ (va_at (dC, dI) vwCl (ax 127, .inl (G 0, 4, .inl Z)) H)
theorem X11P32.kept {dC : Nat → ClassId} {dI : Nat → Nat → Nat} {G : Nat → ClassId} {ax : Nat → Nat} {Z : Nat → Int32} {H H1 : Heap} (hk : ∀ j : Nat, 127 ≤ j → j < 128 → ax j < H.size → H1[ax j]? = H[ax j]?) (h : X11P32 dC dI G ax Z H) : X11P32 dC dI G ax Z H1 := by
  unfold X11P32 at h ⊢
  obtain ⟨j0, q127⟩ := h
  exact ⟨j0, q127.kept (hk 127 (by decide) (by decide) q127.lt)⟩
def X11P33 (dC : Nat → ClassId) (dI : Nat → Nat → Nat) (G : Nat → ClassId) (ax : Nat → Nat) (Z : Nat → Int32) (CE : Nat → Int32) (H : Heap) : Prop := ∃ (zf128 : Nat → Int32), (CEr Z zf128 CE) ∧ (va_at (dC, dI) vwCl (ax 128, .inl (G 0, 160, .inl zf128)) H)
theorem X11P33.kept {dC : Nat → ClassId} {dI : Nat → Nat → Nat} {G : Nat → ClassId} {ax : Nat → Nat} {Z : Nat → Int32} {CE : Nat → Int32} {H H1 : Heap} (hk : ∀ j : Nat, 128 ≤ j → j < 129 → ax j < H.size → H1[ax j]? = H[ax j]?) (h : X11P33 dC dI G ax Z CE H) : X11P33 dC dI G ax Z CE H1 := by
  unfold X11P33 at h ⊢
  obtain ⟨zf128, j0, q128⟩ := h
  exact ⟨zf128, j0, q128.kept (hk 128 (by decide) (by decide) q128.lt)⟩
def X11I (dC : Nat → ClassId) (dI : Nat → Nat → Nat) (G : Nat → ClassId) (ax : Nat → Nat) (T : Nat) (Y : Nat → Int32) (fa : Int32) (W0 : Nat → Int32) (W1 : Nat → Int32) (W2 : Nat → Int32) (N : Nat) (B : Nat) (N1 : Nat) (B1 : Nat) (N2 : Nat) (B2 : Nat) (K : Nat → Int32) (S : Nat) (M : Nat) (E : Nat → Int32) (Z : Nat → Int32) (O0 : Nat → Int32) (O1 : Nat → Int32) (O2 : Nat → Int32) (CE : Nat → Int32) (H : Heap) : Prop := X11Pr dC dI G ax T fa N B S M H ∧ X11P0 dC dI G ax W0 W1 W2 N B N1 B1 N2 B2 O0 O1 O2 H ∧ X11P3 dC dI G ax H ∧ X11P10 dC dI G ax Y H ∧ X11P19 dC dI G ax H ∧ X11P20 dC dI G ax H ∧ X11P21 dC dI G ax H ∧ X11P22 dC dI G ax H ∧ X11P23 dC dI G ax H ∧ X11P24 dC dI G ax H ∧ X11P26 dC dI G ax H ∧ X11P28 dC dI G ax H ∧ X11P29 dC dI G ax H ∧ X11P30 dC dI G ax K H ∧ X11P31 dC dI G ax E H ∧ X11P32 dC dI G ax Z H ∧ X11P33 dC dI G ax Z CE H ∧ (XIN N B K N1 B1 N2 B2) ∧ XV N B K O0 O1 O2
theorem X11I.kept {dC : Nat → ClassId} {dI : Nat → Nat → Nat} {G : Nat → ClassId} {ax : Nat → Nat} {T : Nat} {Y : Nat → Int32} {fa : Int32} {W0 : Nat → Int32} {W1 : Nat → Int32} {W2 : Nat → Int32} {N : Nat} {B : Nat} {N1 : Nat} {B1 : Nat} {N2 : Nat} {B2 : Nat} {K : Nat → Int32} {S : Nat} {M : Nat} {E : Nat → Int32} {Z : Nat → Int32} {O0 : Nat → Int32} {O1 : Nat → Int32} {O2 : Nat → Int32} {CE : Nat → Int32} {H H1 : Heap} (hk : ∀ j : Nat, 112 ≤ j → j < 129 → ax j < H.size → H1[ax j]? = H[ax j]?) (h : X11I dC dI G ax T Y fa W0 W1 W2 N B N1 B1 N2 B2 K S M E Z O0 O1 O2 CE H) : X11I dC dI G ax T Y fa W0 W1 W2 N B N1 B1 N2 B2 K S M E Z O0 O1 O2 CE H1 := by
  unfold X11I at h ⊢
  obtain ⟨p0, p1, p2, p3, p4, p5, p6, p7, p8, p9, p10, p11, p12, p13, p14, p15, p16, hX⟩ := h
  exact ⟨p0.kept (fun j h1 h2 => hk j (by omega) (by omega)), p1.kept (fun j h1 h2 => hk j (by omega) (by omega)), p2.kept (fun j h1 h2 => hk j (by omega) (by omega)), p3.kept (fun j h1 h2 => hk j (by omega) (by omega)), p4.kept (fun j h1 h2 => hk j (by omega) (by omega)), p5.kept (fun j h1 h2 => hk j (by omega) (by omega)), p6.kept (fun j h1 h2 => hk j (by omega) (by omega)), p7.kept (fun j h1 h2 => hk j (by omega) (by omega)), p8.kept (fun j h1 h2 => hk j (by omega) (by omega)), p9.kept (fun j h1 h2 => hk j (by omega) (by omega)), p10.kept (fun j h1 h2 => hk j (by omega) (by omega)), p11.kept (fun j h1 h2 => hk j (by omega) (by omega)), p12.kept (fun j h1 h2 => hk j (by omega) (by omega)), p13.kept (fun j h1 h2 => hk j (by omega) (by omega)), p14.kept (fun j h1 h2 => hk j (by omega) (by omega)), p15.kept (fun j h1 h2 => hk j (by omega) (by omega)), p16.kept (fun j h1 h2 => hk j (by omega) (by omega)), hX⟩
theorem X11I.recv {dC : Nat → ClassId} {dI : Nat → Nat → Nat} {G : Nat → ClassId} {ax : Nat → Nat} {T : Nat} {Y : Nat → Int32} {fa : Int32} {W0 : Nat → Int32} {W1 : Nat → Int32} {W2 : Nat → Int32} {N : Nat} {B : Nat} {N1 : Nat} {B1 : Nat} {N2 : Nat} {B2 : Nat} {K : Nat → Int32} {S : Nat} {M : Nat} {E : Nat → Int32} {Z : Nat → Int32} {O0 : Nat → Int32} {O1 : Nat → Int32} {O2 : Nat → Int32} {CE : Nat → Int32} {H : Heap} {s : State} (hK : KK dC dI G s) (h : X11I dC dI G ax T Y fa W0 W1 W2 N B N1 B1 N2 B2 K S M E Z O0 O1 O2 CE H) : ∃ cellB : Cell, H[ax 112]? = some cellB ∧ cellB.vm.isStatics = false ∧ s.vm.findClass RX11 = some cellB.cls := by
  unfold X11I X11Pr at h
  obtain ⟨⟨zi112_4, zi112_5, zi112_6, zi112_7, zi112_8, zi112_9, zi112_13, zi112_14, zi112_15, zn112_16, zi112_17, zi112_18, zi112_34, j0, j1, j2, j3, j4, j5, j6, q⟩, -⟩ := h
  exact va_recv (ci := 11) (q0 := 0) hK.1 (vpc q va_nilP) rfl rfl

set_option maxHeartbeats 1000000 in
set_option maxRecDepth 100000 in
theorem k_X10_feedE (l : Launch) (dC : Nat → ClassId) (dI : Nat → Nat → Nat) (G : Nat → ClassId) (sz : Nat) (ax : Nat → Nat) (hi : adInj 129 ax) (T : Nat) (Y : Nat → Int32) (fa : Int32) (W0 : Nat → Int32) (W1 : Nat → Int32) (W2 : Nat → Int32) (N : Nat) (B : Nat) (N1 : Nat) (B1 : Nat) (N2 : Nat) (B2 : Nat) (K : Nat → Int32) (S : Nat) (M : Nat) (E : Nat → Int32) (Z : Nat → Int32) (O0 : Nat → Int32) (O1 : Nat → Int32) (O2 : Nat → Int32) (CE : Nat → Int32) (v : Int64) : Met l yX10_feed (Cond.code yX10_feed cX10_feed 3 (some .int) :: GT) ({ frames := 1, cells := 0, slots := 0, locals := 23 } : Room) (PcI [.ref (ax 0), .long v] dC dI G (X10I dC dI G ax T Y fa W0 W1 W2 N B N1 B1 N2 B2 K S M E Z O0 O1 O2 CE) sz) (va_Qi (fun (r : Int32) (_ : Unit) => r = if T + 8 ≤ 320 then nI (T + 8) else -3) (fun _ t => X10I dC dI G ax (if T + 8 ≤ 320 then T + 8 else T) (if T + 8 ≤ 320 then fdC Y T v else Y) fa W0 W1 W2 N B N1 B1 N2 B2 K S M E Z O0 O1 O2 CE t.heap) (adX 0 112 ax sz)) 0 0 (adX 0 112 ax sz) := by
  refine Met.pick (fun a st hp => ?_)
  obtain ⟨e0, hsz, hI, hK⟩ := hp
  subst hsz
  have hI0 := hI
  unfold X10I at hI
  obtain ⟨p0, p1, p2, p3, p4, p5, p6, p7, p8, p9, p10, p11, p12, p13, p14, p15, p16, hX⟩ := hI
  have hXV := hX
  have hX := hXV.1
  unfold X10Pr at p0
  obtain ⟨zi0_13, q0⟩ := p0
  unfold X10P0 at p1
  obtain ⟨zi1_2, zi1_3, zi1_4, zi1_5, zi1_6, zi1_7, zi1_8, zi1_9, zi1_10, zi1_11, q1⟩ := p1
  unfold X10P0_0 at p2
  obtain ⟨p2j0, q2, q3⟩ := p2
  refine ⟨_, _, _, c_X10_feedE l dC dI G _ (ax 0) (ax 1) (ax 11) (ax 18) (ax 25) (ax 40) (ax 41) (ax 44) (ax 68) (ax 69) (ax 74) (ax 77) (ax 102) (ax 2) (ax 4) (ax 3) T fa zi0_13 zi1_2 zi1_3 zi1_4 zi1_5 zi1_6 zi1_7 zi1_8 zi1_9 zi1_10 zi1_11 v Y (by first | with_reducible assumption | assumption), ⟨e0, rfl, (vpc q0 (vpc q1 (vpc q2 (vpc q3 va_nilP)))), hK, vD_ix hi [0, 1, 2, 3] (by rfl) (by decide) (by decide)⟩, ad_ix [0, 1, 2, 3] (by rfl) (by decide), fun o t hq => ?_⟩
  obtain ⟨⟨r, ⟨u1, u2⟩, ho, ⟨hr, hu⟩, hP1, -⟩, hF⟩ := hq
  have FR : ∀ lo hi' : Nat, hi' ≤ 129 → ([0, 1, 2, 3] : List Nat).all (fun x => decide (x < lo) || decide (hi' ≤ x)) = true → ∀ j : Nat, lo ≤ j → j < hi' → ax j < st.heap.size → t.heap[ax j]? = st.heap[ax j]? := fun lo hi' h1 h2 => fr_ix hi h1 hF.2 [0, 1, 2, 3] (by rfl) (by decide) h2
  have xT : (if T + 8 ≤ 320 then T + 8 else T) = u1 := Eq.symm (by first | exact hu | exact hu.1 | exact hu.2 | exact hu.1.1 | exact hu.1.2 | exact hu.2.1.trans (txt_cf (by first | with_reducible assumption | assumption)) | exact hu.2.1.trans (txt_rf (by first | with_reducible assumption | assumption)) | exact hu.1.1.trans lmap_step | omega)
  subst xT
  have y3 : (if T + 8 ≤ 320 then fdC Y T v else Y) = u2 := Eq.symm (by first | exact hu | exact hu.1 | exact hu.2 | exact hu.1.1 | exact hu.1.2 | exact hu.2.1.trans (txt_cf (by first | with_reducible assumption | assumption)) | exact hu.2.1.trans (txt_rf (by first | with_reducible assumption | assumption)) | exact hu.1.1.trans lmap_step | omega)
  subst y3
  have np0 : X10Pr dC dI G ax fa t.heap := ⟨zi0_13, hP1 0 _ rfl⟩
  have np1 : X10P0 dC dI G ax t.heap := ⟨zi1_2, zi1_3, zi1_4, zi1_5, zi1_6, zi1_7, zi1_8, zi1_9, zi1_10, zi1_11, hP1 1 _ rfl⟩
  have np2 : X10P0_0 dC dI G ax (if T + 8 ≤ 320 then T + 8 else T) (if T + 8 ≤ 320 then fdC Y T v else Y) t.heap := ⟨(by first | omega | exact hu | exact hu.1 | exact hu.1.1 | exact hu.1.2 | exact hu.2 | exact hu.1.1.1 | exact hu.1.1.2 | exact fd_nn (by first | with_reducible assumption | assumption) | (split at hu <;> omega) | (split <;> omega) | exact E_inv (by first | with_reducible assumption | assumption)), hP1 2 _ rfl, hP1 3 _ rfl⟩
  exact ⟨⟨r, (), ho, hr, ⟨np0, np1, np2, p3.kept (FR 4 11 (by decide) (by decide)), p4.kept (FR 11 18 (by decide) (by decide)), p5.kept (FR 18 25 (by decide) (by decide)), p6.kept (FR 25 26 (by decide) (by decide)), p7.kept (FR 26 33 (by decide) (by decide)), p8.kept (FR 33 40 (by decide) (by decide)), p9.kept (FR 40 41 (by decide) (by decide)), p10.kept (FR 41 44 (by decide) (by decide)), p11.kept (FR 44 68 (by decide) (by decide)), p12.kept (FR 68 69 (by decide) (by decide)), p13.kept (FR 69 74 (by decide) (by decide)), p14.kept (FR 74 77 (by decide) (by decide)), p15.kept (FR 77 102 (by decide) (by decide)), p16.kept (FR 102 112 (by decide) (by decide)), ⟨hX, hXV.2⟩⟩⟩, hF.wide (ad_ix [0, 1, 2, 3] (by rfl) (by decide))⟩

set_option maxHeartbeats 1000000 in
set_option maxRecDepth 100000 in
theorem k_X10_end (l : Launch) (dC : Nat → ClassId) (dI : Nat → Nat → Nat) (G : Nat → ClassId) (sz : Nat) (ax : Nat → Nat) (hi : adInj 129 ax) (T : Nat) (Y : Nat → Int32) (fa : Int32) (W0 : Nat → Int32) (W1 : Nat → Int32) (W2 : Nat → Int32) (N : Nat) (B : Nat) (N1 : Nat) (B1 : Nat) (N2 : Nat) (B2 : Nat) (K : Nat → Int32) (S : Nat) (M : Nat) (E : Nat → Int32) (Z : Nat → Int32) (O0 : Nat → Int32) (O1 : Nat → Int32) (O2 : Nat → Int32) (CE : Nat → Int32) (n : Int32) : Met l yX10_end (Cond.code yX10_end cX10_end 3 (some .int) :: GT) ({ frames := 0, cells := 0, slots := 0, locals := 0 } : Room) (PcI [.ref (ax 0), .int n] dC dI G (X10I dC dI G ax T Y fa W0 W1 W2 N B N1 B1 N2 B2 K S M E Z O0 O1 O2 CE) sz) (va_Qi (fun (r : Int32) (_ : Unit) => r = if 0 ≤ n.toInt ∧ n.toInt ≤ ((T : Nat) : Int) then nI T else -1) (fun _ t => X10I dC dI G ax (if 0 ≤ n.toInt ∧ n.toInt ≤ ((T : Nat) : Int) then n.toNatClampNeg else T) Y fa W0 W1 W2 N B N1 B1 N2 B2 K S M E Z O0 O1 O2 CE t.heap) (adX 0 112 ax sz)) 0 0 (adX 0 112 ax sz) := by
  refine Met.pick (fun a st hp => ?_)
  obtain ⟨e0, hsz, hI, hK⟩ := hp
  subst hsz
  have hI0 := hI
  unfold X10I at hI
  obtain ⟨p0, p1, p2, p3, p4, p5, p6, p7, p8, p9, p10, p11, p12, p13, p14, p15, p16, hX⟩ := hI
  have hXV := hX
  have hX := hXV.1
  unfold X10Pr at p0
  obtain ⟨zi0_13, q0⟩ := p0
  unfold X10P0 at p1
  obtain ⟨zi1_2, zi1_3, zi1_4, zi1_5, zi1_6, zi1_7, zi1_8, zi1_9, zi1_10, zi1_11, q1⟩ := p1
  unfold X10P0_0 at p2
  obtain ⟨p2j0, q2, q3⟩ := p2
  refine ⟨_, _, _, c_X10_end l dC dI G _ (ax 0) (ax 1) (ax 11) (ax 18) (ax 25) (ax 40) (ax 41) (ax 44) (ax 68) (ax 69) (ax 74) (ax 77) (ax 102) (ax 2) (ax 4) (ax 3) T fa zi0_13 n zi1_2 zi1_3 zi1_4 zi1_5 zi1_6 zi1_7 zi1_8 zi1_9 zi1_10 zi1_11 (by first | with_reducible assumption | assumption), ⟨e0, rfl, (vpc q0 (vpc q1 (vpc q2 va_nilP))), hK, vD_ix hi [0, 1, 2] (by rfl) (by decide) (by decide)⟩, ad_ix [0, 1, 2] (by rfl) (by decide), fun o t hq => ?_⟩
  obtain ⟨⟨r, u1, ho, ⟨hr, hu⟩, hP1, -⟩, hF⟩ := hq
  have FR : ∀ lo hi' : Nat, hi' ≤ 129 → ([0, 1, 2] : List Nat).all (fun x => decide (x < lo) || decide (hi' ≤ x)) = true → ∀ j : Nat, lo ≤ j → j < hi' → ax j < st.heap.size → t.heap[ax j]? = st.heap[ax j]? := fun lo hi' h1 h2 => fr_ix hi h1 hF.2 [0, 1, 2] (by rfl) (by decide) h2
  have xT : (if 0 ≤ n.toInt ∧ n.toInt ≤ ((T : Nat) : Int) then n.toNatClampNeg else T) = u1 := Eq.symm (by first | exact hu | exact hu.1 | exact hu.2 | exact hu.1.1 | exact hu.1.2 | exact hu.2.1.trans (txt_cf (by first | with_reducible assumption | assumption)) | exact hu.2.1.trans (txt_rf (by first | with_reducible assumption | assumption)) | exact hu.1.1.trans lmap_step | omega)
  subst xT
  have np0 : X10Pr dC dI G ax fa t.heap := ⟨zi0_13, hP1 0 _ rfl⟩
  have np1 : X10P0 dC dI G ax t.heap := ⟨zi1_2, zi1_3, zi1_4, zi1_5, zi1_6, zi1_7, zi1_8, zi1_9, zi1_10, zi1_11, hP1 1 _ rfl⟩
  have np2 : X10P0_0 dC dI G ax (if 0 ≤ n.toInt ∧ n.toInt ≤ ((T : Nat) : Int) then n.toNatClampNeg else T) Y t.heap := ⟨(by first | omega | exact hu | exact hu.1 | exact hu.1.1 | exact hu.1.2 | exact hu.2 | exact hu.1.1.1 | exact hu.1.1.2 | exact fd_nn (by first | with_reducible assumption | assumption) | (split at hu <;> omega) | (split <;> omega) | exact E_inv (by first | with_reducible assumption | assumption)), hP1 2 _ rfl, q3.kept (FR 3 4 (by decide) (by decide) 3 (by decide) (by decide) q3.lt)⟩
  exact ⟨⟨r, (), ho, hr, ⟨np0, np1, np2, p3.kept (FR 4 11 (by decide) (by decide)), p4.kept (FR 11 18 (by decide) (by decide)), p5.kept (FR 18 25 (by decide) (by decide)), p6.kept (FR 25 26 (by decide) (by decide)), p7.kept (FR 26 33 (by decide) (by decide)), p8.kept (FR 33 40 (by decide) (by decide)), p9.kept (FR 40 41 (by decide) (by decide)), p10.kept (FR 41 44 (by decide) (by decide)), p11.kept (FR 44 68 (by decide) (by decide)), p12.kept (FR 68 69 (by decide) (by decide)), p13.kept (FR 69 74 (by decide) (by decide)), p14.kept (FR 74 77 (by decide) (by decide)), p15.kept (FR 77 102 (by decide) (by decide)), p16.kept (FR 102 112 (by decide) (by decide)), ⟨hX, hXV.2⟩⟩⟩, hF.wide (ad_ix [0, 1, 2] (by rfl) (by decide))⟩

set_option maxHeartbeats 1000000 in
set_option maxRecDepth 100000 in
theorem k_X10_textE (l : Launch) (dC : Nat → ClassId) (dI : Nat → Nat → Nat) (G : Nat → ClassId) (sz : Nat) (ax : Nat → Nat) (hi : adInj 129 ax) (T : Nat) (Y : Nat → Int32) (fa : Int32) (W0 : Nat → Int32) (W1 : Nat → Int32) (W2 : Nat → Int32) (N : Nat) (B : Nat) (N1 : Nat) (B1 : Nat) (N2 : Nat) (B2 : Nat) (K : Nat → Int32) (S : Nat) (M : Nat) (E : Nat → Int32) (Z : Nat → Int32) (O0 : Nat → Int32) (O1 : Nat → Int32) (O2 : Nat → Int32) (CE : Nat → Int32) (adK adV : Nat → Nat) : Met l yX10_text (Cond.code yX10_text cX10_text 2 (some .int) :: GT) ({ frames := 10, cells := 0, slots := 0, locals := 213 } : Room) (PcIS [.ref (ax 0)] dC dI G (X10I dC dI G ax T Y fa W0 W1 W2 N B N1 B1 N2 B2 K S M E Z O0 O1 O2 CE) adK adV (adX 0 112 ax sz) sz) (va_Qi (fun (r : Int32) (_ : Unit) => r = txA Y T) (fun _ t => X10I dC dI G ax 0 Y (txF Y T) (txW Y T W0) W1 W2 (txN Y T N) (txB Y T B) N1 B1 N2 B2 (txK Y T K) (txS Y T S) (txS Y T M) E Z (txO Y T O0) O1 O2 CE t.heap) (adX 0 112 ax sz)) 0 0 (adX 0 112 ax sz) := by
  refine Met.pick (fun a st hp => ?_)
  obtain ⟨e0, hsz, hI, hK, hSS⟩ := hp
  subst hsz
  have hI0 := hI
  unfold X10I at hI
  obtain ⟨p0, p1, p2, p3, p4, p5, p6, p7, p8, p9, p10, p11, p12, p13, p14, p15, p16, hX⟩ := hI
  have hXV := hX
  have hX := hXV.1
  unfold X10Pr at p0
  obtain ⟨zi0_13, q0⟩ := p0
  unfold X10P0 at p1
  obtain ⟨zi1_2, zi1_3, zi1_4, zi1_5, zi1_6, zi1_7, zi1_8, zi1_9, zi1_10, zi1_11, q1⟩ := p1
  unfold X10P0_0 at p2
  obtain ⟨p2j0, q2, q3⟩ := p2
  unfold X10P0_1 at p3
  obtain ⟨zn4_0, zn4_1, zn4_2, zf5, zf6, zf7, zf8, zf9, zf10, p3j0, p3j1, p3j2, q4, q5, q6, q7, q8, q9, q10⟩ := p3
  unfold X10P1 at p4
  obtain ⟨zn11_2, zf12, zf13, zf14, zf15, zf16, zf17, p4j0, p4j1, p4j2, p4j3, p4j4, q11, q12, q13, q14, q15, q16, q17⟩ := p4
  unfold X10P4 at p9
  have q40 := p9
  unfold X10P8 at p13
  obtain ⟨zf70, zf71, zf72, zf73, p13j0, q69, q70, q71, q72, q73⟩ := p13
  unfold X10P9 at p14
  obtain ⟨zf75, zf76, p14j0, q74, q75, q76⟩ := p14
  refine ⟨_, _, _, c_X10_textE l dC dI G _ (ax 0) (ax 1) (ax 11) (ax 18) (ax 25) (ax 40) (ax 41) (ax 44) (ax 68) (ax 69) (ax 74) (ax 77) (ax 102) (ax 2) (ax 4) (ax 3) T (ax 5) (ax 6) (ax 7) (ax 8) (ax 9) (ax 10) zn4_0 zn4_1 zn4_2 (ax 12) (ax 13) (ax 14) (ax 15) (ax 16) (ax 17) N B zn11_2 (ax 70) (ax 71) (ax 72) (ax 73) (ax 75) (ax 76) S M fa zi0_13 zi1_2 zi1_3 zi1_4 zi1_5 zi1_6 zi1_7 zi1_8 zi1_9 zi1_10 zi1_11 Y zf5 zf6 zf7 zf8 zf9 zf10 zf12 zf13 zf14 zf15 zf16 zf17 K adK adV (by first | with_reducible assumption | assumption) (by first | with_reducible assumption | assumption) (by first | with_reducible assumption | assumption) (by first | with_reducible assumption | assumption) (by first | with_reducible assumption | assumption) (by first | with_reducible assumption | assumption) (by first | with_reducible assumption | assumption) (by first | with_reducible assumption | assumption) (by first | with_reducible assumption | assumption), ⟨e0, rfl, (vpc q0 (vpc q1 (vpc q2 (vpc q3 (vpc q4 (vpc q5 (vpc q6 (vpc q7 (vpc q8 (vpc q9 (vpc q10 (vpc q11 (vpc q12 (vpc q13 (vpc q14 (vpc q15 (vpc q16 (vpc q17 (vpc q69 (vpc q74 (vpc q40 va_nilP))))))))))))))))))))), hK, vD_ix hi [0, 1, 2, 3, 4, 5, 6, 7, 8, 9, 10, 11, 12, 13, 14, 15, 16, 17, 69, 74, 40] (by rfl) (by decide) (by decide), hSS.narrow (ad_ix [0, 1, 2, 3, 4, 5, 6, 7, 8, 9, 10, 11, 12, 13, 14, 15, 16, 17, 69, 74, 40] (by rfl) (by decide))⟩, ad_ix [0, 1, 2, 3, 4, 5, 6, 7, 8, 9, 10, 11, 12, 13, 14, 15, 16, 17, 69, 74, 40] (by rfl) (by decide), fun o t hq => ?_⟩
  obtain ⟨⟨r, ⟨ou0, ou1, ou2, ou3, ou4, ou5, ou6, ou7, ou8, ou9, ou10, n0, n1, n2, v1, v2, v3, v4, v5, v6, w0, w1, w2, y1, y2, y3, y4, y5, y6, s0, s1, s2⟩, ho, ⟨hr, hu⟩, hP1, -⟩, hF⟩ := hq
  have FR : ∀ lo hi' : Nat, hi' ≤ 129 → ([0, 1, 2, 3, 4, 5, 6, 7, 8, 9, 10, 11, 12, 13, 14, 15, 16, 17, 69, 74, 40] : List Nat).all (fun x => decide (x < lo) || decide (hi' ≤ x)) = true → ∀ j : Nat, lo ≤ j → j < hi' → ax j < st.heap.size → t.heap[ax j]? = st.heap[ax j]? := fun lo hi' h1 h2 => fr_ix hi h1 hF.2 [0, 1, 2, 3, 4, 5, 6, 7, 8, 9, 10, 11, 12, 13, 14, 15, 16, 17, 69, 74, 40] (by rfl) (by decide) h2
  have xfa : (txF Y T) = ou10 := Eq.symm (hu.2.1.trans (txt_cf (by first | with_reducible assumption | assumption)))
  subst xfa
  have xN : (txN Y T N) = w0 := Eq.symm (hu.2.2.1.trans (txt_cN (by first | with_reducible assumption | assumption)))
  subst xN
  have xB : (txB Y T B) = w1 := Eq.symm (hu.2.2.2.1.trans (txt_cB (by first | with_reducible assumption | assumption)))
  subst xB
  have xS : (txS Y T S) = s0 := Eq.symm (hu.2.2.2.2.2.2.2.2.2.2.2.1.trans (txt_c1 (by first | with_reducible assumption | assumption)))
  subst xS
  have xM : (txS Y T M) = s1 := Eq.symm (hu.2.2.2.2.2.2.2.2.2.2.2.2.1.trans (txt_c1 (by first | with_reducible assumption | assumption)))
  subst xM
  have y40 : (txK Y T K) = s2 := Eq.symm (hu.2.2.2.2.2.2.2.2.2.2.2.2.2.trans (txt_c1 (by first | with_reducible assumption | assumption)))
  subst y40
  have hT := hu.2
  replace hu := hu.1
  have np0 : X10Pr dC dI G ax (txF Y T) t.heap := ⟨zi0_13, hP1 0 _ rfl⟩
  have np1 : X10P0 dC dI G ax t.heap := ⟨ou0, ou1, ou2, ou3, ou4, ou5, ou6, ou7, ou8, ou9, hP1 1 _ rfl⟩
  have np2 : X10P0_0 dC dI G ax 0 Y t.heap := ⟨(by first | omega | exact hu | exact hu.1 | exact hu.1.1 | exact hu.1.2 | exact hu.2 | exact hu.1.1.1 | exact hu.1.1.2 | exact fd_nn (by first | with_reducible assumption | assumption) | (split at hu <;> omega) | (split <;> omega) | exact E_inv (by first | with_reducible assumption | assumption)), hP1 2 _ rfl, hP1 3 _ rfl⟩
  have np3 : X10P0_1 dC dI G ax t.heap := ⟨n0, n1, n2, v1, v2, v3, v4, v5, v6, (by first | omega | exact hu | exact hu.1 | exact hu.1.1 | exact hu.1.2 | exact hu.2 | exact hu.1.1.1 | exact hu.1.1.2 | exact fd_nn (by first | with_reducible assumption | assumption) | (split at hu <;> omega) | (split <;> omega) | exact E_inv (by first | with_reducible assumption | assumption)), (by first | omega | exact hu | exact hu.1 | exact hu.1.1 | exact hu.1.2 | exact hu.2 | exact hu.1.1.1 | exact hu.1.1.2 | exact fd_nn (by first | with_reducible assumption | assumption) | (split at hu <;> omega) | (split <;> omega) | exact E_inv (by first | with_reducible assumption | assumption)), (by first | omega | exact hu | exact hu.1 | exact hu.1.1 | exact hu.1.2 | exact hu.2 | exact hu.1.1.1 | exact hu.1.1.2 | exact fd_nn (by first | with_reducible assumption | assumption) | (split at hu <;> omega) | (split <;> omega) | exact E_inv (by first | with_reducible assumption | assumption)), hP1 4 _ rfl, hP1 5 _ rfl, hP1 6 _ rfl, hP1 7 _ rfl, hP1 8 _ rfl, hP1 9 _ rfl, hP1 10 _ rfl⟩
  have np4 : X10P1 dC dI G ax (txW Y T W0) (txN Y T N) (txB Y T B) (txO Y T O0) t.heap := ⟨w2, y1, y2, y3, y4, y5, y6, (by rw [hT.2.2.2.1, hT.2.2.2.2.1, hT.2.2.2.2.2.1, hT.2.2.2.2.2.2.2.1, hT.2.2.2.2.2.2.2.2.1, hT.2.2.2.2.2.2.2.2.2.1]; exact CR.text (by first | with_reducible assumption | assumption) (by first | with_reducible assumption | assumption)), (by rw [hT.2.2.2.2.2.2.1]; exact OR.text (by first | with_reducible assumption | assumption) (by first | with_reducible assumption | assumption)), (by first | omega | exact hu | exact hu.1 | exact hu.1.1 | exact hu.1.2 | exact hu.2 | exact hu.1.1.1 | exact hu.1.1.2 | exact fd_nn (by first | with_reducible assumption | assumption) | (split at hu <;> omega) | (split <;> omega) | exact E_inv (by first | with_reducible assumption | assumption)), (by first | omega | exact hu | exact hu.1 | exact hu.1.1 | exact hu.1.2 | exact hu.2 | exact hu.1.1.1 | exact hu.1.1.2 | exact fd_nn (by first | with_reducible assumption | assumption) | (split at hu <;> omega) | (split <;> omega) | exact E_inv (by first | with_reducible assumption | assumption)), (by first | omega | exact hu | exact hu.1 | exact hu.1.1 | exact hu.1.2 | exact hu.2 | exact hu.1.1.1 | exact hu.1.1.2 | exact fd_nn (by first | with_reducible assumption | assumption) | (split at hu <;> omega) | (split <;> omega) | exact E_inv (by first | with_reducible assumption | assumption)), hP1 11 _ rfl, hP1 12 _ rfl, hP1 13 _ rfl, hP1 14 _ rfl, hP1 15 _ rfl, hP1 16 _ rfl, hP1 17 _ rfl⟩
  have np9 : X10P4 dC dI G ax (txK Y T K) t.heap := hP1 20 _ rfl
  have np13 : X10P8 dC dI G ax (txS Y T S) t.heap := ⟨zf70, zf71, zf72, zf73, (by first | omega | exact hu | exact hu.1 | exact hu.1.1 | exact hu.1.2 | exact hu.2 | exact hu.1.1.1 | exact hu.1.1.2 | exact fd_nn (by first | with_reducible assumption | assumption) | (split at hu <;> omega) | (split <;> omega) | exact E_inv (by first | with_reducible assumption | assumption)), hP1 18 _ rfl, q70.kept (FR 70 71 (by decide) (by decide) 70 (by decide) (by decide) q70.lt), q71.kept (FR 71 72 (by decide) (by decide) 71 (by decide) (by decide) q71.lt), q72.kept (FR 72 73 (by decide) (by decide) 72 (by decide) (by decide) q72.lt), q73.kept (FR 73 74 (by decide) (by decide) 73 (by decide) (by decide) q73.lt)⟩
  have np14 : X10P9 dC dI G ax (txS Y T M) t.heap := ⟨zf75, zf76, (by first | omega | exact hu | exact hu.1 | exact hu.1.1 | exact hu.1.2 | exact hu.2 | exact hu.1.1.1 | exact hu.1.1.2 | exact fd_nn (by first | with_reducible assumption | assumption) | (split at hu <;> omega) | (split <;> omega) | exact E_inv (by first | with_reducible assumption | assumption)), hP1 19 _ rfl, q75.kept (FR 75 76 (by decide) (by decide) 75 (by decide) (by decide) q75.lt), q76.kept (FR 76 77 (by decide) (by decide) 76 (by decide) (by decide) q76.lt)⟩
  exact ⟨⟨r, (), ho, hr.trans (txt_ca (by first | with_reducible assumption | assumption)), ⟨np0, np1, np2, np3, np4, p5.kept (FR 18 25 (by decide) (by decide)), p6.kept (FR 25 26 (by decide) (by decide)), p7.kept (FR 26 33 (by decide) (by decide)), p8.kept (FR 33 40 (by decide) (by decide)), np9, p10.kept (FR 41 44 (by decide) (by decide)), p11.kept (FR 44 68 (by decide) (by decide)), p12.kept (FR 68 69 (by decide) (by decide)), np13, np14, p15.kept (FR 77 102 (by decide) (by decide)), p16.kept (FR 102 112 (by decide) (by decide)), ⟨tx_X hX, tx_V (by first | with_reducible assumption | assumption) hXV.2⟩⟩⟩, hF.wide (ad_ix [0, 1, 2, 3, 4, 5, 6, 7, 8, 9, 10, 11, 12, 13, 14, 15, 16, 17, 69, 74, 40] (by rfl) (by decide))⟩

set_option maxHeartbeats 1000000 in
set_option maxRecDepth 100000 in
theorem k_X10_faultE (l : Launch) (dC : Nat → ClassId) (dI : Nat → Nat → Nat) (G : Nat → ClassId) (sz : Nat) (ax : Nat → Nat) (hi : adInj 129 ax) (T : Nat) (Y : Nat → Int32) (fa : Int32) (W0 : Nat → Int32) (W1 : Nat → Int32) (W2 : Nat → Int32) (N : Nat) (B : Nat) (N1 : Nat) (B1 : Nat) (N2 : Nat) (B2 : Nat) (K : Nat → Int32) (S : Nat) (M : Nat) (E : Nat → Int32) (Z : Nat → Int32) (O0 : Nat → Int32) (O1 : Nat → Int32) (O2 : Nat → Int32) (CE : Nat → Int32) : Met l yX10_fault (Cond.code yX10_fault cX10_fault 1 (some .int) :: GT) ({ frames := 0, cells := 0, slots := 0, locals := 0 } : Room) (PcI [.ref (ax 0)] dC dI G (X10I dC dI G ax T Y fa W0 W1 W2 N B N1 B1 N2 B2 K S M E Z O0 O1 O2 CE) sz) (va_Qi (fun (r : Int32) (_ : Unit) => r = fa) (fun _ t => X10I dC dI G ax T Y fa W0 W1 W2 N B N1 B1 N2 B2 K S M E Z O0 O1 O2 CE t.heap) (adX 0 112 ax sz)) 0 0 (adX 0 112 ax sz) := by
  refine Met.pick (fun a st hp => ?_)
  obtain ⟨e0, hsz, hI, hK⟩ := hp
  subst hsz
  have hI0 := hI
  unfold X10I at hI
  obtain ⟨p0, p1, p2, p3, p4, p5, p6, p7, p8, p9, p10, p11, p12, p13, p14, p15, p16, hX⟩ := hI
  have hXV := hX
  have hX := hXV.1
  unfold X10Pr at p0
  obtain ⟨zi0_13, q0⟩ := p0
  refine ⟨_, _, _, c_X10_faultE l dC dI G _ (ax 0) (ax 1) (ax 11) (ax 18) (ax 25) (ax 40) (ax 41) (ax 44) (ax 68) (ax 69) (ax 74) (ax 77) (ax 102) fa zi0_13 , ⟨e0, rfl, (vpc q0 va_nilP), hK⟩, fun q h => Or.inr h, fun o t hq => ?_⟩
  obtain ⟨⟨r, u, ho, ⟨hr, hu⟩, -⟩, hF⟩ := hq
  exact ⟨⟨r, (), ho, hr, hI0.kept (fun j _ _ h => hF.2 _ h (Nat.not_le.mpr h))⟩, hF.wide (fun q h => Or.inr h)⟩

set_option maxHeartbeats 1000000 in
set_option maxRecDepth 100000 in
theorem k_X10_ruleE (l : Launch) (dC : Nat → ClassId) (dI : Nat → Nat → Nat) (G : Nat → ClassId) (sz : Nat) (ax : Nat → Nat) (hi : adInj 129 ax) (T : Nat) (Y : Nat → Int32) (fa : Int32) (W0 : Nat → Int32) (W1 : Nat → Int32) (W2 : Nat → Int32) (N : Nat) (B : Nat) (N1 : Nat) (B1 : Nat) (N2 : Nat) (B2 : Nat) (K : Nat → Int32) (S : Nat) (M : Nat) (E : Nat → Int32) (Z : Nat → Int32) (O0 : Nat → Int32) (O1 : Nat → Int32) (O2 : Nat → Int32) (CE : Nat → Int32) (what : Int32) : Met l yX10_rule (Cond.code yX10_rule cX10_rule 2 (some .int) :: GT) ({ frames := 0, cells := 0, slots := 0, locals := 0 } : Room) (PcI [.ref (ax 0), .int what] dC dI G (X10I dC dI G ax T Y fa W0 W1 W2 N B N1 B1 N2 B2 K S M E Z O0 O1 O2 CE) sz) (va_Qi (fun (r : Int32) (_ : Unit) => r = ruF what N B (W0 48 + 5)) (fun _ t => X10I dC dI G ax T Y fa W0 W1 W2 N B N1 B1 N2 B2 K S M E Z O0 O1 O2 CE t.heap) (adX 0 112 ax sz)) 0 0 (adX 0 112 ax sz) := by
  refine Met.pick (fun a st hp => ?_)
  obtain ⟨e0, hsz, hI, hK⟩ := hp
  subst hsz
  have hI0 := hI
  unfold X10I at hI
  obtain ⟨p0, p1, p2, p3, p4, p5, p6, p7, p8, p9, p10, p11, p12, p13, p14, p15, p16, hX⟩ := hI
  have hXV := hX
  have hX := hXV.1
  unfold X10Pr at p0
  obtain ⟨zi0_13, q0⟩ := p0
  unfold X10P1 at p4
  obtain ⟨zn11_2, zf12, zf13, zf14, zf15, zf16, zf17, p4j0, p4j1, p4j2, p4j3, p4j4, q11, q12, q13, q14, q15, q16, q17⟩ := p4
  refine ⟨_, _, _, c_X10_ruleE l dC dI G _ (ax 0) (ax 1) (ax 11) (ax 18) (ax 25) (ax 40) (ax 41) (ax 44) (ax 68) (ax 69) (ax 74) (ax 77) (ax 102) (ax 12) (ax 13) (ax 14) (ax 15) (ax 16) (ax 17) N B zn11_2 fa zi0_13 what (by first | with_reducible assumption | assumption) (by first | with_reducible assumption | assumption) (by first | with_reducible assumption | assumption), ⟨e0, rfl, (vpc q0 (vpc q11 va_nilP)), hK⟩, fun q h => Or.inr h, fun o t hq => ?_⟩
  obtain ⟨⟨r, u, ho, ⟨hr, hu⟩, -⟩, hF⟩ := hq
  exact ⟨⟨r, (), ho, hr.trans (ru_c (by first | with_reducible assumption | assumption)), hI0.kept (fun j _ _ h => hF.2 _ h (Nat.not_le.mpr h))⟩, hF.wide (fun q h => Or.inr h)⟩

set_option maxHeartbeats 1000000 in
set_option maxRecDepth 100000 in
theorem k_X10_stretch (l : Launch) (dC : Nat → ClassId) (dI : Nat → Nat → Nat) (G : Nat → ClassId) (sz : Nat) (ax : Nat → Nat) (hi : adInj 129 ax) (T : Nat) (Y : Nat → Int32) (fa : Int32) (W0 : Nat → Int32) (W1 : Nat → Int32) (W2 : Nat → Int32) (N : Nat) (B : Nat) (N1 : Nat) (B1 : Nat) (N2 : Nat) (B2 : Nat) (K : Nat → Int32) (S : Nat) (M : Nat) (E : Nat → Int32) (Z : Nat → Int32) (O0 : Nat → Int32) (O1 : Nat → Int32) (O2 : Nat → Int32) (CE : Nat → Int32) (i : Int32) (what : Int32) : Met l yX10_stretch (Cond.code yX10_stretch cX10_stretch 3 (some .int) :: GT) ({ frames := 1, cells := 0, slots := 0, locals := 21 } : Room) (PcI [.ref (ax 0), .int i, .int what] dC dI G (X10I dC dI G ax T Y fa W0 W1 W2 N B N1 B1 N2 B2 K S M E Z O0 O1 O2 CE) sz) (va_Qi (fun (r : Int32) (_ : Unit) => True) (fun _ t => X10I dC dI G ax T Y fa W0 W1 W2 N B N1 B1 N2 B2 K S M E Z O0 O1 O2 CE t.heap) (adX 0 112 ax sz)) 0 0 (adX 0 112 ax sz) := by
  refine Met.pick (fun a st hp => ?_)
  obtain ⟨e0, hsz, hI, hK⟩ := hp
  subst hsz
  have hI0 := hI
  unfold X10I at hI
  obtain ⟨p0, p1, p2, p3, p4, p5, p6, p7, p8, p9, p10, p11, p12, p13, p14, p15, p16, hX⟩ := hI
  have hXV := hX
  have hX := hXV.1
  unfold X10Pr at p0
  obtain ⟨zi0_13, q0⟩ := p0
  unfold X10P1 at p4
  obtain ⟨zn11_2, zf12, zf13, zf14, zf15, zf16, zf17, p4j0, p4j1, p4j2, p4j3, p4j4, q11, q12, q13, q14, q15, q16, q17⟩ := p4
  refine ⟨_, _, _, c_X10_stretch l dC dI G _ (ax 0) (ax 1) (ax 11) (ax 18) (ax 25) (ax 40) (ax 41) (ax 44) (ax 68) (ax 69) (ax 74) (ax 77) (ax 102) (ax 12) (ax 13) (ax 14) (ax 15) (ax 16) (ax 17) N B zn11_2 fa zi0_13 i what zf12 zf13 zf14 (by first | with_reducible assumption | assumption) (by first | with_reducible assumption | assumption) (by first | with_reducible assumption | assumption), ⟨e0, rfl, (vpc q0 (vpc q11 (vpc q12 (vpc q13 (vpc q14 va_nilP))))), hK⟩, fun q h => Or.inr h, fun o t hq => ?_⟩
  obtain ⟨⟨r, u, ho, ⟨hr, hu⟩, -⟩, hF⟩ := hq
  exact ⟨⟨r, (), ho, trivial, hI0.kept (fun j _ _ h => hF.2 _ h (Nat.not_le.mpr h))⟩, hF.wide (fun q h => Or.inr h)⟩

set_option maxHeartbeats 1000000 in
set_option maxRecDepth 100000 in
theorem k_X10_bearerE (l : Launch) (dC : Nat → ClassId) (dI : Nat → Nat → Nat) (G : Nat → ClassId) (sz : Nat) (ax : Nat → Nat) (hi : adInj 129 ax) (T : Nat) (Y : Nat → Int32) (fa : Int32) (W0 : Nat → Int32) (W1 : Nat → Int32) (W2 : Nat → Int32) (N : Nat) (B : Nat) (N1 : Nat) (B1 : Nat) (N2 : Nat) (B2 : Nat) (K : Nat → Int32) (S : Nat) (M : Nat) (E : Nat → Int32) (Z : Nat → Int32) (O0 : Nat → Int32) (O1 : Nat → Int32) (O2 : Nat → Int32) (CE : Nat → Int32) (i : Int32) (what : Int32) : Met l yX10_bearer (Cond.code yX10_bearer cX10_bearer 3 (some .int) :: GT) ({ frames := 1, cells := 0, slots := 0, locals := 21 } : Room) (PcI [.ref (ax 0), .int i, .int what] dC dI G (X10I dC dI G ax T Y fa W0 W1 W2 N B N1 B1 N2 B2 K S M E Z O0 O1 O2 CE) sz) (va_Qi (fun (r : Int32) (_ : Unit) => r = if (0 ≤ i.toInt ∧ i.toInt < ((B : Nat) : Int)) then beF what (W0 (20 + 3 * i.toNatClampNeg)) (W0 (20 + 3 * i.toNatClampNeg + 1)) (W0 (20 + 3 * i.toNatClampNeg + 2)) else -1) (fun _ t => X10I dC dI G ax T Y fa W0 W1 W2 N B N1 B1 N2 B2 K S M E Z O0 O1 O2 CE t.heap) (adX 0 112 ax sz)) 0 0 (adX 0 112 ax sz) := by
  refine Met.pick (fun a st hp => ?_)
  obtain ⟨e0, hsz, hI, hK⟩ := hp
  subst hsz
  have hI0 := hI
  unfold X10I at hI
  obtain ⟨p0, p1, p2, p3, p4, p5, p6, p7, p8, p9, p10, p11, p12, p13, p14, p15, p16, hX⟩ := hI
  have hXV := hX
  have hX := hXV.1
  unfold X10Pr at p0
  obtain ⟨zi0_13, q0⟩ := p0
  unfold X10P1 at p4
  obtain ⟨zn11_2, zf12, zf13, zf14, zf15, zf16, zf17, p4j0, p4j1, p4j2, p4j3, p4j4, q11, q12, q13, q14, q15, q16, q17⟩ := p4
  refine ⟨_, _, _, c_X10_bearerE l dC dI G _ (ax 0) (ax 1) (ax 11) (ax 18) (ax 25) (ax 40) (ax 41) (ax 44) (ax 68) (ax 69) (ax 74) (ax 77) (ax 102) (ax 12) (ax 13) (ax 14) (ax 15) (ax 16) (ax 17) N B zn11_2 fa zi0_13 i what zf15 zf16 zf17 (by first | with_reducible assumption | assumption) (by first | with_reducible assumption | assumption) (by first | with_reducible assumption | assumption), ⟨e0, rfl, (vpc q0 (vpc q11 (vpc q15 (vpc q16 (vpc q17 va_nilP))))), hK⟩, fun q h => Or.inr h, fun o t hq => ?_⟩
  obtain ⟨⟨r, u, ho, ⟨hr, hu⟩, -⟩, hF⟩ := hq
  exact ⟨⟨r, (), ho, hr.trans (be_c (by first | with_reducible assumption | assumption)), hI0.kept (fun j _ _ h => hF.2 _ h (Nat.not_le.mpr h))⟩, hF.wide (fun q h => Or.inr h)⟩

set_option maxHeartbeats 1000000 in
set_option maxRecDepth 100000 in
theorem k_X10_startE (l : Launch) (dC : Nat → ClassId) (dI : Nat → Nat → Nat) (G : Nat → ClassId) (sz : Nat) (ax : Nat → Nat) (hi : adInj 129 ax) (T : Nat) (Y : Nat → Int32) (fa : Int32) (W0 : Nat → Int32) (W1 : Nat → Int32) (W2 : Nat → Int32) (N : Nat) (B : Nat) (N1 : Nat) (B1 : Nat) (N2 : Nat) (B2 : Nat) (K : Nat → Int32) (S : Nat) (M : Nat) (E : Nat → Int32) (Z : Nat → Int32) (O0 : Nat → Int32) (O1 : Nat → Int32) (O2 : Nat → Int32) (CE : Nat → Int32) (v : Int32) : Met l yX10_start (Cond.code yX10_start cX10_start 3 (some .int) :: GT) ({ frames := 0, cells := 0, slots := 0, locals := 0 } : Room) (PcI [.ref (ax 0), .int v] dC dI G (X10I dC dI G ax T Y fa W0 W1 W2 N B N1 B1 N2 B2 K S M E Z O0 O1 O2 CE) sz) (va_Qi (fun (r : Int32) (_ : Unit) => r = if (1 ≤ v.toInt ∧ v.toInt ≤ 9) then W0 48 + 5 else -1) (fun _ t => X10I dC dI G ax T Y fa (if (1 ≤ v.toInt ∧ v.toInt ≤ 9) then upd W0 48 (v - 5) else W0) W1 W2 N B N1 B1 N2 B2 K S M E Z O0 O1 O2 CE t.heap) (adX 0 112 ax sz)) 0 0 (adX 0 112 ax sz) := by
  refine Met.pick (fun a st hp => ?_)
  obtain ⟨e0, hsz, hI, hK⟩ := hp
  subst hsz
  have hI0 := hI
  unfold X10I at hI
  obtain ⟨p0, p1, p2, p3, p4, p5, p6, p7, p8, p9, p10, p11, p12, p13, p14, p15, p16, hX⟩ := hI
  have hXV := hX
  have hX := hXV.1
  unfold X10Pr at p0
  obtain ⟨zi0_13, q0⟩ := p0
  unfold X10P1 at p4
  obtain ⟨zn11_2, zf12, zf13, zf14, zf15, zf16, zf17, p4j0, p4j1, p4j2, p4j3, p4j4, q11, q12, q13, q14, q15, q16, q17⟩ := p4
  refine ⟨_, _, _, c_X10_startE l dC dI G _ (ax 0) (ax 1) (ax 11) (ax 18) (ax 25) (ax 40) (ax 41) (ax 44) (ax 68) (ax 69) (ax 74) (ax 77) (ax 102) (ax 12) (ax 13) (ax 14) (ax 15) (ax 16) (ax 17) N B zn11_2 fa zi0_13 v (by first | with_reducible assumption | assumption) (by first | with_reducible assumption | assumption) (by first | with_reducible assumption | assumption), ⟨e0, rfl, (vpc q0 (vpc q11 va_nilP)), hK, vD_ix hi [0, 11] (by rfl) (by decide) (by decide)⟩, ad_ix [0, 11] (by rfl) (by decide), fun o t hq => ?_⟩
  obtain ⟨⟨r, u0, ho, ⟨hr, hu⟩, hP1, -⟩, hF⟩ := hq
  have FR : ∀ lo hi' : Nat, hi' ≤ 129 → ([0, 11] : List Nat).all (fun x => decide (x < lo) || decide (hi' ≤ x)) = true → ∀ j : Nat, lo ≤ j → j < hi' → ax j < st.heap.size → t.heap[ax j]? = st.heap[ax j]? := fun lo hi' h1 h2 => fr_ix hi h1 hF.2 [0, 11] (by rfl) (by decide) h2
  have np0 : X10Pr dC dI G ax fa t.heap := ⟨zi0_13, hP1 0 _ rfl⟩
  have np4 : X10P1 dC dI G ax (if (1 ≤ v.toInt ∧ v.toInt ≤ 9) then upd W0 48 (v - 5) else W0) N B O0 t.heap := ⟨u0, zf12, zf13, zf14, zf15, zf16, zf17, (by rw [hu.2]; exact CR.setD (by first | with_reducible assumption | assumption) (by first | with_reducible assumption | assumption) (by first | with_reducible assumption | assumption)), p4j1, p4j2, p4j3, (by first | omega | exact hu | exact hu.1 | exact hu.1.1 | exact hu.1.2 | exact hu.2 | exact hu.1.1.1 | exact hu.1.1.2 | exact fd_nn (by first | with_reducible assumption | assumption) | (split at hu <;> omega) | (split <;> omega) | exact E_inv (by first | with_reducible assumption | assumption)), hP1 1 _ rfl, q12.kept (FR 12 13 (by decide) (by decide) 12 (by decide) (by decide) q12.lt), q13.kept (FR 13 14 (by decide) (by decide) 13 (by decide) (by decide) q13.lt), q14.kept (FR 14 15 (by decide) (by decide) 14 (by decide) (by decide) q14.lt), q15.kept (FR 15 16 (by decide) (by decide) 15 (by decide) (by decide) q15.lt), q16.kept (FR 16 17 (by decide) (by decide) 16 (by decide) (by decide) q16.lt), q17.kept (FR 17 18 (by decide) (by decide) 17 (by decide) (by decide) q17.lt)⟩
  exact ⟨⟨r, (), ho, hr.trans (sd_c (by first | with_reducible assumption | assumption)), ⟨np0, p1.kept (FR 1 2 (by decide) (by decide)), p2.kept (FR 2 4 (by decide) (by decide)), p3.kept (FR 4 11 (by decide) (by decide)), np4, p5.kept (FR 18 25 (by decide) (by decide)), p6.kept (FR 25 26 (by decide) (by decide)), p7.kept (FR 26 33 (by decide) (by decide)), p8.kept (FR 33 40 (by decide) (by decide)), p9.kept (FR 40 41 (by decide) (by decide)), p10.kept (FR 41 44 (by decide) (by decide)), p11.kept (FR 44 68 (by decide) (by decide)), p12.kept (FR 68 69 (by decide) (by decide)), p13.kept (FR 69 74 (by decide) (by decide)), p14.kept (FR 74 77 (by decide) (by decide)), p15.kept (FR 77 102 (by decide) (by decide)), p16.kept (FR 102 112 (by decide) (by decide)), ⟨hX, hXV.2⟩⟩⟩, hF.wide (ad_ix [0, 11] (by rfl) (by decide))⟩

set_option maxHeartbeats 1000000 in
set_option maxRecDepth 100000 in
theorem k_X10_noiseE (l : Launch) (dC : Nat → ClassId) (dI : Nat → Nat → Nat) (G : Nat → ClassId) (sz : Nat) (ax : Nat → Nat) (hi : adInj 129 ax) (T : Nat) (Y : Nat → Int32) (fa : Int32) (W0 : Nat → Int32) (W1 : Nat → Int32) (W2 : Nat → Int32) (N : Nat) (B : Nat) (N1 : Nat) (B1 : Nat) (N2 : Nat) (B2 : Nat) (K : Nat → Int32) (S : Nat) (M : Nat) (E : Nat → Int32) (Z : Nat → Int32) (O0 : Nat → Int32) (O1 : Nat → Int32) (O2 : Nat → Int32) (CE : Nat → Int32) (i : Int32) (v : Int32) : Met l yX10_noise (Cond.code yX10_noise cX10_noise 3 (some .int) :: GT) ({ frames := 1, cells := 0, slots := 0, locals := 23 } : Room) (PcI [.ref (ax 0), .int i, .int v] dC dI G (X10I dC dI G ax T Y fa W0 W1 W2 N B N1 B1 N2 B2 K S M E Z O0 O1 O2 CE) sz) (va_Qi (fun (r : Int32) (_ : Unit) => r = if ((0 ≤ i.toInt ∧ i.toInt < ((N : Nat) : Int)) ∧ 0 ≤ v.toInt ∧ v.toInt ≤ 9) then W0 (2 * i.toNatClampNeg) else -1) (fun _ t => X10I dC dI G ax T Y fa (if ((0 ≤ i.toInt ∧ i.toInt < ((N : Nat) : Int)) ∧ 0 ≤ v.toInt ∧ v.toInt ≤ 9) then upd W0 (2 * i.toNatClampNeg) v else W0) W1 W2 N B N1 B1 N2 B2 K S M E Z O0 O1 O2 CE t.heap) (adX 0 112 ax sz)) 0 0 (adX 0 112 ax sz) := by
  refine Met.pick (fun a st hp => ?_)
  obtain ⟨e0, hsz, hI, hK⟩ := hp
  subst hsz
  have hI0 := hI
  unfold X10I at hI
  obtain ⟨p0, p1, p2, p3, p4, p5, p6, p7, p8, p9, p10, p11, p12, p13, p14, p15, p16, hX⟩ := hI
  have hXV := hX
  have hX := hXV.1
  unfold X10Pr at p0
  obtain ⟨zi0_13, q0⟩ := p0
  unfold X10P1 at p4
  obtain ⟨zn11_2, zf12, zf13, zf14, zf15, zf16, zf17, p4j0, p4j1, p4j2, p4j3, p4j4, q11, q12, q13, q14, q15, q16, q17⟩ := p4
  refine ⟨_, _, _, c_X10_noiseE l dC dI G _ (ax 0) (ax 1) (ax 11) (ax 18) (ax 25) (ax 40) (ax 41) (ax 44) (ax 68) (ax 69) (ax 74) (ax 77) (ax 102) (ax 12) (ax 13) (ax 14) (ax 15) (ax 16) (ax 17) N B zn11_2 fa zi0_13 i v zf12 (by first | with_reducible assumption | assumption) (by first | with_reducible assumption | assumption) (by first | with_reducible assumption | assumption), ⟨e0, rfl, (vpc q0 (vpc q11 (vpc q12 va_nilP))), hK, vD_ix hi [0, 11, 12] (by rfl) (by decide) (by decide)⟩, ad_ix [0, 11, 12] (by rfl) (by decide), fun o t hq => ?_⟩
  obtain ⟨⟨r, u0, ho, ⟨hr, hu⟩, hP1, -⟩, hF⟩ := hq
  have FR : ∀ lo hi' : Nat, hi' ≤ 129 → ([0, 11, 12] : List Nat).all (fun x => decide (x < lo) || decide (hi' ≤ x)) = true → ∀ j : Nat, lo ≤ j → j < hi' → ax j < st.heap.size → t.heap[ax j]? = st.heap[ax j]? := fun lo hi' h1 h2 => fr_ix hi h1 hF.2 [0, 11, 12] (by rfl) (by decide) h2
  have np0 : X10Pr dC dI G ax fa t.heap := ⟨zi0_13, hP1 0 _ rfl⟩
  have np4 : X10P1 dC dI G ax (if ((0 ≤ i.toInt ∧ i.toInt < ((N : Nat) : Int)) ∧ 0 ≤ v.toInt ∧ v.toInt ≤ 9) then upd W0 (2 * i.toNatClampNeg) v else W0) N B O0 t.heap := ⟨zn11_2, u0, zf13, zf14, zf15, zf16, zf17, (by rw [hu]; exact CR.set1 (by first | with_reducible assumption | assumption) (by first | with_reducible assumption | assumption)), p4j1, p4j2, p4j3, p4j4, hP1 1 _ rfl, hP1 2 _ rfl, q13.kept (FR 13 14 (by decide) (by decide) 13 (by decide) (by decide) q13.lt), q14.kept (FR 14 15 (by decide) (by decide) 14 (by decide) (by decide) q14.lt), q15.kept (FR 15 16 (by decide) (by decide) 15 (by decide) (by decide) q15.lt), q16.kept (FR 16 17 (by decide) (by decide) 16 (by decide) (by decide) q16.lt), q17.kept (FR 17 18 (by decide) (by decide) 17 (by decide) (by decide) q17.lt)⟩
  exact ⟨⟨r, (), ho, hr.trans (n1_c (by first | with_reducible assumption | assumption)), ⟨np0, p1.kept (FR 1 2 (by decide) (by decide)), p2.kept (FR 2 4 (by decide) (by decide)), p3.kept (FR 4 11 (by decide) (by decide)), np4, p5.kept (FR 18 25 (by decide) (by decide)), p6.kept (FR 25 26 (by decide) (by decide)), p7.kept (FR 26 33 (by decide) (by decide)), p8.kept (FR 33 40 (by decide) (by decide)), p9.kept (FR 40 41 (by decide) (by decide)), p10.kept (FR 41 44 (by decide) (by decide)), p11.kept (FR 44 68 (by decide) (by decide)), p12.kept (FR 68 69 (by decide) (by decide)), p13.kept (FR 69 74 (by decide) (by decide)), p14.kept (FR 74 77 (by decide) (by decide)), p15.kept (FR 77 102 (by decide) (by decide)), p16.kept (FR 102 112 (by decide) (by decide)), ⟨hX, hXV.2⟩⟩⟩, hF.wide (ad_ix [0, 11, 12] (by rfl) (by decide))⟩

set_option maxHeartbeats 1000000 in
set_option maxRecDepth 100000 in
theorem k_X10_coldE (l : Launch) (dC : Nat → ClassId) (dI : Nat → Nat → Nat) (G : Nat → ClassId) (sz : Nat) (ax : Nat → Nat) (hi : adInj 129 ax) (T : Nat) (Y : Nat → Int32) (fa : Int32) (W0 : Nat → Int32) (W1 : Nat → Int32) (W2 : Nat → Int32) (N : Nat) (B : Nat) (N1 : Nat) (B1 : Nat) (N2 : Nat) (B2 : Nat) (K : Nat → Int32) (S : Nat) (M : Nat) (E : Nat → Int32) (Z : Nat → Int32) (O0 : Nat → Int32) (O1 : Nat → Int32) (O2 : Nat → Int32) (CE : Nat → Int32) (i : Int32) (v : Int32) : Met l yX10_cold (Cond.code yX10_cold cX10_cold 3 (some .int) :: GT) ({ frames := 1, cells := 0, slots := 0, locals := 23 } : Room) (PcI [.ref (ax 0), .int i, .int v] dC dI G (X10I dC dI G ax T Y fa W0 W1 W2 N B N1 B1 N2 B2 K S M E Z O0 O1 O2 CE) sz) (va_Qi (fun (r : Int32) (_ : Unit) => r = if ((0 ≤ i.toInt ∧ i.toInt < ((N : Nat) : Int)) ∧ 0 ≤ v.toInt ∧ v.toInt ≤ 9) then W0 (2 * i.toNatClampNeg + 1) else -1) (fun _ t => X10I dC dI G ax T Y fa (if ((0 ≤ i.toInt ∧ i.toInt < ((N : Nat) : Int)) ∧ 0 ≤ v.toInt ∧ v.toInt ≤ 9) then upd W0 (2 * i.toNatClampNeg + 1) v else W0) W1 W2 N B N1 B1 N2 B2 K S M E Z O0 O1 O2 CE t.heap) (adX 0 112 ax sz)) 0 0 (adX 0 112 ax sz) := by
  refine Met.pick (fun a st hp => ?_)
  obtain ⟨e0, hsz, hI, hK⟩ := hp
  subst hsz
  have hI0 := hI
  unfold X10I at hI
  obtain ⟨p0, p1, p2, p3, p4, p5, p6, p7, p8, p9, p10, p11, p12, p13, p14, p15, p16, hX⟩ := hI
  have hXV := hX
  have hX := hXV.1
  unfold X10Pr at p0
  obtain ⟨zi0_13, q0⟩ := p0
  unfold X10P1 at p4
  obtain ⟨zn11_2, zf12, zf13, zf14, zf15, zf16, zf17, p4j0, p4j1, p4j2, p4j3, p4j4, q11, q12, q13, q14, q15, q16, q17⟩ := p4
  refine ⟨_, _, _, c_X10_coldE l dC dI G _ (ax 0) (ax 1) (ax 11) (ax 18) (ax 25) (ax 40) (ax 41) (ax 44) (ax 68) (ax 69) (ax 74) (ax 77) (ax 102) (ax 12) (ax 13) (ax 14) (ax 15) (ax 16) (ax 17) N B zn11_2 fa zi0_13 i v zf13 (by first | with_reducible assumption | assumption) (by first | with_reducible assumption | assumption) (by first | with_reducible assumption | assumption), ⟨e0, rfl, (vpc q0 (vpc q11 (vpc q13 va_nilP))), hK, vD_ix hi [0, 11, 13] (by rfl) (by decide) (by decide)⟩, ad_ix [0, 11, 13] (by rfl) (by decide), fun o t hq => ?_⟩
  obtain ⟨⟨r, u0, ho, ⟨hr, hu⟩, hP1, -⟩, hF⟩ := hq
  have FR : ∀ lo hi' : Nat, hi' ≤ 129 → ([0, 11, 13] : List Nat).all (fun x => decide (x < lo) || decide (hi' ≤ x)) = true → ∀ j : Nat, lo ≤ j → j < hi' → ax j < st.heap.size → t.heap[ax j]? = st.heap[ax j]? := fun lo hi' h1 h2 => fr_ix hi h1 hF.2 [0, 11, 13] (by rfl) (by decide) h2
  have np0 : X10Pr dC dI G ax fa t.heap := ⟨zi0_13, hP1 0 _ rfl⟩
  have np4 : X10P1 dC dI G ax (if ((0 ≤ i.toInt ∧ i.toInt < ((N : Nat) : Int)) ∧ 0 ≤ v.toInt ∧ v.toInt ≤ 9) then upd W0 (2 * i.toNatClampNeg + 1) v else W0) N B O0 t.heap := ⟨zn11_2, zf12, u0, zf14, zf15, zf16, zf17, (by rw [hu]; exact CR.set2 (by first | with_reducible assumption | assumption) (by first | with_reducible assumption | assumption)), p4j1, p4j2, p4j3, p4j4, hP1 1 _ rfl, q12.kept (FR 12 13 (by decide) (by decide) 12 (by decide) (by decide) q12.lt), hP1 2 _ rfl, q14.kept (FR 14 15 (by decide) (by decide) 14 (by decide) (by decide) q14.lt), q15.kept (FR 15 16 (by decide) (by decide) 15 (by decide) (by decide) q15.lt), q16.kept (FR 16 17 (by decide) (by decide) 16 (by decide) (by decide) q16.lt), q17.kept (FR 17 18 (by decide) (by decide) 17 (by decide) (by decide) q17.lt)⟩
  exact ⟨⟨r, (), ho, hr.trans (n2_c (by first | with_reducible assumption | assumption)), ⟨np0, p1.kept (FR 1 2 (by decide) (by decide)), p2.kept (FR 2 4 (by decide) (by decide)), p3.kept (FR 4 11 (by decide) (by decide)), np4, p5.kept (FR 18 25 (by decide) (by decide)), p6.kept (FR 25 26 (by decide) (by decide)), p7.kept (FR 26 33 (by decide) (by decide)), p8.kept (FR 33 40 (by decide) (by decide)), p9.kept (FR 40 41 (by decide) (by decide)), p10.kept (FR 41 44 (by decide) (by decide)), p11.kept (FR 44 68 (by decide) (by decide)), p12.kept (FR 68 69 (by decide) (by decide)), p13.kept (FR 69 74 (by decide) (by decide)), p14.kept (FR 74 77 (by decide) (by decide)), p15.kept (FR 77 102 (by decide) (by decide)), p16.kept (FR 102 112 (by decide) (by decide)), ⟨hX, hXV.2⟩⟩⟩, hF.wide (ad_ix [0, 11, 13] (by rfl) (by decide))⟩

set_option maxHeartbeats 1000000 in
set_option maxRecDepth 100000 in
theorem k_X10_stepE (l : Launch) (dC : Nat → ClassId) (dI : Nat → Nat → Nat) (G : Nat → ClassId) (sz : Nat) (ax : Nat → Nat) (hi : adInj 129 ax) (T : Nat) (Y : Nat → Int32) (fa : Int32) (W0 : Nat → Int32) (W1 : Nat → Int32) (W2 : Nat → Int32) (N : Nat) (B : Nat) (N1 : Nat) (B1 : Nat) (N2 : Nat) (B2 : Nat) (K : Nat → Int32) (S : Nat) (M : Nat) (E : Nat → Int32) (Z : Nat → Int32) (O0 : Nat → Int32) (O1 : Nat → Int32) (O2 : Nat → Int32) (CE : Nat → Int32) (i : Int32) (v : Int32) : Met l yX10_step (Cond.code yX10_step cX10_step 3 (some .int) :: GT) ({ frames := 1, cells := 0, slots := 0, locals := 23 } : Room) (PcI [.ref (ax 0), .int i, .int v] dC dI G (X10I dC dI G ax T Y fa W0 W1 W2 N B N1 B1 N2 B2 K S M E Z O0 O1 O2 CE) sz) (va_Qi (fun (r : Int32) (_ : Unit) => r = if ((0 ≤ i.toInt ∧ i.toInt < ((B : Nat) : Int)) ∧ 0 ≤ v.toInt ∧ v.toInt ≤ 9) then W0 (20 + 3 * i.toNatClampNeg + 1) else -1) (fun _ t => X10I dC dI G ax T Y fa (if ((0 ≤ i.toInt ∧ i.toInt < ((B : Nat) : Int)) ∧ 0 ≤ v.toInt ∧ v.toInt ≤ 9) then upd W0 (20 + 3 * i.toNatClampNeg + 1) v else W0) W1 W2 N B N1 B1 N2 B2 K S M E Z O0 O1 O2 CE t.heap) (adX 0 112 ax sz)) 0 0 (adX 0 112 ax sz) := by
  refine Met.pick (fun a st hp => ?_)
  obtain ⟨e0, hsz, hI, hK⟩ := hp
  subst hsz
  have hI0 := hI
  unfold X10I at hI
  obtain ⟨p0, p1, p2, p3, p4, p5, p6, p7, p8, p9, p10, p11, p12, p13, p14, p15, p16, hX⟩ := hI
  have hXV := hX
  have hX := hXV.1
  unfold X10Pr at p0
  obtain ⟨zi0_13, q0⟩ := p0
  unfold X10P1 at p4
  obtain ⟨zn11_2, zf12, zf13, zf14, zf15, zf16, zf17, p4j0, p4j1, p4j2, p4j3, p4j4, q11, q12, q13, q14, q15, q16, q17⟩ := p4
  refine ⟨_, _, _, c_X10_stepE l dC dI G _ (ax 0) (ax 1) (ax 11) (ax 18) (ax 25) (ax 40) (ax 41) (ax 44) (ax 68) (ax 69) (ax 74) (ax 77) (ax 102) (ax 12) (ax 13) (ax 14) (ax 15) (ax 16) (ax 17) N B zn11_2 fa zi0_13 i v zf16 (by first | with_reducible assumption | assumption) (by first | with_reducible assumption | assumption) (by first | with_reducible assumption | assumption), ⟨e0, rfl, (vpc q0 (vpc q11 (vpc q16 va_nilP))), hK, vD_ix hi [0, 11, 16] (by rfl) (by decide) (by decide)⟩, ad_ix [0, 11, 16] (by rfl) (by decide), fun o t hq => ?_⟩
  obtain ⟨⟨r, u0, ho, ⟨hr, hu⟩, hP1, -⟩, hF⟩ := hq
  have FR : ∀ lo hi' : Nat, hi' ≤ 129 → ([0, 11, 16] : List Nat).all (fun x => decide (x < lo) || decide (hi' ≤ x)) = true → ∀ j : Nat, lo ≤ j → j < hi' → ax j < st.heap.size → t.heap[ax j]? = st.heap[ax j]? := fun lo hi' h1 h2 => fr_ix hi h1 hF.2 [0, 11, 16] (by rfl) (by decide) h2
  have np0 : X10Pr dC dI G ax fa t.heap := ⟨zi0_13, hP1 0 _ rfl⟩
  have np4 : X10P1 dC dI G ax (if ((0 ≤ i.toInt ∧ i.toInt < ((B : Nat) : Int)) ∧ 0 ≤ v.toInt ∧ v.toInt ≤ 9) then upd W0 (20 + 3 * i.toNatClampNeg + 1) v else W0) N B O0 t.heap := ⟨zn11_2, zf12, zf13, zf14, zf15, u0, zf17, (by rw [hu]; exact CR.set5 (by first | with_reducible assumption | assumption) (by first | with_reducible assumption | assumption) (by first | with_reducible assumption | assumption)), p4j1, p4j2, p4j3, p4j4, hP1 1 _ rfl, q12.kept (FR 12 13 (by decide) (by decide) 12 (by decide) (by decide) q12.lt), q13.kept (FR 13 14 (by decide) (by decide) 13 (by decide) (by decide) q13.lt), q14.kept (FR 14 15 (by decide) (by decide) 14 (by decide) (by decide) q14.lt), q15.kept (FR 15 16 (by decide) (by decide) 15 (by decide) (by decide) q15.lt), hP1 2 _ rfl, q17.kept (FR 17 18 (by decide) (by decide) 17 (by decide) (by decide) q17.lt)⟩
  exact ⟨⟨r, (), ho, hr.trans (n5_c (by first | with_reducible assumption | assumption)), ⟨np0, p1.kept (FR 1 2 (by decide) (by decide)), p2.kept (FR 2 4 (by decide) (by decide)), p3.kept (FR 4 11 (by decide) (by decide)), np4, p5.kept (FR 18 25 (by decide) (by decide)), p6.kept (FR 25 26 (by decide) (by decide)), p7.kept (FR 26 33 (by decide) (by decide)), p8.kept (FR 33 40 (by decide) (by decide)), p9.kept (FR 40 41 (by decide) (by decide)), p10.kept (FR 41 44 (by decide) (by decide)), p11.kept (FR 44 68 (by decide) (by decide)), p12.kept (FR 68 69 (by decide) (by decide)), p13.kept (FR 69 74 (by decide) (by decide)), p14.kept (FR 74 77 (by decide) (by decide)), p15.kept (FR 77 102 (by decide) (by decide)), p16.kept (FR 102 112 (by decide) (by decide)), ⟨hX, hXV.2⟩⟩⟩, hF.wide (ad_ix [0, 11, 16] (by rfl) (by decide))⟩

set_option maxHeartbeats 1000000 in
set_option maxRecDepth 100000 in
theorem k_X10_warmE (l : Launch) (dC : Nat → ClassId) (dI : Nat → Nat → Nat) (G : Nat → ClassId) (sz : Nat) (ax : Nat → Nat) (hi : adInj 129 ax) (T : Nat) (Y : Nat → Int32) (fa : Int32) (W0 : Nat → Int32) (W1 : Nat → Int32) (W2 : Nat → Int32) (N : Nat) (B : Nat) (N1 : Nat) (B1 : Nat) (N2 : Nat) (B2 : Nat) (K : Nat → Int32) (S : Nat) (M : Nat) (E : Nat → Int32) (Z : Nat → Int32) (O0 : Nat → Int32) (O1 : Nat → Int32) (O2 : Nat → Int32) (CE : Nat → Int32) (i : Int32) (v : Int32) : Met l yX10_warm (Cond.code yX10_warm cX10_warm 3 (some .int) :: GT) ({ frames := 1, cells := 0, slots := 0, locals := 23 } : Room) (PcI [.ref (ax 0), .int i, .int v] dC dI G (X10I dC dI G ax T Y fa W0 W1 W2 N B N1 B1 N2 B2 K S M E Z O0 O1 O2 CE) sz) (va_Qi (fun (r : Int32) (_ : Unit) => r = if ((0 ≤ i.toInt ∧ i.toInt < ((B : Nat) : Int)) ∧ 0 ≤ v.toInt ∧ v.toInt ≤ 9) then W0 (20 + 3 * i.toNatClampNeg + 2) else -1) (fun _ t => X10I dC dI G ax T Y fa (if ((0 ≤ i.toInt ∧ i.toInt < ((B : Nat) : Int)) ∧ 0 ≤ v.toInt ∧ v.toInt ≤ 9) then upd W0 (20 + 3 * i.toNatClampNeg + 2) v else W0) W1 W2 N B N1 B1 N2 B2 K S M E Z O0 O1 O2 CE t.heap) (adX 0 112 ax sz)) 0 0 (adX 0 112 ax sz) := by
  refine Met.pick (fun a st hp => ?_)
  obtain ⟨e0, hsz, hI, hK⟩ := hp
  subst hsz
  have hI0 := hI
  unfold X10I at hI
  obtain ⟨p0, p1, p2, p3, p4, p5, p6, p7, p8, p9, p10, p11, p12, p13, p14, p15, p16, hX⟩ := hI
  have hXV := hX
  have hX := hXV.1
  unfold X10Pr at p0
  obtain ⟨zi0_13, q0⟩ := p0
  unfold X10P1 at p4
  obtain ⟨zn11_2, zf12, zf13, zf14, zf15, zf16, zf17, p4j0, p4j1, p4j2, p4j3, p4j4, q11, q12, q13, q14, q15, q16, q17⟩ := p4
  refine ⟨_, _, _, c_X10_warmE l dC dI G _ (ax 0) (ax 1) (ax 11) (ax 18) (ax 25) (ax 40) (ax 41) (ax 44) (ax 68) (ax 69) (ax 74) (ax 77) (ax 102) (ax 12) (ax 13) (ax 14) (ax 15) (ax 16) (ax 17) N B zn11_2 fa zi0_13 i v zf17 (by first | with_reducible assumption | assumption) (by first | with_reducible assumption | assumption) (by first | with_reducible assumption | assumption), ⟨e0, rfl, (vpc q0 (vpc q11 (vpc q17 va_nilP))), hK, vD_ix hi [0, 11, 17] (by rfl) (by decide) (by decide)⟩, ad_ix [0, 11, 17] (by rfl) (by decide), fun o t hq => ?_⟩
  obtain ⟨⟨r, u0, ho, ⟨hr, hu⟩, hP1, -⟩, hF⟩ := hq
  have FR : ∀ lo hi' : Nat, hi' ≤ 129 → ([0, 11, 17] : List Nat).all (fun x => decide (x < lo) || decide (hi' ≤ x)) = true → ∀ j : Nat, lo ≤ j → j < hi' → ax j < st.heap.size → t.heap[ax j]? = st.heap[ax j]? := fun lo hi' h1 h2 => fr_ix hi h1 hF.2 [0, 11, 17] (by rfl) (by decide) h2
  have np0 : X10Pr dC dI G ax fa t.heap := ⟨zi0_13, hP1 0 _ rfl⟩
  have np4 : X10P1 dC dI G ax (if ((0 ≤ i.toInt ∧ i.toInt < ((B : Nat) : Int)) ∧ 0 ≤ v.toInt ∧ v.toInt ≤ 9) then upd W0 (20 + 3 * i.toNatClampNeg + 2) v else W0) N B O0 t.heap := ⟨zn11_2, zf12, zf13, zf14, zf15, zf16, u0, (by rw [hu]; exact CR.set6 (by first | with_reducible assumption | assumption) (by first | with_reducible assumption | assumption) (by first | with_reducible assumption | assumption)), p4j1, p4j2, p4j3, p4j4, hP1 1 _ rfl, q12.kept (FR 12 13 (by decide) (by decide) 12 (by decide) (by decide) q12.lt), q13.kept (FR 13 14 (by decide) (by decide) 13 (by decide) (by decide) q13.lt), q14.kept (FR 14 15 (by decide) (by decide) 14 (by decide) (by decide) q14.lt), q15.kept (FR 15 16 (by decide) (by decide) 15 (by decide) (by decide) q15.lt), q16.kept (FR 16 17 (by decide) (by decide) 16 (by decide) (by decide) q16.lt), hP1 2 _ rfl⟩
  exact ⟨⟨r, (), ho, hr.trans (n6_c (by first | with_reducible assumption | assumption)), ⟨np0, p1.kept (FR 1 2 (by decide) (by decide)), p2.kept (FR 2 4 (by decide) (by decide)), p3.kept (FR 4 11 (by decide) (by decide)), np4, p5.kept (FR 18 25 (by decide) (by decide)), p6.kept (FR 25 26 (by decide) (by decide)), p7.kept (FR 26 33 (by decide) (by decide)), p8.kept (FR 33 40 (by decide) (by decide)), p9.kept (FR 40 41 (by decide) (by decide)), p10.kept (FR 41 44 (by decide) (by decide)), p11.kept (FR 44 68 (by decide) (by decide)), p12.kept (FR 68 69 (by decide) (by decide)), p13.kept (FR 69 74 (by decide) (by decide)), p14.kept (FR 74 77 (by decide) (by decide)), p15.kept (FR 77 102 (by decide) (by decide)), p16.kept (FR 102 112 (by decide) (by decide)), ⟨hX, hXV.2⟩⟩⟩, hF.wide (ad_ix [0, 11, 17] (by rfl) (by decide))⟩

set_option maxHeartbeats 1000000 in
set_option maxRecDepth 100000 in
theorem k_X10_putE (l : Launch) (dC : Nat → ClassId) (dI : Nat → Nat → Nat) (G : Nat → ClassId) (sz : Nat) (ax : Nat → Nat) (hi : adInj 129 ax) (T : Nat) (Y : Nat → Int32) (fa : Int32) (W0 : Nat → Int32) (W1 : Nat → Int32) (W2 : Nat → Int32) (N : Nat) (B : Nat) (N1 : Nat) (B1 : Nat) (N2 : Nat) (B2 : Nat) (K : Nat → Int32) (S : Nat) (M : Nat) (E : Nat → Int32) (Z : Nat → Int32) (O0 : Nat → Int32) (O1 : Nat → Int32) (O2 : Nat → Int32) (CE : Nat → Int32) (i : Int32) (k : Int32) : Met l yX10_put (Cond.code yX10_put cX10_put 4 (some .int) :: GT) ({ frames := 1, cells := 0, slots := 0, locals := 21 } : Room) (PcI [.ref (ax 0), .int i, .int k] dC dI G (X10I dC dI G ax T Y fa W0 W1 W2 N B N1 B1 N2 B2 K S M E Z O0 O1 O2 CE) sz) (va_Qi (fun (r : Int32) (_ : Unit) => r = if ((0 ≤ i.toInt ∧ i.toInt < ((N : Nat) : Int)) ∧ (0 ≤ k.toInt ∧ k.toInt < ((B : Nat) : Int))) then O0 i.toNatClampNeg else -1) (fun _ t => X10I dC dI G ax T Y fa W0 W1 W2 N B N1 B1 N2 B2 K S M E Z (if ((0 ≤ i.toInt ∧ i.toInt < ((N : Nat) : Int)) ∧ (0 ≤ k.toInt ∧ k.toInt < ((B : Nat) : Int))) then upd O0 i.toNatClampNeg k else O0) O1 O2 CE t.heap) (adX 0 112 ax sz)) 0 0 (adX 0 112 ax sz) := by
  refine Met.pick (fun a st hp => ?_)
  obtain ⟨e0, hsz, hI, hK⟩ := hp
  subst hsz
  have hI0 := hI
  unfold X10I at hI
  obtain ⟨p0, p1, p2, p3, p4, p5, p6, p7, p8, p9, p10, p11, p12, p13, p14, p15, p16, hX⟩ := hI
  have hXV := hX
  have hX := hXV.1
  unfold X10Pr at p0
  obtain ⟨zi0_13, q0⟩ := p0
  unfold X10P1 at p4
  obtain ⟨zn11_2, zf12, zf13, zf14, zf15, zf16, zf17, p4j0, p4j1, p4j2, p4j3, p4j4, q11, q12, q13, q14, q15, q16, q17⟩ := p4
  refine ⟨_, _, _, c_X10_putE l dC dI G _ (ax 0) (ax 1) (ax 11) (ax 18) (ax 25) (ax 40) (ax 41) (ax 44) (ax 68) (ax 69) (ax 74) (ax 77) (ax 102) (ax 12) (ax 13) (ax 14) (ax 15) (ax 16) (ax 17) N B zn11_2 fa zi0_13 i k zf14 (by first | with_reducible assumption | assumption) (by first | with_reducible assumption | assumption) (by first | with_reducible assumption | assumption), ⟨e0, rfl, (vpc q0 (vpc q11 (vpc q14 va_nilP))), hK, vD_ix hi [0, 11, 14] (by rfl) (by decide) (by decide)⟩, ad_ix [0, 11, 14] (by rfl) (by decide), fun o t hq => ?_⟩
  obtain ⟨⟨r, u0, ho, ⟨hr, hu⟩, hP1, -⟩, hF⟩ := hq
  have FR : ∀ lo hi' : Nat, hi' ≤ 129 → ([0, 11, 14] : List Nat).all (fun x => decide (x < lo) || decide (hi' ≤ x)) = true → ∀ j : Nat, lo ≤ j → j < hi' → ax j < st.heap.size → t.heap[ax j]? = st.heap[ax j]? := fun lo hi' h1 h2 => fr_ix hi h1 hF.2 [0, 11, 14] (by rfl) (by decide) h2
  have np0 : X10Pr dC dI G ax fa t.heap := ⟨zi0_13, hP1 0 _ rfl⟩
  have np4 : X10P1 dC dI G ax W0 N B (if ((0 ≤ i.toInt ∧ i.toInt < ((N : Nat) : Int)) ∧ (0 ≤ k.toInt ∧ k.toInt < ((B : Nat) : Int))) then upd O0 i.toNatClampNeg k else O0) t.heap := ⟨zn11_2, zf12, zf13, u0, zf15, zf16, zf17, p4j0, (by rw [hu]; exact OR.set (by first | with_reducible assumption | assumption)), p4j2, p4j3, p4j4, hP1 1 _ rfl, q12.kept (FR 12 13 (by decide) (by decide) 12 (by decide) (by decide) q12.lt), q13.kept (FR 13 14 (by decide) (by decide) 13 (by decide) (by decide) q13.lt), hP1 2 _ rfl, q15.kept (FR 15 16 (by decide) (by decide) 15 (by decide) (by decide) q15.lt), q16.kept (FR 16 17 (by decide) (by decide) 16 (by decide) (by decide) q16.lt), q17.kept (FR 17 18 (by decide) (by decide) 17 (by decide) (by decide) q17.lt)⟩
  exact ⟨⟨r, (), ho, hr.trans (pu_c (by first | with_reducible assumption | assumption) (by first | with_reducible assumption | assumption)), ⟨np0, p1.kept (FR 1 2 (by decide) (by decide)), p2.kept (FR 2 4 (by decide) (by decide)), p3.kept (FR 4 11 (by decide) (by decide)), np4, p5.kept (FR 18 25 (by decide) (by decide)), p6.kept (FR 25 26 (by decide) (by decide)), p7.kept (FR 26 33 (by decide) (by decide)), p8.kept (FR 33 40 (by decide) (by decide)), p9.kept (FR 40 41 (by decide) (by decide)), p10.kept (FR 41 44 (by decide) (by decide)), p11.kept (FR 44 68 (by decide) (by decide)), p12.kept (FR 68 69 (by decide) (by decide)), p13.kept (FR 69 74 (by decide) (by decide)), p14.kept (FR 74 77 (by decide) (by decide)), p15.kept (FR 77 102 (by decide) (by decide)), p16.kept (FR 102 112 (by decide) (by decide)), ⟨hX, pt_V hXV.2⟩⟩⟩, hF.wide (ad_ix [0, 11, 14] (by rfl) (by decide))⟩
