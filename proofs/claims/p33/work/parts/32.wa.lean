set_option maxHeartbeats 4000000 in
set_option maxRecDepth 100000 in
theorem c_X6_takePairsE (l : Launch) (dC : Nat → ClassId) (dI : Nat → Nat → Nat) (G : Nat → ClassId) (sz : Nat) (h0 la si ce fi se k nn : Nat) (x8 x9 lane x1 : Int32) (fl fz f1 f2 : Nat → Int32) (rc : Nat → Nat) (F : Nat → Nat → Int32) (hk : k < 4) (hnn : nn ≤ 20) (hz : ∀ q : Nat, q < 4 → 0 ≤ (fz q).toInt ∧ (fz q).toInt ≤ 40) (hlne : ¬ lane = -1) : Met l yX6_takePairs (Cond.code yX6_takePairs cX6_takePairs 8 none :: GT) ({ frames := 1, cells := 0, slots := 0, locals := 23 } : Room) (PcW [.ref h0, .int (nI k), .int lane, .int x1, .int (nI nn)] dC dI G (([(h0, .inr (6, [.ref la, .ref si, .ref ce, .int x8, .int x9, .ref fi, .ref se])), (la, .inl (G 0, 4, .inl fl)), (si, .inl (G 0, 4, .inl fz)), (ce, .inl (G 4, 4, .inr (.inr (.inr (.inr (fun ir => if ir < 4 then some (rc ir) else none)))))), (fi, .inl (G 0, 20, .inl f1)), (se, .inl (G 0, 20, .inl f2))] : va_W) ++ ((((List.range 4).map (fun iq => (rc iq, .inl (G 0, 40, .inl (F iq))))) : va_W) ++ [])) sz) (va_Qv (fun (u : Int32 × Nat × (Nat → Int32) × (Nat → Int32)) => match u with | (u0, u1, u2, u3) => u1 = tpK (fl k) lane (fz k).toInt x1.toInt nn ∧ (∀ q9 : Nat, q9 < u1 → u2 q9 = F k (x1.toInt + 2 * (q9 : Int) + 0).toNat) ∧ (∀ q9 : Nat, q9 < u1 → u3 q9 = F k (x1.toInt + 2 * (q9 : Int) + 1).toNat) ∧ u1 ≤ 20) (fun (u : Int32 × Nat × (Nat → Int32) × (Nat → Int32)) (t : State) => match u with | (u0, u1, u2, u3) => va_P (dC, dI) vwCl (([(h0, .inr (6, [.ref la, .ref si, .ref ce, .int u0, .int (nI u1), .ref fi, .ref se])), (la, .inl (G 0, 4, .inl fl)), (si, .inl (G 0, 4, .inl fz)), (ce, .inl (G 4, 4, .inr (.inr (.inr (.inr (fun ir => if ir < 4 then some (rc ir) else none)))))), (fi, .inl (G 0, 20, .inl u2)), (se, .inl (G 0, 20, .inl u3))] : va_W) ++ ((((List.range 4).map (fun iq => (rc iq, .inl (G 0, 40, .inl (F iq))))) : va_W) ++ [])) t.heap ∧ va_D (va_A (([(h0, .inr (6, [.ref la, .ref si, .ref ce, .int x8, .int x9, .ref fi, .ref se])), (la, .inl (G 0, 4, .inl fl)), (si, .inl (G 0, 4, .inl fz)), (ce, .inl (G 4, 4, .inr (.inr (.inr (.inr (fun ir => if ir < 4 then some (rc ir) else none)))))), (fi, .inl (G 0, 20, .inl f1)), (se, .inl (G 0, 20, .inl f2))] : va_W) ++ ((((List.range 4).map (fun iq => (rc iq, .inl (G 0, 40, .inl (F iq))))) : va_W) ++ [])) sz) (([(h0, .inr (6, [.ref la, .ref si, .ref ce, .int u0, .int (nI u1), .ref fi, .ref se])), (la, .inl (G 0, 4, .inl fl)), (si, .inl (G 0, 4, .inl fz)), (ce, .inl (G 4, 4, .inr (.inr (.inr (.inr (fun ir => if ir < 4 then some (rc ir) else none)))))), (fi, .inl (G 0, 20, .inl u2)), (se, .inl (G 0, 20, .inl u3))] : va_W) ++ ((((List.range 4).map (fun iq => (rc iq, .inl (G 0, 40, .inl (F iq))))) : va_W) ++ []))) (va_A (([(h0, .inr (6, [.ref la, .ref si, .ref ce, .int x8, .int x9, .ref fi, .ref se])), (la, .inl (G 0, 4, .inl fl)), (si, .inl (G 0, 4, .inl fz)), (ce, .inl (G 4, 4, .inr (.inr (.inr (.inr (fun ir => if ir < 4 then some (rc ir) else none)))))), (fi, .inl (G 0, 20, .inl f1)), (se, .inl (G 0, 20, .inl f2))] : va_W) ++ ((((List.range 4).map (fun iq => (rc iq, .inl (G 0, 40, .inl (F iq))))) : va_W) ++ [])) sz)) 0 0 (va_A (([(h0, .inr (6, [.ref la, .ref si, .ref ce, .int x8, .int x9, .ref fi, .ref se])), (la, .inl (G 0, 4, .inl fl)), (si, .inl (G 0, 4, .inl fz)), (ce, .inl (G 4, 4, .inr (.inr (.inr (.inr (fun ir => if ir < 4 then some (rc ir) else none)))))), (fi, .inl (G 0, 20, .inl f1)), (se, .inl (G 0, 20, .inl f2))] : va_W) ++ ((((List.range 4).map (fun iq => (rc iq, .inl (G 0, 40, .inl (F iq))))) : va_W) ++ [])) sz) := by
  refine Met.ofW (cc := cX6_takePairs) (maxL := 8) (ret := none) (by decide) rfl ?_
  intro p e s m args below meth c s₁ Bd hml hv
  obtain ⟨rfl, hsz, hP, hK, hD0⟩ := hv
  have hx := Bd.exec
  have hb := Bd.bytes
  have hr := Bd.returns
  have hg : ∀ w ∈ GT, w.before ([.ref h0, .int (nI k), .int lane, .int x1, .int (nI nn)] : List Value).toArray s = true := fun w h => atoms_spec (ws := Cond.code yX6_takePairs cX6_takePairs 8 none :: GT) Bd.pre w (List.mem_cons_of_mem _ h)
  have hown : s.vm.findClass RX6 = some m.cls := findClass_of_methodNamed Bd.named
  have hlocks := Bd.notSynchronized
  subst hsz
  have hD := hD0.self (sz := s.heap.size)
  generalize hAe : va_A (([(h0, .inr (6, [.ref la, .ref si, .ref ce, .int x8, .int x9, .ref fi, .ref se])), (la, .inl (G 0, 4, .inl fl)), (si, .inl (G 0, 4, .inl fz)), (ce, .inl (G 4, 4, .inr (.inr (.inr (.inr (fun ir => if ir < 4 then some (rc ir) else none)))))), (fi, .inl (G 0, 20, .inl f1)), (se, .inl (G 0, 20, .inl f2))] : va_W) ++ ((((List.range 4).map (fun iq => (rc iq, .inl (G 0, 40, .inl (F iq))))) : va_W) ++ [])) s.heap.size = A at hD ⊢
  have hA : ∀ q : Nat, s.heap.size ≤ q → A q := fun q h => by rw [← hAe]; exact Or.inr h
  have hS : va_S A s.heap s.heap [] := va_S.rf
  have hl := lv_entry ([.ref h0, .int (nI k), .int lane, .int x1, .int (nI nn)]) (n := 8) (Nat.le_of_ble_eq_true rfl)
  rw [lg_entry_eq]
  generalize (lg_sl ([.ref h0, .int (nI k), .int lane, .int x1, .int (nI nn)]) ++ List.replicate (8 - (lg_sl ([.ref h0, .int (nI k), .int lane, .int x1, .int (nI nn)])).length) Slot.unset).toArray = ls at hl ⊢
  have hl : lv_has ls 8 [(0, .ref h0), (1, .int (nI k)), (2, .int lane), (3, .int x1), (4, .int (nI nn))] := hl
  have hzk := hz k hk
  refine lv_aload_n hx hb dX6_takePairs_0 rfl (lv_at hl 0 rfl) ?_
  refine lv_iconst (v := 0) hx hb dX6_takePairs_1 rfl ?_
  refine va_put (D := (dC, dI)) (ci := 6) (v := .int 0) (ty := .int) (C := RX6) (T := TX6) (N := 7) hx hb hg inG6 tyX6 tyX6_ok nmX6 hown hK.1 hP hD hS 0 rfl rfl 4 (Nat.le_of_ble_eq_true rfl) (hg _ wt_281) (fun _ h9 => h9) rfl (by decide +kernel) rfl rfl (Nat.le_of_ble_eq_true rfl) dX6_takePairs_2 (fun H locs hP hD hS => ?_)
  obtain ⟨hP, hD⟩ := va_rls (ws' := (([(h0, .inr (6, [.ref la, .ref si, .ref ce, .int x8, .int 0, .ref fi, .ref se])), (la, .inl (G 0, 4, .inl fl)), (si, .inl (G 0, 4, .inl fz)), (ce, .inl (G 4, 4, .inr (.inr (.inr (.inr (fun ir => if ir < 4 then some (rc ir) else none)))))), (fi, .inl (G 0, 20, .inl f1)), (se, .inl (G 0, 20, .inl f2))] : va_W) ++ ((((List.range 4).map (fun iq => (rc iq, .inl (G 0, 40, .inl (F iq))))) : va_W) ++ []))) hP hD rfl
  refine lv_aload_n hx hb dX6_takePairs_5 rfl (lv_at hl 0 rfl) ?_
  refine lv_aload_n hx hb dX6_takePairs_6 rfl (lv_at hl 0 rfl) ?_
  refine va_get (D := (dC, dI)) (ci := 6) (v := .ref la) (C := RX6) (T := TX6) (N := 7) hx hb hg inG6 hown hK.1 hP 0 rfl rfl 0 (Nat.le_of_ble_eq_true rfl) (hg _ wt_276) (fun _ h9 => h9) rfl dX6_takePairs_7 ?_
  refine lv_iload_n hx hb dX6_takePairs_10 rfl (lv_at hl 1 rfl) ?_
  have tn2071_ : nIT k := fun _ => nI_toInt (by omega)
  have tn2072_ : nIT nn := fun _ => nI_toInt (by omega)
  refine va_iald hx hb hK.1 hP 1 0 rfl rfl (vp_in_nI (by first | omega | (have tnb_ := nib2 tn2071_ tn2072_; omega)) (by decide)) dX6_takePairs_11 ?_
  refine lv_cg (y := fl k) (by rw [nI_clamp (by omega)]) ?_
  refine lv_iconst (v := (-1)) hx hb dX6_takePairs_12 rfl ?_
  refine lv_icmp_eq (tgt := 26) hx hb dX6_takePairs_13 rfl (fun c1 => ?_) (fun c1 => ?_)
  · skip
    refine lv_iconst (v := 0) hx hb dX6_takePairs_26 rfl ?_
    refine lv_goto (tgt := 31) hx hb dX6_takePairs_27 rfl ?_
    refine va_put (D := (dC, dI)) (ci := 6) (v := .int 0) (ty := .int) (C := RX6) (T := TX6) (N := 7) hx hb hg inG6 tyX6 tyX6_ok nmX6 hown hK.1 hP hD hS 0 rfl rfl 3 (Nat.le_of_ble_eq_true rfl) (hg _ wt_279) (fun _ h9 => h9) rfl (by decide +kernel) rfl rfl (Nat.le_of_ble_eq_true rfl) dX6_takePairs_31 (fun H locs hP hD hS => ?_)
    obtain ⟨hP, hD⟩ := va_rls (ws' := (([(h0, .inr (6, [.ref la, .ref si, .ref ce, .int 0, .int 0, .ref fi, .ref se])), (la, .inl (G 0, 4, .inl fl)), (si, .inl (G 0, 4, .inl fz)), (ce, .inl (G 4, 4, .inr (.inr (.inr (.inr (fun ir => if ir < 4 then some (rc ir) else none)))))), (fi, .inl (G 0, 20, .inl f1)), (se, .inl (G 0, 20, .inl f2))] : va_W) ++ ((((List.range 4).map (fun iq => (rc iq, .inl (G 0, 40, .inl (F iq))))) : va_W) ++ []))) hP hD rfl
    refine lv_iconst (v := 0) hx hb dX6_takePairs_34 rfl ?_
    refine lv_istore (lv' := [(5, .int 0), (0, .ref h0), (1, .int (nI k)), (2, .int lane), (3, .int x1), (4, .int (nI nn))]) hx hb dX6_takePairs_35 hl (by decide) rfl (fun ls hl => ?_)
    have loop37_8 : ∀ (nf j2 : Nat), 20 + 1 ≤ j2 + nf → j2 ≤ 20 → ∀ (y3 : Int32) (k5 : Nat) (g6 : Nat → Int32) (g7 : Nat → Int32) (H : Heap) (locs : List Loc), ((∀ q9 : Nat, q9 < k5 → g6 q9 = F k (x1.toInt + 2 * (q9 : Int) + 0).toNat) ∧ (∀ q9 : Nat, q9 < k5 → g7 q9 = F k (x1.toInt + 2 * (q9 : Int) + 1).toNat) ∧ ((y3 = 0 ∧ k5 = j2 ∧ (fl k = -1 → j2 = 0) ∧ (¬ fl k = -1 → fl k = lane) ∧ tpM (fz k).toInt x1.toInt (nn - j2) j2 = tpM (fz k).toInt x1.toInt nn 0) ∨ (¬ y3 = 0 ∧ k5 = tpK (fl k) lane (fz k).toInt x1.toInt nn)) ∧ k5 ≤ j2 ∧ j2 ≤ nn) → va_P (dC, dI) vwCl (([(h0, .inr (6, [.ref la, .ref si, .ref ce, .int y3, .int (nI k5), .ref fi, .ref se])), (la, .inl (G 0, 4, .inl fl)), (si, .inl (G 0, 4, .inl fz)), (ce, .inl (G 4, 4, .inr (.inr (.inr (.inr (fun ir => if ir < 4 then some (rc ir) else none)))))), (fi, .inl (G 0, 20, .inl g6)), (se, .inl (G 0, 20, .inl g7))] : va_W) ++ ((((List.range 4).map (fun iq => (rc iq, .inl (G 0, 40, .inl (F iq))))) : va_W) ++ [])) H → va_D A (([(h0, .inr (6, [.ref la, .ref si, .ref ce, .int y3, .int (nI k5), .ref fi, .ref se])), (la, .inl (G 0, 4, .inl fl)), (si, .inl (G 0, 4, .inl fz)), (ce, .inl (G 4, 4, .inr (.inr (.inr (.inr (fun ir => if ir < 4 then some (rc ir) else none)))))), (fi, .inl (G 0, 20, .inl g6)), (se, .inl (G 0, 20, .inl g7))] : va_W) ++ ((((List.range 4).map (fun iq => (rc iq, .inl (G 0, 40, .inl (F iq))))) : va_W) ++ [])) → va_S A s.heap H locs → ∀ (ls : Array Slot), lv_has ls 8 [(5, .int (nI j2)), (0, .ref h0), (1, .int (nI k)), (2, .int lane), (3, .int x1), (4, .int (nI nn))] → W p l e (headSpec (Cond.code yX6_takePairs cX6_takePairs 8 none :: GT) ({ frames := 1, cells := 0, slots := 0, locals := 23 } : Room)).room s m ([.ref h0, .int (nI k), .int lane, .int x1, .int (nI nn)] : List Value).toArray below meth c H locs 0 0 (MQ below (va_Qv (fun (u : Int32 × Nat × (Nat → Int32) × (Nat → Int32)) => match u with | (u0, u1, u2, u3) => u1 = tpK (fl k) lane (fz k).toInt x1.toInt nn ∧ (∀ q9 : Nat, q9 < u1 → u2 q9 = F k (x1.toInt + 2 * (q9 : Int) + 0).toNat) ∧ (∀ q9 : Nat, q9 < u1 → u3 q9 = F k (x1.toInt + 2 * (q9 : Int) + 1).toNat) ∧ u1 ≤ 20) (fun (u : Int32 × Nat × (Nat → Int32) × (Nat → Int32)) (t : State) => match u with | (u0, u1, u2, u3) => va_P (dC, dI) vwCl (([(h0, .inr (6, [.ref la, .ref si, .ref ce, .int u0, .int (nI u1), .ref fi, .ref se])), (la, .inl (G 0, 4, .inl fl)), (si, .inl (G 0, 4, .inl fz)), (ce, .inl (G 4, 4, .inr (.inr (.inr (.inr (fun ir => if ir < 4 then some (rc ir) else none)))))), (fi, .inl (G 0, 20, .inl u2)), (se, .inl (G 0, 20, .inl u3))] : va_W) ++ ((((List.range 4).map (fun iq => (rc iq, .inl (G 0, 40, .inl (F iq))))) : va_W) ++ [])) t.heap ∧ va_D A (([(h0, .inr (6, [.ref la, .ref si, .ref ce, .int u0, .int (nI u1), .ref fi, .ref se])), (la, .inl (G 0, 4, .inl fl)), (si, .inl (G 0, 4, .inl fz)), (ce, .inl (G 4, 4, .inr (.inr (.inr (.inr (fun ir => if ir < 4 then some (rc ir) else none)))))), (fi, .inl (G 0, 20, .inl u2)), (se, .inl (G 0, 20, .inl u3))] : va_W) ++ ((((List.range 4).map (fun iq => (rc iq, .inl (G 0, 40, .inl (F iq))))) : va_W) ++ []))) A) ([.ref h0, .int (nI k), .int lane, .int x1, .int (nI nn)] : List Value).toArray s 0 0 A) (F0 m 37 ls []) := by
      intro nf
      induction nf with
      | zero => intro j2 h1 h2; exact absurd h1 (by omega)
      | succ nf ih37_8 =>
        intro j2 hn9 hj10 y3 k5 g6 g7 H locs hinv hP hD hS ls hl
        refine lv_iload hx hb dX6_takePairs_37 (lv_at hl 0 rfl) ?_
        refine lv_iload hx hb dX6_takePairs_39 (lv_at hl 5 rfl) ?_
        refine lv_icmp_ge (tgt := 160) hx hb dX6_takePairs_41 rfl (fun c11 => ?_) (fun c11 => ?_)
        · skip
          have tn2073_ : nIT j2 := fun _ => nI_toInt (by first | omega | (have t := leI c11; omega))
          have n12 : nn ≤ j2 := by have t := leI c11; rw [show (nI (j2)).toInt = ((j2 : Nat) : Int) from tn2073_ ()] at t; rw [show (nI (nn)).toInt = ((nn : Nat) : Int) from tn2072_ ()] at t; omega
          obtain ⟨hP9, hD9⟩ := va_sub2 (ws' := (([(h0, .inr (6, [.ref la, .ref si, .ref ce, .int y3, .int (nI k5), .ref fi, .ref se])), (la, .inl (G 0, 4, .inl fl)), (si, .inl (G 0, 4, .inl fz)), (ce, .inl (G 4, 4, .inr (.inr (.inr (.inr (fun ir => if ir < 4 then some (rc ir) else none)))))), (fi, .inl (G 0, 20, .inl g6)), (se, .inl (G 0, 20, .inl g7))] : va_W) ++ ((((List.range 4).map (fun iq => (rc iq, .inl (G 0, 40, .inl (F iq))))) : va_W) ++ []))) hP hD [0, 1, 2, 3, 4, 5, 6, 7, 8, 9] (by decide +kernel) rfl
          refine W.widen (k := 0) (n := 0) (Nat.le_of_ble_eq_true rfl) (Nat.le_of_ble_eq_true rfl) ?_
          have tn2074_ : nIT k5 := fun _ => nI_toInt (by first | omega | (have t_c1 := eqI c1; have t_hj10 := hj10; have t_hinv := hinv.2.2.2; have t_n12 := n12; have : ((-1) : Int32).toInt = -1 := qI_m1; omega))
          exact W.vret hx hb hr (fun t ht hW => ⟨⟨(y3, k5, g6, g7), rfl, (by have t_c1 := eqI c1; have t_hj10 := hj10; have t_hinv := hinv.2.2.2; have t_n12 := n12; have : ((-1) : Int32).toInt = -1 := qI_m1; have tnb_ := nib4 tn2071_ tn2072_ tn2073_ tn2074_; have tqz_ := qz41_; have hk : _ = tpK (fl k) lane (fz k).toInt x1.toInt nn := (by rcases hinv.2.2.1 with g9 | g9; (exact tp_end g9.2.1 g9.2.2.1 g9.2.2.2.1 g9.2.2.2.2 hlne (by first | omega | (exfalso; exact absurd g9.1 (by first | with_reducible assumption | assumption)))); exact g9.2); exact ⟨hk, hinv.1, hinv.2.1, by omega⟩), ⟨by rw [ht]; exact hP9, hD9⟩⟩, hS.F ht⟩) hS.2.2 dX6_takePairs_160
        · skip
          have tn2075_ : nIT j2 := fun _ => nI_toInt (by first | omega | (have t := nleI c11; omega))
          have n13 : j2 < nn := by have t := nleI c11; rw [show (nI (j2)).toInt = ((j2 : Nat) : Int) from tn2075_ ()] at t; rw [show (nI (nn)).toInt = ((nn : Nat) : Int) from tn2072_ ()] at t; omega
          refine lv_iload hx hb dX6_takePairs_44 (lv_at hl 0 rfl) ?_
          refine lv_bipush (v := 20) hx hb dX6_takePairs_46 rfl ?_
          refine lv_icmp_ge (tgt := 160) hx hb dX6_takePairs_48 rfl (fun c14 => ?_) (fun c14 => ?_)
          · skip
            have t_c1 := eqI c1
            have t_hj10 := hj10
            have t_hinv := hinv.2.2.2
            have t_n13 := n13
            have t_c14 := leI c14
            have : ((-1) : Int32).toInt = -1 := qI_m1
            have : (20 : Int32).toInt = 20 := qI_20
            have t_n0 : (nI k).toInt = (k : Int) := tn2071_ ()
            have t_n1 : (nI nn).toInt = (nn : Int) := tn2072_ ()
            have t_n2 : (nI j2).toInt = (j2 : Int) := tn2075_ ()
            have tn2076_ : nIT k5 := fun _ => nI_toInt (by omega)
            have t_n3 : (nI k5).toInt = (k5 : Int) := tn2076_ ()
            exfalso; omega
          · skip
            have n15 : j2 < 20 := by have t := nleI c14; rw [show (nI (j2)).toInt = ((j2 : Nat) : Int) from tn2075_ ()] at t; have : (20 : Int32).toInt = 20 := qI_20; omega
            refine lv_aload_n hx hb dX6_takePairs_51 rfl (lv_at hl 1 rfl) ?_
            refine va_get (D := (dC, dI)) (ci := 6) (v := .int y3) (C := RX6) (T := TX6) (N := 7) hx hb hg inG6 hown hK.1 hP 0 rfl rfl 3 (Nat.le_of_ble_eq_true rfl) (hg _ wt_279) (fun _ h9 => h9) rfl dX6_takePairs_52 ?_
            refine lv_if_ne (tgt := 160) hx hb dX6_takePairs_55 rfl (fun c16 => ?_) (fun c16 => ?_)
            · skip
              obtain ⟨hP9, hD9⟩ := va_sub2 (ws' := (([(h0, .inr (6, [.ref la, .ref si, .ref ce, .int y3, .int (nI k5), .ref fi, .ref se])), (la, .inl (G 0, 4, .inl fl)), (si, .inl (G 0, 4, .inl fz)), (ce, .inl (G 4, 4, .inr (.inr (.inr (.inr (fun ir => if ir < 4 then some (rc ir) else none)))))), (fi, .inl (G 0, 20, .inl g6)), (se, .inl (G 0, 20, .inl g7))] : va_W) ++ ((((List.range 4).map (fun iq => (rc iq, .inl (G 0, 40, .inl (F iq))))) : va_W) ++ []))) hP hD [0, 1, 2, 3, 4, 5, 6, 7, 8, 9] (by decide +kernel) rfl
              refine W.widen (k := 0) (n := 0) (Nat.le_of_ble_eq_true rfl) (Nat.le_of_ble_eq_true rfl) ?_
              have tn2077_ : nIT k5 := fun _ => nI_toInt (by first | omega | (have t_c1 := eqI c1; have t_hj10 := hj10; have t_hinv := hinv.2.2.2; have t_n13 := n13; have t_n15 := n15; have t_c16 := neI c16; have tqz_ := qz0_; omega))
              exact W.vret hx hb hr (fun t ht hW => ⟨⟨(y3, k5, g6, g7), rfl, (by have t_c1 := eqI c1; have t_hj10 := hj10; have t_hinv := hinv.2.2.2; have t_n13 := n13; have t_n15 := n15; have t_c16 := neI c16; have tqz_ := qz0_; have tnb_ := nib4 tn2071_ tn2072_ tn2075_ tn2077_; have tqz_ := qz41_; have hk : _ = tpK (fl k) lane (fz k).toInt x1.toInt nn := (by rcases hinv.2.2.1 with g9 | g9; (exact tp_end g9.2.1 g9.2.2.1 g9.2.2.2.1 g9.2.2.2.2 hlne (by first | omega | (exfalso; exact absurd g9.1 (by first | with_reducible assumption | assumption)))); exact g9.2); exact ⟨hk, hinv.1, hinv.2.1, by omega⟩), ⟨by rw [ht]; exact hP9, hD9⟩⟩, hS.F ht⟩) hS.2.2 dX6_takePairs_160
            · skip
              refine lv_iload_n hx hb dX6_takePairs_58 rfl (lv_at hl 4 rfl) ?_
              refine lv_i2l (v := x1.toInt64) hx hb dX6_takePairs_59 rfl ?_
              refine lv_ldc2 (v := 2) hx hb hown (hg _ wt_855) dX6_takePairs_60 ?_
              refine lv_iload hx hb dX6_takePairs_63 (lv_at hl 0 rfl) ?_
              refine lv_i2l (v := (nI j2).toInt64) hx hb dX6_takePairs_65 rfl ?_
              refine lv_lmul hx hb dX6_takePairs_66 ?_
              refine lv_ladd hx hb dX6_takePairs_67 ?_
              refine lv_topl (fun v17 ev17 => ?_)
              refine lv_lstore (lv' := [(6, .long v17), (5, .int (nI j2)), (0, .ref h0), (1, .int (nI k)), (2, .int lane), (3, .int x1), (4, .int (nI nn))]) hx hb dX6_takePairs_68 hl (by decide) rfl (fun ls hl => ?_)
              refine lv_aload_n hx hb dX6_takePairs_70 rfl (lv_at hl 2 rfl) ?_
              refine lv_aload_n hx hb dX6_takePairs_71 rfl (lv_at hl 2 rfl) ?_
              refine lv_iload_n hx hb dX6_takePairs_72 rfl (lv_at hl 3 rfl) ?_
              refine lv_lload hx hb dX6_takePairs_73 (lv_at hl 0 rfl) ?_
              have hPc := hP.sub (ws' := [(h0, .inr (6, [.ref la, .ref si, .ref ce, .int y3, .int (nI k5), .ref fi, .ref se])), (la, .inl (G 0, 4, .inl fl)), (si, .inl (G 0, 4, .inl fz))]) [0, 1, 2] rfl
              have tn2078_ : nIT k5 := fun _ => nI_toInt (by first | omega | (have t_c1 := eqI c1; have t_hj10 := hj10; have t_hinv := hinv.2.2.2; have t_n13 := n13; have t_n15 := n15; have t_c16 := eqI c16; have tqz_ := qz0_; omega))
              refine va_calli (va_runV (As := [.int (nI k), .long v17]) (rest := [.ref h0]) ⟨hx, hb, hml, hown, hg⟩ (c_X6_faultAt l dC dI G _ h0 la si ce fi se k y3 (nI k5) v17 fl fz hk) (kwV hg mfX6_faultAt wt_846 ⟨Nat.le_of_ble_eq_true rfl, Nat.le_of_ble_eq_true rfl⟩) (preVR hK hPc (ci := 6) (r := (RX6, TX6, 7)) rfl rfl) rfl rfl hl.1 rfl (lv_room (Nat.le_of_ble_eq_true rfl)) dX6_takePairs_75 ⟨Nat.le_of_ble_eq_true rfl, Nat.le_of_ble_eq_true rfl⟩) hS (fun q h1 h2 => absurd h2 (Nat.not_le.mpr h1)) (fun q h => hA q (Nat.le_trans hS.1 h)) (fun r18 ur18 t H1 locs ht hvm w19 hB hz1 hk1 hS => ?_)
              have hP := keepR hP hk1
              obtain ⟨w19, w19x⟩ := w19
              refine va_put (D := (dC, dI)) (ci := 6) (v := .int r18) (ty := .int) (C := RX6) (T := TX6) (N := 7) hx hb hg inG6 tyX6 tyX6_ok nmX6 hown hK.1 hP hD hS 0 rfl rfl 3 (Nat.le_of_ble_eq_true rfl) (hg _ wt_279) (fun _ h9 => h9) rfl (by decide +kernel) rfl rfl (Nat.le_of_ble_eq_true rfl) dX6_takePairs_78 (fun H locs hP hD hS => ?_)
              obtain ⟨hP, hD⟩ := va_rls (ws' := (([(h0, .inr (6, [.ref la, .ref si, .ref ce, .int r18, .int (nI k5), .ref fi, .ref se])), (la, .inl (G 0, 4, .inl fl)), (si, .inl (G 0, 4, .inl fz)), (ce, .inl (G 4, 4, .inr (.inr (.inr (.inr (fun ir => if ir < 4 then some (rc ir) else none)))))), (fi, .inl (G 0, 20, .inl g6)), (se, .inl (G 0, 20, .inl g7))] : va_W) ++ ((((List.range 4).map (fun iq => (rc iq, .inl (G 0, 40, .inl (F iq))))) : va_W) ++ []))) hP hD rfl
              refine lv_aload_n hx hb dX6_takePairs_81 rfl (lv_at hl 2 rfl) ?_
              refine va_get (D := (dC, dI)) (ci := 6) (v := .int r18) (C := RX6) (T := TX6) (N := 7) hx hb hg inG6 hown hK.1 hP 0 rfl rfl 3 (Nat.le_of_ble_eq_true rfl) (hg _ wt_279) (fun _ h9 => h9) rfl dX6_takePairs_82 ?_
              refine lv_if_ne (tgt := 101) hx hb dX6_takePairs_85 rfl (fun c20 => ?_) (fun c20 => ?_)
              · skip
                refine lv_aload_n hx hb dX6_takePairs_101 rfl (lv_at hl 2 rfl) ?_
                refine va_get (D := (dC, dI)) (ci := 6) (v := .int r18) (C := RX6) (T := TX6) (N := 7) hx hb hg inG6 hown hK.1 hP 0 rfl rfl 3 (Nat.le_of_ble_eq_true rfl) (hg _ wt_279) (fun _ h9 => h9) rfl dX6_takePairs_102 ?_
                refine lv_if_ne (tgt := 154) hx hb dX6_takePairs_105 rfl (fun c21 => ?_) (fun c21 => ?_)
                · skip
                  refine lv_iinc (v := nI (j2 + 1)) (lv' := [(5, .int (nI (j2 + 1))), (6, .long v17), (0, .ref h0), (1, .int (nI k)), (2, .int lane), (3, .int x1), (4, .int (nI nn))]) hx hb dX6_takePairs_154 hl (k := 1) rfl (by rw [show Int32.ofInt 1 = nI 1 from by decide]; exact nI_add _ _) (by decide) rfl (fun ls hl => ?_)
                  refine lv_goto (tgt := 37) hx hb dX6_takePairs_157 rfl ?_
                  exact ih37_8 (j2 + 1) (by omega) (by omega) r18 k5 g6 g7 _ _ ⟨hinv.1, hinv.2.1, Or.inr ⟨by assumption, (by have ea : v17.toInt = x1.toInt + 2 * (j2 : Int) := (by rw [ev17]; exact at64 x1 (by (have t_c1 := eqI c1; have t_hj10 := hj10; have t_hinv := hinv.2.2.2; have t_n13 := n13; have t_n15 := n15; have t_c16 := eqI c16; have t_c20 := neI c20; have t_c21 := neI c21; have tqz_ := qz0_; have tnb_ := nib4 tn2071_ tn2072_ tn2075_ tn2078_; have tqz_ := qz41_; omega))); have eb : (v17 + 1).toInt = v17.toInt + 1 := l1_e (by have := x1.toInt_lt; have := x1.le_toInt; (have t_c1 := eqI c1; have t_hj10 := hj10; have t_hinv := hinv.2.2.2; have t_n13 := n13; have t_n15 := n15; have t_c16 := eqI c16; have t_c20 := neI c20; have t_c21 := neI c21; have tqz_ := qz0_; have tnb_ := nib4 tn2071_ tn2072_ tn2075_ tn2078_; have tqz_ := qz41_; omega)) (by have := x1.toInt_lt; have := x1.le_toInt; (have t_c1 := eqI c1; have t_hj10 := hj10; have t_hinv := hinv.2.2.2; have t_n13 := n13; have t_n15 := n15; have t_c16 := eqI c16; have t_c20 := neI c20; have t_c21 := neI c21; have tqz_ := qz0_; have tnb_ := nib4 tn2071_ tn2072_ tn2075_ tn2078_; have tqz_ := qz41_; omega)); have g9 := (hinv.2.2.1.resolve_right (fun h9 => h9.1 (by first | with_reducible assumption | assumption))); exact tp_stop g9.2.1 g9.2.2.1 g9.2.2.2.1 g9.2.2.2.2 hlne (fa1 w19 (by first | with_reducible assumption | assumption) (by (have t_c1 := eqI c1; have t_hj10 := hj10; have t_hinv := hinv.2.2.2; have t_n13 := n13; have t_n15 := n15; have t_c16 := eqI c16; have t_c20 := neI c20; have t_c21 := neI c21; have tqz_ := qz0_; have tnb_ := nib4 tn2071_ tn2072_ tn2075_ tn2078_; have tqz_ := qz41_; omega))))⟩, (by have t_c1 := eqI c1; have t_hj10 := hj10; have t_hinv := hinv.2.2.2; have t_n13 := n13; have t_n15 := n15; have t_c16 := eqI c16; have t_c20 := neI c20; have t_c21 := neI c21; have tqz_ := qz0_; have tnb_ := nib4 tn2071_ tn2072_ tn2075_ tn2078_; have tqz_ := qz41_; omega), (by have t_c1 := eqI c1; have t_hj10 := hj10; have t_hinv := hinv.2.2.2; have t_n13 := n13; have t_n15 := n15; have t_c16 := eqI c16; have t_c20 := neI c20; have t_c21 := neI c21; have tqz_ := qz0_; have tnb_ := nib4 tn2071_ tn2072_ tn2075_ tn2078_; have tqz_ := qz41_; omega)⟩ hP hD hS ls (lv_sub hl [0, 2, 3, 4, 5, 6] rfl)
                · skip
                  have t_c1 := eqI c1
                  have t_hj10 := hj10
                  have t_hinv := hinv.2.2.2
                  have t_n13 := n13
                  have t_n15 := n15
                  have t_c16 := eqI c16
                  have t_c20 := neI c20
                  have t_c21 := eqI c21
                  have : ((-1) : Int32).toInt = -1 := qI_m1
                  have : (0 : Int32).toInt = 0 := qI_0
                  have t_n0 : (nI k).toInt = (k : Int) := tn2071_ ()
                  have t_n1 : (nI nn).toInt = (nn : Int) := tn2072_ ()
                  have t_n2 : (nI j2).toInt = (j2 : Int) := tn2075_ ()
                  have t_n3 : (nI k5).toInt = (k5 : Int) := tn2078_ ()
                  exfalso; omega
              · skip
                have b22 := fz0 w19 c20
                refine lv_aload_n hx hb dX6_takePairs_88 rfl (lv_at hl 2 rfl) ?_
                refine lv_aload_n hx hb dX6_takePairs_89 rfl (lv_at hl 2 rfl) ?_
                refine lv_iload_n hx hb dX6_takePairs_90 rfl (lv_at hl 3 rfl) ?_
                refine lv_lload hx hb dX6_takePairs_91 (lv_at hl 0 rfl) ?_
                refine lv_lconst (v := 1) hx hb dX6_takePairs_93 (by decide) ?_
                refine lv_ladd hx hb dX6_takePairs_94 ?_
                have hPc := hP.sub (ws' := [(h0, .inr (6, [.ref la, .ref si, .ref ce, .int r18, .int (nI k5), .ref fi, .ref se])), (la, .inl (G 0, 4, .inl fl)), (si, .inl (G 0, 4, .inl fz))]) [0, 1, 2] rfl
                refine va_calli (va_runV (As := [.int (nI k), .long (v17 + 1)]) (rest := [.ref h0]) ⟨hx, hb, hml, hown, hg⟩ (c_X6_faultAt l dC dI G _ h0 la si ce fi se k r18 (nI k5) (v17 + 1) fl fz hk) (kwV hg mfX6_faultAt wt_846 ⟨Nat.le_of_ble_eq_true rfl, Nat.le_of_ble_eq_true rfl⟩) (preVR hK hPc (ci := 6) (r := (RX6, TX6, 7)) rfl rfl) rfl rfl hl.1 rfl (lv_room (Nat.le_of_ble_eq_true rfl)) dX6_takePairs_95 ⟨Nat.le_of_ble_eq_true rfl, Nat.le_of_ble_eq_true rfl⟩) hS (fun q h1 h2 => absurd h2 (Nat.not_le.mpr h1)) (fun q h => hA q (Nat.le_trans hS.1 h)) (fun r23 ur23 t H1 locs ht hvm w24 hB hz1 hk1 hS => ?_)
                have hP := keepR hP hk1
                obtain ⟨w24, w24x⟩ := w24
                refine va_put (D := (dC, dI)) (ci := 6) (v := .int r23) (ty := .int) (C := RX6) (T := TX6) (N := 7) hx hb hg inG6 tyX6 tyX6_ok nmX6 hown hK.1 hP hD hS 0 rfl rfl 3 (Nat.le_of_ble_eq_true rfl) (hg _ wt_279) (fun _ h9 => h9) rfl (by decide +kernel) rfl rfl (Nat.le_of_ble_eq_true rfl) dX6_takePairs_98 (fun H locs hP hD hS => ?_)
                obtain ⟨hP, hD⟩ := va_rls (ws' := (([(h0, .inr (6, [.ref la, .ref si, .ref ce, .int r23, .int (nI k5), .ref fi, .ref se])), (la, .inl (G 0, 4, .inl fl)), (si, .inl (G 0, 4, .inl fz)), (ce, .inl (G 4, 4, .inr (.inr (.inr (.inr (fun ir => if ir < 4 then some (rc ir) else none)))))), (fi, .inl (G 0, 20, .inl g6)), (se, .inl (G 0, 20, .inl g7))] : va_W) ++ ((((List.range 4).map (fun iq => (rc iq, .inl (G 0, 40, .inl (F iq))))) : va_W) ++ []))) hP hD rfl
                refine lv_aload_n hx hb dX6_takePairs_101 rfl (lv_at hl 2 rfl) ?_
                refine va_get (D := (dC, dI)) (ci := 6) (v := .int r23) (C := RX6) (T := TX6) (N := 7) hx hb hg inG6 hown hK.1 hP 0 rfl rfl 3 (Nat.le_of_ble_eq_true rfl) (hg _ wt_279) (fun _ h9 => h9) rfl dX6_takePairs_102 ?_
                refine lv_if_ne (tgt := 154) hx hb dX6_takePairs_105 rfl (fun c25 => ?_) (fun c25 => ?_)
                · skip
                  refine lv_iinc (v := nI (j2 + 1)) (lv' := [(5, .int (nI (j2 + 1))), (6, .long v17), (0, .ref h0), (1, .int (nI k)), (2, .int lane), (3, .int x1), (4, .int (nI nn))]) hx hb dX6_takePairs_154 hl (k := 1) rfl (by rw [show Int32.ofInt 1 = nI 1 from by decide]; exact nI_add _ _) (by decide) rfl (fun ls hl => ?_)
                  refine lv_goto (tgt := 37) hx hb dX6_takePairs_157 rfl ?_
                  exact ih37_8 (j2 + 1) (by omega) (by omega) r23 k5 g6 g7 _ _ ⟨hinv.1, hinv.2.1, Or.inr ⟨by assumption, (by have ea : v17.toInt = x1.toInt + 2 * (j2 : Int) := (by rw [ev17]; exact at64 x1 (by (have t_c1 := eqI c1; have t_hj10 := hj10; have t_hinv := hinv.2.2.2; have t_n13 := n13; have t_n15 := n15; have t_c16 := eqI c16; have t_b22 := b22; have t_c25 := neI c25; have tqz_ := qz0_; have tnb_ := nib4 tn2071_ tn2072_ tn2075_ tn2078_; have tqz_ := qz41_; omega))); have eb : (v17 + 1).toInt = v17.toInt + 1 := l1_e (by have := x1.toInt_lt; have := x1.le_toInt; (have t_c1 := eqI c1; have t_hj10 := hj10; have t_hinv := hinv.2.2.2; have t_n13 := n13; have t_n15 := n15; have t_c16 := eqI c16; have t_b22 := b22; have t_c25 := neI c25; have tqz_ := qz0_; have tnb_ := nib4 tn2071_ tn2072_ tn2075_ tn2078_; have tqz_ := qz41_; omega)) (by have := x1.toInt_lt; have := x1.le_toInt; (have t_c1 := eqI c1; have t_hj10 := hj10; have t_hinv := hinv.2.2.2; have t_n13 := n13; have t_n15 := n15; have t_c16 := eqI c16; have t_b22 := b22; have t_c25 := neI c25; have tqz_ := qz0_; have tnb_ := nib4 tn2071_ tn2072_ tn2075_ tn2078_; have tqz_ := qz41_; omega)); have g9 := (hinv.2.2.1.resolve_right (fun h9 => h9.1 (by first | with_reducible assumption | assumption))); exact tp_stop g9.2.1 g9.2.2.1 g9.2.2.2.1 g9.2.2.2.2 hlne (fa1 w24 (by first | with_reducible assumption | assumption) (by (have t_c1 := eqI c1; have t_hj10 := hj10; have t_hinv := hinv.2.2.2; have t_n13 := n13; have t_n15 := n15; have t_c16 := eqI c16; have t_b22 := b22; have t_c25 := neI c25; have tqz_ := qz0_; have tnb_ := nib4 tn2071_ tn2072_ tn2075_ tn2078_; have tqz_ := qz41_; omega))))⟩, (by have t_c1 := eqI c1; have t_hj10 := hj10; have t_hinv := hinv.2.2.2; have t_n13 := n13; have t_n15 := n15; have t_c16 := eqI c16; have t_b22 := b22; have t_c25 := neI c25; have tqz_ := qz0_; have tnb_ := nib4 tn2071_ tn2072_ tn2075_ tn2078_; have tqz_ := qz41_; omega), (by have t_c1 := eqI c1; have t_hj10 := hj10; have t_hinv := hinv.2.2.2; have t_n13 := n13; have t_n15 := n15; have t_c16 := eqI c16; have t_b22 := b22; have t_c25 := neI c25; have tqz_ := qz0_; have tnb_ := nib4 tn2071_ tn2072_ tn2075_ tn2078_; have tqz_ := qz41_; omega)⟩ hP hD hS ls (lv_sub hl [0, 2, 3, 4, 5, 6] rfl)
                · skip
                  have b26 := fz0 w24 c25
                  refine lv_aload_n hx hb dX6_takePairs_108 rfl (lv_at hl 2 rfl) ?_
                  refine va_get (D := (dC, dI)) (ci := 6) (v := .ref fi) (C := RX6) (T := TX6) (N := 7) hx hb hg inG6 hown hK.1 hP 0 rfl rfl 5 (Nat.le_of_ble_eq_true rfl) (hg _ wt_283) (fun _ h9 => h9) rfl dX6_takePairs_109 ?_
                  refine lv_iload hx hb dX6_takePairs_112 (lv_at hl 1 rfl) ?_
                  refine lv_aload_n hx hb dX6_takePairs_114 rfl (lv_at hl 2 rfl) ?_
                  refine va_get (D := (dC, dI)) (ci := 6) (v := .ref ce) (C := RX6) (T := TX6) (N := 7) hx hb hg inG6 hown hK.1 hP 0 rfl rfl 2 (Nat.le_of_ble_eq_true rfl) (hg _ wt_278) (fun _ h9 => h9) rfl dX6_takePairs_115 ?_
                  refine lv_iload_n hx hb dX6_takePairs_118 rfl (lv_at hl 3 rfl) ?_
                  refine va_aldA hx hb hK.1 hP 3 4 rfl rfl (vp_in_nI (by first | omega | (have t_c1 := eqI c1; have t_hj10 := hj10; have t_hinv := hinv.2.2.2; have t_n13 := n13; have t_n15 := n15; have t_c16 := eqI c16; have t_b22 := b22; have t_b26 := b26; have tqz_ := qz0_; have tnb_ := nib4 tn2071_ tn2072_ tn2075_ tn2078_; omega)) (by decide)) dX6_takePairs_119 ?_
                  refine lv_cgv (y := .ref (rc k)) (rowref (by first | omega | (have t_c1 := eqI c1; have t_hj10 := hj10; have t_hinv := hinv.2.2.2; have t_n13 := n13; have t_n15 := n15; have t_c16 := eqI c16; have t_b22 := b22; have t_b26 := b26; have tqz_ := qz0_; have tnb_ := nib4 tn2071_ tn2072_ tn2075_ tn2078_; omega)) (by decide)) ?_
                  refine lv_lload hx hb dX6_takePairs_120 (lv_at hl 0 rfl) ?_
                  refine lv_l2i (v := _) hx hb dX6_takePairs_122 rfl ?_
                  refine lv_topi (fun v27 ev27 => ?_)
                  have hz28 := l2i_in (x := v17) (by have t_c1 := eqI c1; have t_hj10 := hj10; have t_hinv := hinv.2.2.2; have t_n13 := n13; have t_n15 := n15; have t_c16 := eqI c16; have t_b22 := b22; have t_b26 := b26; have tqz_ := qz0_; have tnb_ := nib4 tn2071_ tn2072_ tn2075_ tn2078_; omega) (by have t_c1 := eqI c1; have t_hj10 := hj10; have t_hinv := hinv.2.2.2; have t_n13 := n13; have t_n15 := n15; have t_c16 := eqI c16; have t_b22 := b22; have t_b26 := b26; have tqz_ := qz0_; have tnb_ := nib4 tn2071_ tn2072_ tn2075_ tn2078_; omega)
                  rw [← ev27] at hz28
                  refine va_iald hx hb hK.1 (blk_P (j := k) hP (by first | omega | (have t_c1 := eqI c1; have t_hj10 := hj10; have t_hinv := hinv.2.2.2; have t_n13 := n13; have t_n15 := n15; have t_c16 := eqI c16; have t_b22 := b22; have t_b26 := b26; have t_hz28 := hz28; have tqz_ := qz0_; have tnb_ := nib4 tn2071_ tn2072_ tn2075_ tn2078_; omega))) 0 0 rfl rfl (vp_in_iff.mpr (by have t_c1 := eqI c1; have t_hj10 := hj10; have t_hinv := hinv.2.2.2; have t_n13 := n13; have t_n15 := n15; have t_c16 := eqI c16; have t_b22 := b22; have t_b26 := b26; have t_hz28 := hz28; have tqz_ := qz0_; have tnb_ := nib4 tn2071_ tn2072_ tn2075_ tn2078_; constructor <;> omega)) dX6_takePairs_123 ?_
                  refine va_iast hx hb hK.1 hP hD hS 4 0 rfl rfl (vp_in_nI (by first | omega | (have t_c1 := eqI c1; have t_hj10 := hj10; have t_hinv := hinv.2.2.2; have t_n13 := n13; have t_n15 := n15; have t_c16 := eqI c16; have t_b22 := b22; have t_b26 := b26; have t_hz28 := hz28; have tqz_ := qz0_; have tnb_ := nib4 tn2071_ tn2072_ tn2075_ tn2078_; omega)) (by decide)) dX6_takePairs_124 (fun H locs hP hD hS => ?_)
                  rw [nI_clamp (by omega)] at hP hD
                  obtain ⟨hP, hD⟩ := va_rls (ws' := (([(h0, .inr (6, [.ref la, .ref si, .ref ce, .int r23, .int (nI k5), .ref fi, .ref se])), (la, .inl (G 0, 4, .inl fl)), (si, .inl (G 0, 4, .inl fz)), (ce, .inl (G 4, 4, .inr (.inr (.inr (.inr (fun ir => if ir < 4 then some (rc ir) else none)))))), (fi, .inl (G 0, 20, .inl (upd g6 j2 (F k v27.toNatClampNeg)))), (se, .inl (G 0, 20, .inl g7))] : va_W) ++ ((((List.range 4).map (fun iq => (rc iq, .inl (G 0, 40, .inl (F iq))))) : va_W) ++ []))) hP hD rfl
                  refine lv_aload_n hx hb dX6_takePairs_125 rfl (lv_at hl 2 rfl) ?_
                  refine va_get (D := (dC, dI)) (ci := 6) (v := .ref se) (C := RX6) (T := TX6) (N := 7) hx hb hg inG6 hown hK.1 hP 0 rfl rfl 6 (Nat.le_of_ble_eq_true rfl) (hg _ wt_285) (fun _ h9 => h9) rfl dX6_takePairs_126 ?_
                  refine lv_iload hx hb dX6_takePairs_129 (lv_at hl 1 rfl) ?_
                  refine lv_aload_n hx hb dX6_takePairs_131 rfl (lv_at hl 2 rfl) ?_
                  refine va_get (D := (dC, dI)) (ci := 6) (v := .ref ce) (C := RX6) (T := TX6) (N := 7) hx hb hg inG6 hown hK.1 hP 0 rfl rfl 2 (Nat.le_of_ble_eq_true rfl) (hg _ wt_278) (fun _ h9 => h9) rfl dX6_takePairs_132 ?_
                  refine lv_iload_n hx hb dX6_takePairs_135 rfl (lv_at hl 3 rfl) ?_
                  refine va_aldA hx hb hK.1 hP 3 4 rfl rfl (vp_in_nI (by first | omega | (have t_c1 := eqI c1; have t_hj10 := hj10; have t_hinv := hinv.2.2.2; have t_n13 := n13; have t_n15 := n15; have t_c16 := eqI c16; have t_b22 := b22; have t_b26 := b26; have t_hz28 := hz28; have tqz_ := qz0_; have tnb_ := nib4 tn2071_ tn2072_ tn2075_ tn2078_; omega)) (by decide)) dX6_takePairs_136 ?_
                  refine lv_cgv (y := .ref (rc k)) (rowref (by first | omega | (have t_c1 := eqI c1; have t_hj10 := hj10; have t_hinv := hinv.2.2.2; have t_n13 := n13; have t_n15 := n15; have t_c16 := eqI c16; have t_b22 := b22; have t_b26 := b26; have t_hz28 := hz28; have tqz_ := qz0_; have tnb_ := nib4 tn2071_ tn2072_ tn2075_ tn2078_; omega)) (by decide)) ?_
                  refine lv_lload hx hb dX6_takePairs_137 (lv_at hl 0 rfl) ?_
                  refine lv_l2i (v := _) hx hb dX6_takePairs_139 rfl ?_
                  refine lv_topi (fun v29 ev29 => ?_)
                  have hz30 := l2i_in (x := v17) (by have t_c1 := eqI c1; have t_hj10 := hj10; have t_hinv := hinv.2.2.2; have t_n13 := n13; have t_n15 := n15; have t_c16 := eqI c16; have t_b22 := b22; have t_b26 := b26; have t_hz28 := hz28; have tqz_ := qz0_; have tnb_ := nib4 tn2071_ tn2072_ tn2075_ tn2078_; omega) (by have t_c1 := eqI c1; have t_hj10 := hj10; have t_hinv := hinv.2.2.2; have t_n13 := n13; have t_n15 := n15; have t_c16 := eqI c16; have t_b22 := b22; have t_b26 := b26; have t_hz28 := hz28; have tqz_ := qz0_; have tnb_ := nib4 tn2071_ tn2072_ tn2075_ tn2078_; omega)
                  rw [← ev29] at hz30
                  refine lv_iconst (v := 1) hx hb dX6_takePairs_140 rfl ?_
                  refine lv_iadd hx hb dX6_takePairs_141 ?_
                  have hi31 : (v29 + 1).toInt = v29.toInt + 1 := i1_in (by have t_c1 := eqI c1; have t_hj10 := hj10; have t_hinv := hinv.2.2.2; have t_n13 := n13; have t_n15 := n15; have t_c16 := eqI c16; have t_b22 := b22; have t_b26 := b26; have t_hz28 := hz28; have t_hz30 := hz30; have tqz_ := qz0_; have tnb_ := nib4 tn2071_ tn2072_ tn2075_ tn2078_; omega) (by have t_c1 := eqI c1; have t_hj10 := hj10; have t_hinv := hinv.2.2.2; have t_n13 := n13; have t_n15 := n15; have t_c16 := eqI c16; have t_b22 := b22; have t_b26 := b26; have t_hz28 := hz28; have t_hz30 := hz30; have tqz_ := qz0_; have tnb_ := nib4 tn2071_ tn2072_ tn2075_ tn2078_; omega)
                  have hl32 := l1_in (x := v17) (by have t_c1 := eqI c1; have t_hj10 := hj10; have t_hinv := hinv.2.2.2; have t_n13 := n13; have t_n15 := n15; have t_c16 := eqI c16; have t_b22 := b22; have t_b26 := b26; have t_hz28 := hz28; have t_hz30 := hz30; have tqz_ := qz0_; have tnb_ := nib4 tn2071_ tn2072_ tn2075_ tn2078_; omega) (by have t_c1 := eqI c1; have t_hj10 := hj10; have t_hinv := hinv.2.2.2; have t_n13 := n13; have t_n15 := n15; have t_c16 := eqI c16; have t_b22 := b22; have t_b26 := b26; have t_hz28 := hz28; have t_hz30 := hz30; have tqz_ := qz0_; have tnb_ := nib4 tn2071_ tn2072_ tn2075_ tn2078_; omega) (show (v17 + 1).toInt < (fz k).toInt by have t_c1 := eqI c1; have t_hj10 := hj10; have t_hinv := hinv.2.2.2; have t_n13 := n13; have t_n15 := n15; have t_c16 := eqI c16; have t_b22 := b22; have t_b26 := b26; have t_hz28 := hz28; have t_hz30 := hz30; have tqz_ := qz0_; have tnb_ := nib4 tn2071_ tn2072_ tn2075_ tn2078_; omega)
                  refine va_iald hx hb hK.1 (blk_P (j := k) hP (by first | omega | (have t_c1 := eqI c1; have t_hj10 := hj10; have t_hinv := hinv.2.2.2; have t_n13 := n13; have t_n15 := n15; have t_c16 := eqI c16; have t_b22 := b22; have t_b26 := b26; have t_hz28 := hz28; have t_hz30 := hz30; have t_hi31 := hi31; have t_hl32 := hl32; have tqz_ := qz0_; have tnb_ := nib4 tn2071_ tn2072_ tn2075_ tn2078_; omega))) 0 0 rfl rfl (vp_in_iff.mpr (by have t_c1 := eqI c1; have t_hj10 := hj10; have t_hinv := hinv.2.2.2; have t_n13 := n13; have t_n15 := n15; have t_c16 := eqI c16; have t_b22 := b22; have t_b26 := b26; have t_hz28 := hz28; have t_hz30 := hz30; have t_hi31 := hi31; have t_hl32 := hl32; have tqz_ := qz0_; have tnb_ := nib4 tn2071_ tn2072_ tn2075_ tn2078_; constructor <;> omega)) dX6_takePairs_142 ?_
                  refine va_iast hx hb hK.1 hP hD hS 5 0 rfl rfl (vp_in_nI (by first | omega | (have t_c1 := eqI c1; have t_hj10 := hj10; have t_hinv := hinv.2.2.2; have t_n13 := n13; have t_n15 := n15; have t_c16 := eqI c16; have t_b22 := b22; have t_b26 := b26; have t_hz28 := hz28; have t_hz30 := hz30; have t_hi31 := hi31; have t_hl32 := hl32; have tqz_ := qz0_; have tnb_ := nib4 tn2071_ tn2072_ tn2075_ tn2078_; omega)) (by decide)) dX6_takePairs_143 (fun H locs hP hD hS => ?_)
                  rw [nI_clamp (by omega)] at hP hD
                  obtain ⟨hP, hD⟩ := va_rls (ws' := (([(h0, .inr (6, [.ref la, .ref si, .ref ce, .int r23, .int (nI k5), .ref fi, .ref se])), (la, .inl (G 0, 4, .inl fl)), (si, .inl (G 0, 4, .inl fz)), (ce, .inl (G 4, 4, .inr (.inr (.inr (.inr (fun ir => if ir < 4 then some (rc ir) else none)))))), (fi, .inl (G 0, 20, .inl (upd g6 j2 (F k v27.toNatClampNeg)))), (se, .inl (G 0, 20, .inl (upd g7 j2 (F k (v29 + 1).toNatClampNeg))))] : va_W) ++ ((((List.range 4).map (fun iq => (rc iq, .inl (G 0, 40, .inl (F iq))))) : va_W) ++ []))) hP hD rfl
                  refine lv_aload_n hx hb dX6_takePairs_144 rfl (lv_at hl 2 rfl) ?_
                  refine lv_dup hx hb dX6_takePairs_145 rfl ?_
                  refine va_get (D := (dC, dI)) (ci := 6) (v := .int (nI k5)) (C := RX6) (T := TX6) (N := 7) hx hb hg inG6 hown hK.1 hP 0 rfl rfl 4 (Nat.le_of_ble_eq_true rfl) (hg _ wt_281) (fun _ h9 => h9) rfl dX6_takePairs_146 ?_
                  refine lv_iconst (v := 1) hx hb dX6_takePairs_149 rfl ?_
                  refine lv_iadd hx hb dX6_takePairs_150 ?_
                  refine lv_cg (y := nI (k5 + 1)) (by rw [show (1 : Int32) = nI 1 from rfl]; exact nI_add _ _) ?_
                  refine va_put (D := (dC, dI)) (ci := 6) (v := .int (nI (k5 + 1))) (ty := .int) (C := RX6) (T := TX6) (N := 7) hx hb hg inG6 tyX6 tyX6_ok nmX6 hown hK.1 hP hD hS 0 rfl rfl 4 (Nat.le_of_ble_eq_true rfl) (hg _ wt_281) (fun _ h9 => h9) rfl (by decide +kernel) rfl rfl (Nat.le_of_ble_eq_true rfl) dX6_takePairs_151 (fun H locs hP hD hS => ?_)
                  obtain ⟨hP, hD⟩ := va_rls (ws' := (([(h0, .inr (6, [.ref la, .ref si, .ref ce, .int r23, .int (nI (k5 + 1)), .ref fi, .ref se])), (la, .inl (G 0, 4, .inl fl)), (si, .inl (G 0, 4, .inl fz)), (ce, .inl (G 4, 4, .inr (.inr (.inr (.inr (fun ir => if ir < 4 then some (rc ir) else none)))))), (fi, .inl (G 0, 20, .inl (upd g6 j2 (F k v27.toNatClampNeg)))), (se, .inl (G 0, 20, .inl (upd g7 j2 (F k (v29 + 1).toNatClampNeg))))] : va_W) ++ ((((List.range 4).map (fun iq => (rc iq, .inl (G 0, 40, .inl (F iq))))) : va_W) ++ []))) hP hD rfl
                  refine lv_iinc (v := nI (j2 + 1)) (lv' := [(5, .int (nI (j2 + 1))), (6, .long v17), (0, .ref h0), (1, .int (nI k)), (2, .int lane), (3, .int x1), (4, .int (nI nn))]) hx hb dX6_takePairs_154 hl (k := 1) rfl (by rw [show Int32.ofInt 1 = nI 1 from by decide]; exact nI_add _ _) (by decide) rfl (fun ls hl => ?_)
                  refine lv_goto (tgt := 37) hx hb dX6_takePairs_157 rfl ?_
                  exact ih37_8 (j2 + 1) (by omega) (by omega) r23 (k5 + 1) (upd g6 j2 (F k v27.toNatClampNeg)) (upd g7 j2 (F k (v29 + 1).toNatClampNeg)) _ _ (by have ea : v17.toInt = x1.toInt + 2 * (j2 : Int) := (by rw [ev17]; exact at64 x1 (by (have t_c1 := eqI c1; have t_hj10 := hj10; have t_hinv := hinv.2.2.2; have t_n13 := n13; have t_n15 := n15; have t_c16 := eqI c16; have t_b22 := b22; have t_b26 := b26; have t_hz28 := hz28; have t_hz30 := hz30; have t_hi31 := hi31; have t_hl32 := hl32; have tqz_ := qz0_; have tnb_ := nib4 tn2071_ tn2072_ tn2075_ tn2078_; have tqz_ := qz41_; omega))); have eb : (v17 + 1).toInt = v17.toInt + 1 := l1_e (by have := x1.toInt_lt; have := x1.le_toInt; (have t_c1 := eqI c1; have t_hj10 := hj10; have t_hinv := hinv.2.2.2; have t_n13 := n13; have t_n15 := n15; have t_c16 := eqI c16; have t_b22 := b22; have t_b26 := b26; have t_hz28 := hz28; have t_hz30 := hz30; have t_hi31 := hi31; have t_hl32 := hl32; have tqz_ := qz0_; have tnb_ := nib4 tn2071_ tn2072_ tn2075_ tn2078_; have tqz_ := qz41_; omega)) (by have := x1.toInt_lt; have := x1.le_toInt; (have t_c1 := eqI c1; have t_hj10 := hj10; have t_hinv := hinv.2.2.2; have t_n13 := n13; have t_n15 := n15; have t_c16 := eqI c16; have t_b22 := b22; have t_b26 := b26; have t_hz28 := hz28; have t_hz30 := hz30; have t_hi31 := hi31; have t_hl32 := hl32; have tqz_ := qz0_; have tnb_ := nib4 tn2071_ tn2072_ tn2075_ tn2078_; have tqz_ := qz41_; omega)); have g9 := (hinv.2.2.1.resolve_right (fun h9 => h9.1 (by first | with_reducible assumption | assumption))); have g8 := g9.2.1; refine ⟨?_, ?_, Or.inl ⟨by assumption, by (have t_c1 := eqI c1; have t_hj10 := hj10; have t_hinv := hinv.2.2.2; have t_n13 := n13; have t_n15 := n15; have t_c16 := eqI c16; have t_b22 := b22; have t_b26 := b26; have t_hz28 := hz28; have t_hz30 := hz30; have t_hi31 := hi31; have t_hl32 := hl32; have tqz_ := qz0_; have tnb_ := nib4 tn2071_ tn2072_ tn2075_ tn2078_; have tqz_ := qz41_; omega), fun h9 => absurd h9 (tp_ne w24 (by first | with_reducible assumption | assumption)), g9.2.2.2.1, ?_⟩, by (have t_c1 := eqI c1; have t_hj10 := hj10; have t_hinv := hinv.2.2.2; have t_n13 := n13; have t_n15 := n15; have t_c16 := eqI c16; have t_b22 := b22; have t_b26 := b26; have t_hz28 := hz28; have t_hz30 := hz30; have t_hi31 := hi31; have t_hl32 := hl32; have tqz_ := qz0_; have tnb_ := nib4 tn2071_ tn2072_ tn2075_ tn2078_; have tqz_ := qz41_; omega), by (have t_c1 := eqI c1; have t_hj10 := hj10; have t_hinv := hinv.2.2.2; have t_n13 := n13; have t_n15 := n15; have t_c16 := eqI c16; have t_b22 := b22; have t_b26 := b26; have t_hz28 := hz28; have t_hz30 := hz30; have t_hi31 := hi31; have t_hl32 := hl32; have tqz_ := qz0_; have tnb_ := nib4 tn2071_ tn2072_ tn2075_ tn2078_; have tqz_ := qz41_; omega)⟩; (have q1 := tp_put (F := F) (k := k) (c := 0) (x := v27) (fun q9 h9 => hinv.1 q9 (by (have t_c1 := eqI c1; have t_hj10 := hj10; have t_hinv := hinv.2.2.2; have t_n13 := n13; have t_n15 := n15; have t_c16 := eqI c16; have t_b22 := b22; have t_b26 := b26; have t_hz28 := hz28; have t_hz30 := hz30; have t_hi31 := hi31; have t_hl32 := hl32; have tqz_ := qz0_; have tnb_ := nib4 tn2071_ tn2072_ tn2075_ tn2078_; have tqz_ := qz41_; omega))) (show _ = x1.toInt + 2 * (j2 : Int) + 0 by (have t_c1 := eqI c1; have t_hj10 := hj10; have t_hinv := hinv.2.2.2; have t_n13 := n13; have t_n15 := n15; have t_c16 := eqI c16; have t_b22 := b22; have t_b26 := b26; have t_hz28 := hz28; have t_hz30 := hz30; have t_hi31 := hi31; have t_hl32 := hl32; have tqz_ := qz0_; have tnb_ := nib4 tn2071_ tn2072_ tn2075_ tn2078_; have tqz_ := qz41_; omega)); exact fun q9 h9 => q1 q9 (by (have t_c1 := eqI c1; have t_hj10 := hj10; have t_hinv := hinv.2.2.2; have t_n13 := n13; have t_n15 := n15; have t_c16 := eqI c16; have t_b22 := b22; have t_b26 := b26; have t_hz28 := hz28; have t_hz30 := hz30; have t_hi31 := hi31; have t_hl32 := hl32; have tqz_ := qz0_; have tnb_ := nib4 tn2071_ tn2072_ tn2075_ tn2078_; have tqz_ := qz41_; omega))); (have q1 := tp_put (F := F) (k := k) (c := 1) (x := (v29 + 1)) (fun q9 h9 => hinv.2.1 q9 (by (have t_c1 := eqI c1; have t_hj10 := hj10; have t_hinv := hinv.2.2.2; have t_n13 := n13; have t_n15 := n15; have t_c16 := eqI c16; have t_b22 := b22; have t_b26 := b26; have t_hz28 := hz28; have t_hz30 := hz30; have t_hi31 := hi31; have t_hl32 := hl32; have tqz_ := qz0_; have tnb_ := nib4 tn2071_ tn2072_ tn2075_ tn2078_; have tqz_ := qz41_; omega))) (show _ = x1.toInt + 2 * (j2 : Int) + 1 by (have t_c1 := eqI c1; have t_hj10 := hj10; have t_hinv := hinv.2.2.2; have t_n13 := n13; have t_n15 := n15; have t_c16 := eqI c16; have t_b22 := b22; have t_b26 := b26; have t_hz28 := hz28; have t_hz30 := hz30; have t_hi31 := hi31; have t_hl32 := hl32; have tqz_ := qz0_; have tnb_ := nib4 tn2071_ tn2072_ tn2075_ tn2078_; have tqz_ := qz41_; omega)); exact fun q9 h9 => q1 q9 (by (have t_c1 := eqI c1; have t_hj10 := hj10; have t_hinv := hinv.2.2.2; have t_n13 := n13; have t_n15 := n15; have t_c16 := eqI c16; have t_b22 := b22; have t_b26 := b26; have t_hz28 := hz28; have t_hz30 := hz30; have t_hi31 := hi31; have t_hl32 := hl32; have tqz_ := qz0_; have tnb_ := nib4 tn2071_ tn2072_ tn2075_ tn2078_; have tqz_ := qz41_; omega))); (rw [← tpM_go (by (have t_c1 := eqI c1; have t_hj10 := hj10; have t_hinv := hinv.2.2.2; have t_n13 := n13; have t_n15 := n15; have t_c16 := eqI c16; have t_b22 := b22; have t_b26 := b26; have t_hz28 := hz28; have t_hz30 := hz30; have t_hi31 := hi31; have t_hl32 := hl32; have tqz_ := qz0_; have tnb_ := nib4 tn2071_ tn2072_ tn2075_ tn2078_; have tqz_ := qz41_; omega)) (by (have t_c1 := eqI c1; have t_hj10 := hj10; have t_hinv := hinv.2.2.2; have t_n13 := n13; have t_n15 := n15; have t_c16 := eqI c16; have t_b22 := b22; have t_b26 := b26; have t_hz28 := hz28; have t_hz30 := hz30; have t_hi31 := hi31; have t_hl32 := hl32; have tqz_ := qz0_; have tnb_ := nib4 tn2071_ tn2072_ tn2075_ tn2078_; have tqz_ := qz41_; omega))]; exact g9.2.2.2.2)) hP hD hS ls (lv_sub hl [0, 2, 3, 4, 5, 6] rfl)
    exact loop37_8 (20 + 1) 0 (by omega) (by omega) 0 0 f1 f2 _ _ ⟨fun q9 h9 => absurd h9 (Nat.not_lt_zero _), fun q9 h9 => absurd h9 (Nat.not_lt_zero _), Or.inl ⟨rfl, rfl, fun _ => rfl, (by first | exact fun _ => (by first | with_reducible assumption | assumption) | exact fun h9 => absurd (by first | with_reducible assumption | assumption) h9), rfl⟩, Nat.zero_le _, Nat.zero_le _⟩ hP hD hS ls (lv_sub hl [0, 1, 2, 3, 4, 5] rfl)
  · skip
    refine lv_aload_n hx hb dX6_takePairs_16 rfl (lv_at hl 0 rfl) ?_
    refine va_get (D := (dC, dI)) (ci := 6) (v := .ref la) (C := RX6) (T := TX6) (N := 7) hx hb hg inG6 hown hK.1 hP 0 rfl rfl 0 (Nat.le_of_ble_eq_true rfl) (hg _ wt_276) (fun _ h9 => h9) rfl dX6_takePairs_17 ?_
    refine lv_iload_n hx hb dX6_takePairs_20 rfl (lv_at hl 1 rfl) ?_
    refine va_iald hx hb hK.1 hP 1 0 rfl rfl (vp_in_nI (by first | omega | (have t_c1 := neI c1; have : ((-1) : Int32).toInt = -1 := qI_m1; have tnb_ := nib2 tn2071_ tn2072_; omega)) (by decide)) dX6_takePairs_21 ?_
    refine lv_cg (y := fl k) (by rw [nI_clamp (by omega)]) ?_
    refine lv_iload_n hx hb dX6_takePairs_22 rfl (lv_at hl 2 rfl) ?_
    refine lv_icmp_ne (tgt := 30) hx hb dX6_takePairs_23 rfl (fun c33 => ?_) (fun c33 => ?_)
    · skip
      refine lv_iconst (v := 3) hx hb dX6_takePairs_30 rfl ?_
      refine va_put (D := (dC, dI)) (ci := 6) (v := .int 3) (ty := .int) (C := RX6) (T := TX6) (N := 7) hx hb hg inG6 tyX6 tyX6_ok nmX6 hown hK.1 hP hD hS 0 rfl rfl 3 (Nat.le_of_ble_eq_true rfl) (hg _ wt_279) (fun _ h9 => h9) rfl (by decide +kernel) rfl rfl (Nat.le_of_ble_eq_true rfl) dX6_takePairs_31 (fun H locs hP hD hS => ?_)
      obtain ⟨hP, hD⟩ := va_rls (ws' := (([(h0, .inr (6, [.ref la, .ref si, .ref ce, .int 3, .int 0, .ref fi, .ref se])), (la, .inl (G 0, 4, .inl fl)), (si, .inl (G 0, 4, .inl fz)), (ce, .inl (G 4, 4, .inr (.inr (.inr (.inr (fun ir => if ir < 4 then some (rc ir) else none)))))), (fi, .inl (G 0, 20, .inl f1)), (se, .inl (G 0, 20, .inl f2))] : va_W) ++ ((((List.range 4).map (fun iq => (rc iq, .inl (G 0, 40, .inl (F iq))))) : va_W) ++ []))) hP hD rfl
      refine lv_iconst (v := 0) hx hb dX6_takePairs_34 rfl ?_
      refine lv_istore (lv' := [(5, .int 0), (0, .ref h0), (1, .int (nI k)), (2, .int lane), (3, .int x1), (4, .int (nI nn))]) hx hb dX6_takePairs_35 hl (by decide) rfl (fun ls hl => ?_)
      have loop37_35 : ∀ (nf j34 : Nat), 20 + 1 ≤ j34 + nf → j34 ≤ 20 → ∀ (H : Heap) (locs : List Loc), ((∀ q9 : Nat, q9 < 0 → f1 q9 = F k (x1.toInt + 2 * (q9 : Int) + 0).toNat) ∧ (∀ q9 : Nat, q9 < 0 → f2 q9 = F k (x1.toInt + 2 * (q9 : Int) + 1).toNat) ∧ (((3 : Int32) = 0 ∧ 0 = j34 ∧ (fl k = -1 → j34 = 0) ∧ (¬ fl k = -1 → fl k = lane) ∧ tpM (fz k).toInt x1.toInt (nn - j34) j34 = tpM (fz k).toInt x1.toInt nn 0) ∨ (¬ (3 : Int32) = 0 ∧ 0 = tpK (fl k) lane (fz k).toInt x1.toInt nn)) ∧ 0 ≤ j34 ∧ j34 ≤ nn) → va_P (dC, dI) vwCl (([(h0, .inr (6, [.ref la, .ref si, .ref ce, .int 3, .int 0, .ref fi, .ref se])), (la, .inl (G 0, 4, .inl fl)), (si, .inl (G 0, 4, .inl fz)), (ce, .inl (G 4, 4, .inr (.inr (.inr (.inr (fun ir => if ir < 4 then some (rc ir) else none)))))), (fi, .inl (G 0, 20, .inl f1)), (se, .inl (G 0, 20, .inl f2))] : va_W) ++ ((((List.range 4).map (fun iq => (rc iq, .inl (G 0, 40, .inl (F iq))))) : va_W) ++ [])) H → va_D A (([(h0, .inr (6, [.ref la, .ref si, .ref ce, .int 3, .int 0, .ref fi, .ref se])), (la, .inl (G 0, 4, .inl fl)), (si, .inl (G 0, 4, .inl fz)), (ce, .inl (G 4, 4, .inr (.inr (.inr (.inr (fun ir => if ir < 4 then some (rc ir) else none)))))), (fi, .inl (G 0, 20, .inl f1)), (se, .inl (G 0, 20, .inl f2))] : va_W) ++ ((((List.range 4).map (fun iq => (rc iq, .inl (G 0, 40, .inl (F iq))))) : va_W) ++ [])) → va_S A s.heap H locs → ∀ (ls : Array Slot), lv_has ls 8 [(5, .int (nI j34)), (0, .ref h0), (1, .int (nI k)), (2, .int lane), (3, .int x1), (4, .int (nI nn))] → W p l e (headSpec (Cond.code yX6_takePairs cX6_takePairs 8 none :: GT) ({ frames := 1, cells := 0, slots := 0, locals := 23 } : Room)).room s m ([.ref h0, .int (nI k), .int lane, .int x1, .int (nI nn)] : List Value).toArray below meth c H locs 0 0 (MQ below (va_Qv (fun (u : Int32 × Nat × (Nat → Int32) × (Nat → Int32)) => match u with | (u0, u1, u2, u3) => u1 = tpK (fl k) lane (fz k).toInt x1.toInt nn ∧ (∀ q9 : Nat, q9 < u1 → u2 q9 = F k (x1.toInt + 2 * (q9 : Int) + 0).toNat) ∧ (∀ q9 : Nat, q9 < u1 → u3 q9 = F k (x1.toInt + 2 * (q9 : Int) + 1).toNat) ∧ u1 ≤ 20) (fun (u : Int32 × Nat × (Nat → Int32) × (Nat → Int32)) (t : State) => match u with | (u0, u1, u2, u3) => va_P (dC, dI) vwCl (([(h0, .inr (6, [.ref la, .ref si, .ref ce, .int u0, .int (nI u1), .ref fi, .ref se])), (la, .inl (G 0, 4, .inl fl)), (si, .inl (G 0, 4, .inl fz)), (ce, .inl (G 4, 4, .inr (.inr (.inr (.inr (fun ir => if ir < 4 then some (rc ir) else none)))))), (fi, .inl (G 0, 20, .inl u2)), (se, .inl (G 0, 20, .inl u3))] : va_W) ++ ((((List.range 4).map (fun iq => (rc iq, .inl (G 0, 40, .inl (F iq))))) : va_W) ++ [])) t.heap ∧ va_D A (([(h0, .inr (6, [.ref la, .ref si, .ref ce, .int u0, .int (nI u1), .ref fi, .ref se])), (la, .inl (G 0, 4, .inl fl)), (si, .inl (G 0, 4, .inl fz)), (ce, .inl (G 4, 4, .inr (.inr (.inr (.inr (fun ir => if ir < 4 then some (rc ir) else none)))))), (fi, .inl (G 0, 20, .inl u2)), (se, .inl (G 0, 20, .inl u3))] : va_W) ++ ((((List.range 4).map (fun iq => (rc iq, .inl (G 0, 40, .inl (F iq))))) : va_W) ++ []))) A) ([.ref h0, .int (nI k), .int lane, .int x1, .int (nI nn)] : List Value).toArray s 0 0 A) (F0 m 37 ls []) := by
        intro nf
        induction nf with
        | zero => intro j34 h1 h2; exact absurd h1 (by omega)
        | succ nf ih37_35 =>
          intro j34 hn36 hj37  H locs hinv hP hD hS ls hl
          refine lv_iload hx hb dX6_takePairs_37 (lv_at hl 0 rfl) ?_
          refine lv_iload hx hb dX6_takePairs_39 (lv_at hl 5 rfl) ?_
          refine lv_icmp_ge (tgt := 160) hx hb dX6_takePairs_41 rfl (fun c38 => ?_) (fun c38 => ?_)
          · skip
            have tn2079_ : nIT j34 := fun _ => nI_toInt (by first | omega | (have t := leI c38; omega))
            have n39 : nn ≤ j34 := by have t := leI c38; rw [show (nI (j34)).toInt = ((j34 : Nat) : Int) from tn2079_ ()] at t; rw [show (nI (nn)).toInt = ((nn : Nat) : Int) from tn2072_ ()] at t; omega
            obtain ⟨hP9, hD9⟩ := va_sub2 (ws' := (([(h0, .inr (6, [.ref la, .ref si, .ref ce, .int 3, .int 0, .ref fi, .ref se])), (la, .inl (G 0, 4, .inl fl)), (si, .inl (G 0, 4, .inl fz)), (ce, .inl (G 4, 4, .inr (.inr (.inr (.inr (fun ir => if ir < 4 then some (rc ir) else none)))))), (fi, .inl (G 0, 20, .inl f1)), (se, .inl (G 0, 20, .inl f2))] : va_W) ++ ((((List.range 4).map (fun iq => (rc iq, .inl (G 0, 40, .inl (F iq))))) : va_W) ++ []))) hP hD [0, 1, 2, 3, 4, 5, 6, 7, 8, 9] (by decide +kernel) rfl
            refine W.widen (k := 0) (n := 0) (Nat.le_of_ble_eq_true rfl) (Nat.le_of_ble_eq_true rfl) ?_
            exact W.vret hx hb hr (fun t ht hW => ⟨⟨(3, 0, f1, f2), rfl, (by have t_c1 := neI c1; have t_c33 := neI c33; have t_hj37 := hj37; have t_hinv := hinv.2.2.2; have t_n39 := n39; have : ((-1) : Int32).toInt = -1 := qI_m1; have tnb_ := nib3 tn2071_ tn2072_ tn2079_; have tqz_ := qz41_; have hk : _ = tpK (fl k) lane (fz k).toInt x1.toInt nn := (by rcases hinv.2.2.1 with g9 | g9; (exact tp_end g9.2.1 g9.2.2.1 g9.2.2.2.1 g9.2.2.2.2 hlne (by first | omega | (exfalso; exact absurd g9.1 (by first | with_reducible assumption | assumption)))); exact g9.2); exact ⟨hk, hinv.1, hinv.2.1, by omega⟩), ⟨by rw [ht]; exact hP9, hD9⟩⟩, hS.F ht⟩) hS.2.2 dX6_takePairs_160
          · skip
            have tn2080_ : nIT j34 := fun _ => nI_toInt (by first | omega | (have t := nleI c38; omega))
            have n40 : j34 < nn := by have t := nleI c38; rw [show (nI (j34)).toInt = ((j34 : Nat) : Int) from tn2080_ ()] at t; rw [show (nI (nn)).toInt = ((nn : Nat) : Int) from tn2072_ ()] at t; omega
            refine lv_iload hx hb dX6_takePairs_44 (lv_at hl 0 rfl) ?_
            refine lv_bipush (v := 20) hx hb dX6_takePairs_46 rfl ?_
            refine lv_icmp_ge (tgt := 160) hx hb dX6_takePairs_48 rfl (fun c41 => ?_) (fun c41 => ?_)
            · skip
              have t_c1 := neI c1
              have t_c33 := neI c33
              have t_hj37 := hj37
              have t_hinv := hinv.2.2.2
              have t_n40 := n40
              have t_c41 := leI c41
              have : ((-1) : Int32).toInt = -1 := qI_m1
              have : (20 : Int32).toInt = 20 := qI_20
              have t_n0 : (nI k).toInt = (k : Int) := tn2071_ ()
              have t_n1 : (nI nn).toInt = (nn : Int) := tn2072_ ()
              have t_n2 : (nI j34).toInt = (j34 : Int) := tn2080_ ()
              exfalso; omega
            · skip
              have n42 : j34 < 20 := by have t := nleI c41; rw [show (nI (j34)).toInt = ((j34 : Nat) : Int) from tn2080_ ()] at t; have : (20 : Int32).toInt = 20 := qI_20; omega
              refine lv_aload_n hx hb dX6_takePairs_51 rfl (lv_at hl 1 rfl) ?_
              refine va_get (D := (dC, dI)) (ci := 6) (v := .int 3) (C := RX6) (T := TX6) (N := 7) hx hb hg inG6 hown hK.1 hP 0 rfl rfl 3 (Nat.le_of_ble_eq_true rfl) (hg _ wt_279) (fun _ h9 => h9) rfl dX6_takePairs_52 ?_
              refine lv_if_ne (tgt := 160) hx hb dX6_takePairs_55 rfl (fun c43 => ?_) (fun c43 => ?_)
              · skip
                obtain ⟨hP9, hD9⟩ := va_sub2 (ws' := (([(h0, .inr (6, [.ref la, .ref si, .ref ce, .int 3, .int 0, .ref fi, .ref se])), (la, .inl (G 0, 4, .inl fl)), (si, .inl (G 0, 4, .inl fz)), (ce, .inl (G 4, 4, .inr (.inr (.inr (.inr (fun ir => if ir < 4 then some (rc ir) else none)))))), (fi, .inl (G 0, 20, .inl f1)), (se, .inl (G 0, 20, .inl f2))] : va_W) ++ ((((List.range 4).map (fun iq => (rc iq, .inl (G 0, 40, .inl (F iq))))) : va_W) ++ []))) hP hD [0, 1, 2, 3, 4, 5, 6, 7, 8, 9] (by decide +kernel) rfl
                refine W.widen (k := 0) (n := 0) (Nat.le_of_ble_eq_true rfl) (Nat.le_of_ble_eq_true rfl) ?_
                exact W.vret hx hb hr (fun t ht hW => ⟨⟨(3, 0, f1, f2), rfl, (by have t_c1 := neI c1; have t_c33 := neI c33; have t_hj37 := hj37; have t_hinv := hinv.2.2.2; have t_n40 := n40; have t_n42 := n42; have t_c43 := neI c43; have tqz_ := qz47_; have tnb_ := nib3 tn2071_ tn2072_ tn2080_; have tqz_ := qz41_; have hk : _ = tpK (fl k) lane (fz k).toInt x1.toInt nn := (by rcases hinv.2.2.1 with g9 | g9; (exact tp_end g9.2.1 g9.2.2.1 g9.2.2.2.1 g9.2.2.2.2 hlne (by first | omega | (exfalso; exact absurd g9.1 (by first | with_reducible assumption | assumption)))); exact g9.2); exact ⟨hk, hinv.1, hinv.2.1, by omega⟩), ⟨by rw [ht]; exact hP9, hD9⟩⟩, hS.F ht⟩) hS.2.2 dX6_takePairs_160
              · skip
                exact absurd c43 (by decide)
      exact loop37_35 (20 + 1) 0 (by omega) (by omega)  _ _ ⟨fun q9 h9 => absurd h9 (Nat.not_lt_zero _), fun q9 h9 => absurd h9 (Nat.not_lt_zero _), Or.inr ⟨by decide, (by unfold tpK; rw [if_neg (by first | with_reducible assumption | assumption)])⟩, Nat.zero_le _, Nat.zero_le _⟩ hP hD hS ls (lv_sub hl [0, 1, 2, 3, 4, 5] rfl)
    · skip
      refine lv_iconst (v := 0) hx hb dX6_takePairs_26 rfl ?_
      refine lv_goto (tgt := 31) hx hb dX6_takePairs_27 rfl ?_
      refine va_put (D := (dC, dI)) (ci := 6) (v := .int 0) (ty := .int) (C := RX6) (T := TX6) (N := 7) hx hb hg inG6 tyX6 tyX6_ok nmX6 hown hK.1 hP hD hS 0 rfl rfl 3 (Nat.le_of_ble_eq_true rfl) (hg _ wt_279) (fun _ h9 => h9) rfl (by decide +kernel) rfl rfl (Nat.le_of_ble_eq_true rfl) dX6_takePairs_31 (fun H locs hP hD hS => ?_)
      obtain ⟨hP, hD⟩ := va_rls (ws' := (([(h0, .inr (6, [.ref la, .ref si, .ref ce, .int 0, .int 0, .ref fi, .ref se])), (la, .inl (G 0, 4, .inl fl)), (si, .inl (G 0, 4, .inl fz)), (ce, .inl (G 4, 4, .inr (.inr (.inr (.inr (fun ir => if ir < 4 then some (rc ir) else none)))))), (fi, .inl (G 0, 20, .inl f1)), (se, .inl (G 0, 20, .inl f2))] : va_W) ++ ((((List.range 4).map (fun iq => (rc iq, .inl (G 0, 40, .inl (F iq))))) : va_W) ++ []))) hP hD rfl
      refine lv_iconst (v := 0) hx hb dX6_takePairs_34 rfl ?_
      refine lv_istore (lv' := [(5, .int 0), (0, .ref h0), (1, .int (nI k)), (2, .int lane), (3, .int x1), (4, .int (nI nn))]) hx hb dX6_takePairs_35 hl (by decide) rfl (fun ls hl => ?_)
      have loop37_50 : ∀ (nf j44 : Nat), 20 + 1 ≤ j44 + nf → j44 ≤ 20 → ∀ (y45 : Int32) (k47 : Nat) (g48 : Nat → Int32) (g49 : Nat → Int32) (H : Heap) (locs : List Loc), ((∀ q9 : Nat, q9 < k47 → g48 q9 = F k (x1.toInt + 2 * (q9 : Int) + 0).toNat) ∧ (∀ q9 : Nat, q9 < k47 → g49 q9 = F k (x1.toInt + 2 * (q9 : Int) + 1).toNat) ∧ ((y45 = 0 ∧ k47 = j44 ∧ (fl k = -1 → j44 = 0) ∧ (¬ fl k = -1 → fl k = lane) ∧ tpM (fz k).toInt x1.toInt (nn - j44) j44 = tpM (fz k).toInt x1.toInt nn 0) ∨ (¬ y45 = 0 ∧ k47 = tpK (fl k) lane (fz k).toInt x1.toInt nn)) ∧ k47 ≤ j44 ∧ j44 ≤ nn) → va_P (dC, dI) vwCl (([(h0, .inr (6, [.ref la, .ref si, .ref ce, .int y45, .int (nI k47), .ref fi, .ref se])), (la, .inl (G 0, 4, .inl fl)), (si, .inl (G 0, 4, .inl fz)), (ce, .inl (G 4, 4, .inr (.inr (.inr (.inr (fun ir => if ir < 4 then some (rc ir) else none)))))), (fi, .inl (G 0, 20, .inl g48)), (se, .inl (G 0, 20, .inl g49))] : va_W) ++ ((((List.range 4).map (fun iq => (rc iq, .inl (G 0, 40, .inl (F iq))))) : va_W) ++ [])) H → va_D A (([(h0, .inr (6, [.ref la, .ref si, .ref ce, .int y45, .int (nI k47), .ref fi, .ref se])), (la, .inl (G 0, 4, .inl fl)), (si, .inl (G 0, 4, .inl fz)), (ce, .inl (G 4, 4, .inr (.inr (.inr (.inr (fun ir => if ir < 4 then some (rc ir) else none)))))), (fi, .inl (G 0, 20, .inl g48)), (se, .inl (G 0, 20, .inl g49))] : va_W) ++ ((((List.range 4).map (fun iq => (rc iq, .inl (G 0, 40, .inl (F iq))))) : va_W) ++ [])) → va_S A s.heap H locs → ∀ (ls : Array Slot), lv_has ls 8 [(5, .int (nI j44)), (0, .ref h0), (1, .int (nI k)), (2, .int lane), (3, .int x1), (4, .int (nI nn))] → W p l e (headSpec (Cond.code yX6_takePairs cX6_takePairs 8 none :: GT) ({ frames := 1, cells := 0, slots := 0, locals := 23 } : Room)).room s m ([.ref h0, .int (nI k), .int lane, .int x1, .int (nI nn)] : List Value).toArray below meth c H locs 0 0 (MQ below (va_Qv (fun (u : Int32 × Nat × (Nat → Int32) × (Nat → Int32)) => match u with | (u0, u1, u2, u3) => u1 = tpK (fl k) lane (fz k).toInt x1.toInt nn ∧ (∀ q9 : Nat, q9 < u1 → u2 q9 = F k (x1.toInt + 2 * (q9 : Int) + 0).toNat) ∧ (∀ q9 : Nat, q9 < u1 → u3 q9 = F k (x1.toInt + 2 * (q9 : Int) + 1).toNat) ∧ u1 ≤ 20) (fun (u : Int32 × Nat × (Nat → Int32) × (Nat → Int32)) (t : State) => match u with | (u0, u1, u2, u3) => va_P (dC, dI) vwCl (([(h0, .inr (6, [.ref la, .ref si, .ref ce, .int u0, .int (nI u1), .ref fi, .ref se])), (la, .inl (G 0, 4, .inl fl)), (si, .inl (G 0, 4, .inl fz)), (ce, .inl (G 4, 4, .inr (.inr (.inr (.inr (fun ir => if ir < 4 then some (rc ir) else none)))))), (fi, .inl (G 0, 20, .inl u2)), (se, .inl (G 0, 20, .inl u3))] : va_W) ++ ((((List.range 4).map (fun iq => (rc iq, .inl (G 0, 40, .inl (F iq))))) : va_W) ++ [])) t.heap ∧ va_D A (([(h0, .inr (6, [.ref la, .ref si, .ref ce, .int u0, .int (nI u1), .ref fi, .ref se])), (la, .inl (G 0, 4, .inl fl)), (si, .inl (G 0, 4, .inl fz)), (ce, .inl (G 4, 4, .inr (.inr (.inr (.inr (fun ir => if ir < 4 then some (rc ir) else none)))))), (fi, .inl (G 0, 20, .inl u2)), (se, .inl (G 0, 20, .inl u3))] : va_W) ++ ((((List.range 4).map (fun iq => (rc iq, .inl (G 0, 40, .inl (F iq))))) : va_W) ++ []))) A) ([.ref h0, .int (nI k), .int lane, .int x1, .int (nI nn)] : List Value).toArray s 0 0 A) (F0 m 37 ls []) := by
        intro nf
        induction nf with
        | zero => intro j44 h1 h2; exact absurd h1 (by omega)
        | succ nf ih37_50 =>
          intro j44 hn51 hj52 y45 k47 g48 g49 H locs hinv hP hD hS ls hl
          refine lv_iload hx hb dX6_takePairs_37 (lv_at hl 0 rfl) ?_
          refine lv_iload hx hb dX6_takePairs_39 (lv_at hl 5 rfl) ?_
          refine lv_icmp_ge (tgt := 160) hx hb dX6_takePairs_41 rfl (fun c53 => ?_) (fun c53 => ?_)
          · skip
            have tn2081_ : nIT j44 := fun _ => nI_toInt (by first | omega | (have t := leI c53; omega))
            have n54 : nn ≤ j44 := by have t := leI c53; rw [show (nI (j44)).toInt = ((j44 : Nat) : Int) from tn2081_ ()] at t; rw [show (nI (nn)).toInt = ((nn : Nat) : Int) from tn2072_ ()] at t; omega
            obtain ⟨hP9, hD9⟩ := va_sub2 (ws' := (([(h0, .inr (6, [.ref la, .ref si, .ref ce, .int y45, .int (nI k47), .ref fi, .ref se])), (la, .inl (G 0, 4, .inl fl)), (si, .inl (G 0, 4, .inl fz)), (ce, .inl (G 4, 4, .inr (.inr (.inr (.inr (fun ir => if ir < 4 then some (rc ir) else none)))))), (fi, .inl (G 0, 20, .inl g48)), (se, .inl (G 0, 20, .inl g49))] : va_W) ++ ((((List.range 4).map (fun iq => (rc iq, .inl (G 0, 40, .inl (F iq))))) : va_W) ++ []))) hP hD [0, 1, 2, 3, 4, 5, 6, 7, 8, 9] (by decide +kernel) rfl
            refine W.widen (k := 0) (n := 0) (Nat.le_of_ble_eq_true rfl) (Nat.le_of_ble_eq_true rfl) ?_
            have tn2082_ : nIT k47 := fun _ => nI_toInt (by first | omega | (have t_c1 := neI c1; have t_c33 := eqI c33; have t_hj52 := hj52; have t_hinv := hinv.2.2.2; have t_n54 := n54; have : ((-1) : Int32).toInt = -1 := qI_m1; omega))
            exact W.vret hx hb hr (fun t ht hW => ⟨⟨(y45, k47, g48, g49), rfl, (by have t_c1 := neI c1; have t_c33 := eqI c33; have t_hj52 := hj52; have t_hinv := hinv.2.2.2; have t_n54 := n54; have : ((-1) : Int32).toInt = -1 := qI_m1; have tnb_ := nib4 tn2071_ tn2072_ tn2081_ tn2082_; have tqz_ := qz41_; have hk : _ = tpK (fl k) lane (fz k).toInt x1.toInt nn := (by rcases hinv.2.2.1 with g9 | g9; (exact tp_end g9.2.1 g9.2.2.1 g9.2.2.2.1 g9.2.2.2.2 hlne (by first | omega | (exfalso; exact absurd g9.1 (by first | with_reducible assumption | assumption)))); exact g9.2); exact ⟨hk, hinv.1, hinv.2.1, by omega⟩), ⟨by rw [ht]; exact hP9, hD9⟩⟩, hS.F ht⟩) hS.2.2 dX6_takePairs_160
          · skip
            have tn2083_ : nIT j44 := fun _ => nI_toInt (by first | omega | (have t := nleI c53; omega))
            have n55 : j44 < nn := by have t := nleI c53; rw [show (nI (j44)).toInt = ((j44 : Nat) : Int) from tn2083_ ()] at t; rw [show (nI (nn)).toInt = ((nn : Nat) : Int) from tn2072_ ()] at t; omega
            refine lv_iload hx hb dX6_takePairs_44 (lv_at hl 0 rfl) ?_
            refine lv_bipush (v := 20) hx hb dX6_takePairs_46 rfl ?_
            refine lv_icmp_ge (tgt := 160) hx hb dX6_takePairs_48 rfl (fun c56 => ?_) (fun c56 => ?_)
            · skip
              have t_c1 := neI c1
              have t_c33 := eqI c33
              have t_hj52 := hj52
              have t_hinv := hinv.2.2.2
              have t_n55 := n55
              have t_c56 := leI c56
              have : ((-1) : Int32).toInt = -1 := qI_m1
              have : (20 : Int32).toInt = 20 := qI_20
              have t_n0 : (nI k).toInt = (k : Int) := tn2071_ ()
              have t_n1 : (nI nn).toInt = (nn : Int) := tn2072_ ()
              have t_n2 : (nI j44).toInt = (j44 : Int) := tn2083_ ()
              have tn2084_ : nIT k47 := fun _ => nI_toInt (by omega)
              have t_n3 : (nI k47).toInt = (k47 : Int) := tn2084_ ()
              exfalso; omega
            · skip
              have n57 : j44 < 20 := by have t := nleI c56; rw [show (nI (j44)).toInt = ((j44 : Nat) : Int) from tn2083_ ()] at t; have : (20 : Int32).toInt = 20 := qI_20; omega
              refine lv_aload_n hx hb dX6_takePairs_51 rfl (lv_at hl 1 rfl) ?_
              refine va_get (D := (dC, dI)) (ci := 6) (v := .int y45) (C := RX6) (T := TX6) (N := 7) hx hb hg inG6 hown hK.1 hP 0 rfl rfl 3 (Nat.le_of_ble_eq_true rfl) (hg _ wt_279) (fun _ h9 => h9) rfl dX6_takePairs_52 ?_
              refine lv_if_ne (tgt := 160) hx hb dX6_takePairs_55 rfl (fun c58 => ?_) (fun c58 => ?_)
              · skip
                obtain ⟨hP9, hD9⟩ := va_sub2 (ws' := (([(h0, .inr (6, [.ref la, .ref si, .ref ce, .int y45, .int (nI k47), .ref fi, .ref se])), (la, .inl (G 0, 4, .inl fl)), (si, .inl (G 0, 4, .inl fz)), (ce, .inl (G 4, 4, .inr (.inr (.inr (.inr (fun ir => if ir < 4 then some (rc ir) else none)))))), (fi, .inl (G 0, 20, .inl g48)), (se, .inl (G 0, 20, .inl g49))] : va_W) ++ ((((List.range 4).map (fun iq => (rc iq, .inl (G 0, 40, .inl (F iq))))) : va_W) ++ []))) hP hD [0, 1, 2, 3, 4, 5, 6, 7, 8, 9] (by decide +kernel) rfl
                refine W.widen (k := 0) (n := 0) (Nat.le_of_ble_eq_true rfl) (Nat.le_of_ble_eq_true rfl) ?_
                have tn2085_ : nIT k47 := fun _ => nI_toInt (by first | omega | (have t_c1 := neI c1; have t_c33 := eqI c33; have t_hj52 := hj52; have t_hinv := hinv.2.2.2; have t_n55 := n55; have t_n57 := n57; have t_c58 := neI c58; have tqz_ := qz0_; omega))
                exact W.vret hx hb hr (fun t ht hW => ⟨⟨(y45, k47, g48, g49), rfl, (by have t_c1 := neI c1; have t_c33 := eqI c33; have t_hj52 := hj52; have t_hinv := hinv.2.2.2; have t_n55 := n55; have t_n57 := n57; have t_c58 := neI c58; have tqz_ := qz0_; have tnb_ := nib4 tn2071_ tn2072_ tn2083_ tn2085_; have tqz_ := qz41_; have hk : _ = tpK (fl k) lane (fz k).toInt x1.toInt nn := (by rcases hinv.2.2.1 with g9 | g9; (exact tp_end g9.2.1 g9.2.2.1 g9.2.2.2.1 g9.2.2.2.2 hlne (by first | omega | (exfalso; exact absurd g9.1 (by first | with_reducible assumption | assumption)))); exact g9.2); exact ⟨hk, hinv.1, hinv.2.1, by omega⟩), ⟨by rw [ht]; exact hP9, hD9⟩⟩, hS.F ht⟩) hS.2.2 dX6_takePairs_160
              · skip
                refine lv_iload_n hx hb dX6_takePairs_58 rfl (lv_at hl 4 rfl) ?_
                refine lv_i2l (v := x1.toInt64) hx hb dX6_takePairs_59 rfl ?_
                refine lv_ldc2 (v := 2) hx hb hown (hg _ wt_855) dX6_takePairs_60 ?_
                refine lv_iload hx hb dX6_takePairs_63 (lv_at hl 0 rfl) ?_
                refine lv_i2l (v := (nI j44).toInt64) hx hb dX6_takePairs_65 rfl ?_
                refine lv_lmul hx hb dX6_takePairs_66 ?_
                refine lv_ladd hx hb dX6_takePairs_67 ?_
                refine lv_topl (fun v59 ev59 => ?_)
                refine lv_lstore (lv' := [(6, .long v59), (5, .int (nI j44)), (0, .ref h0), (1, .int (nI k)), (2, .int lane), (3, .int x1), (4, .int (nI nn))]) hx hb dX6_takePairs_68 hl (by decide) rfl (fun ls hl => ?_)
                refine lv_aload_n hx hb dX6_takePairs_70 rfl (lv_at hl 2 rfl) ?_
                refine lv_aload_n hx hb dX6_takePairs_71 rfl (lv_at hl 2 rfl) ?_
                refine lv_iload_n hx hb dX6_takePairs_72 rfl (lv_at hl 3 rfl) ?_
                refine lv_lload hx hb dX6_takePairs_73 (lv_at hl 0 rfl) ?_
                have hPc := hP.sub (ws' := [(h0, .inr (6, [.ref la, .ref si, .ref ce, .int y45, .int (nI k47), .ref fi, .ref se])), (la, .inl (G 0, 4, .inl fl)), (si, .inl (G 0, 4, .inl fz))]) [0, 1, 2] rfl
                have tn2086_ : nIT k47 := fun _ => nI_toInt (by first | omega | (have t_c1 := neI c1; have t_c33 := eqI c33; have t_hj52 := hj52; have t_hinv := hinv.2.2.2; have t_n55 := n55; have t_n57 := n57; have t_c58 := eqI c58; have tqz_ := qz0_; omega))
                refine va_calli (va_runV (As := [.int (nI k), .long v59]) (rest := [.ref h0]) ⟨hx, hb, hml, hown, hg⟩ (c_X6_faultAt l dC dI G _ h0 la si ce fi se k y45 (nI k47) v59 fl fz hk) (kwV hg mfX6_faultAt wt_846 ⟨Nat.le_of_ble_eq_true rfl, Nat.le_of_ble_eq_true rfl⟩) (preVR hK hPc (ci := 6) (r := (RX6, TX6, 7)) rfl rfl) rfl rfl hl.1 rfl (lv_room (Nat.le_of_ble_eq_true rfl)) dX6_takePairs_75 ⟨Nat.le_of_ble_eq_true rfl, Nat.le_of_ble_eq_true rfl⟩) hS (fun q h1 h2 => absurd h2 (Nat.not_le.mpr h1)) (fun q h => hA q (Nat.le_trans hS.1 h)) (fun r60 ur60 t H1 locs ht hvm w61 hB hz1 hk1 hS => ?_)
                have hP := keepR hP hk1
                obtain ⟨w61, w61x⟩ := w61
                refine va_put (D := (dC, dI)) (ci := 6) (v := .int r60) (ty := .int) (C := RX6) (T := TX6) (N := 7) hx hb hg inG6 tyX6 tyX6_ok nmX6 hown hK.1 hP hD hS 0 rfl rfl 3 (Nat.le_of_ble_eq_true rfl) (hg _ wt_279) (fun _ h9 => h9) rfl (by decide +kernel) rfl rfl (Nat.le_of_ble_eq_true rfl) dX6_takePairs_78 (fun H locs hP hD hS => ?_)
                obtain ⟨hP, hD⟩ := va_rls (ws' := (([(h0, .inr (6, [.ref la, .ref si, .ref ce, .int r60, .int (nI k47), .ref fi, .ref se])), (la, .inl (G 0, 4, .inl fl)), (si, .inl (G 0, 4, .inl fz)), (ce, .inl (G 4, 4, .inr (.inr (.inr (.inr (fun ir => if ir < 4 then some (rc ir) else none)))))), (fi, .inl (G 0, 20, .inl g48)), (se, .inl (G 0, 20, .inl g49))] : va_W) ++ ((((List.range 4).map (fun iq => (rc iq, .inl (G 0, 40, .inl (F iq))))) : va_W) ++ []))) hP hD rfl
                refine lv_aload_n hx hb dX6_takePairs_81 rfl (lv_at hl 2 rfl) ?_
                refine va_get (D := (dC, dI)) (ci := 6) (v := .int r60) (C := RX6) (T := TX6) (N := 7) hx hb hg inG6 hown hK.1 hP 0 rfl rfl 3 (Nat.le_of_ble_eq_true rfl) (hg _ wt_279) (fun _ h9 => h9) rfl dX6_takePairs_82 ?_
                refine lv_if_ne (tgt := 101) hx hb dX6_takePairs_85 rfl (fun c62 => ?_) (fun c62 => ?_)
                · skip
                  refine lv_aload_n hx hb dX6_takePairs_101 rfl (lv_at hl 2 rfl) ?_
                  refine va_get (D := (dC, dI)) (ci := 6) (v := .int r60) (C := RX6) (T := TX6) (N := 7) hx hb hg inG6 hown hK.1 hP 0 rfl rfl 3 (Nat.le_of_ble_eq_true rfl) (hg _ wt_279) (fun _ h9 => h9) rfl dX6_takePairs_102 ?_
                  refine lv_if_ne (tgt := 154) hx hb dX6_takePairs_105 rfl (fun c63 => ?_) (fun c63 => ?_)
                  · skip
                    refine lv_iinc (v := nI (j44 + 1)) (lv' := [(5, .int (nI (j44 + 1))), (6, .long v59), (0, .ref h0), (1, .int (nI k)), (2, .int lane), (3, .int x1), (4, .int (nI nn))]) hx hb dX6_takePairs_154 hl (k := 1) rfl (by rw [show Int32.ofInt 1 = nI 1 from by decide]; exact nI_add _ _) (by decide) rfl (fun ls hl => ?_)
                    refine lv_goto (tgt := 37) hx hb dX6_takePairs_157 rfl ?_
                    exact ih37_50 (j44 + 1) (by omega) (by omega) r60 k47 g48 g49 _ _ ⟨hinv.1, hinv.2.1, Or.inr ⟨by assumption, (by have ea : v59.toInt = x1.toInt + 2 * (j44 : Int) := (by rw [ev59]; exact at64 x1 (by (have t_c1 := neI c1; have t_c33 := eqI c33; have t_hj52 := hj52; have t_hinv := hinv.2.2.2; have t_n55 := n55; have t_n57 := n57; have t_c58 := eqI c58; have t_c62 := neI c62; have t_c63 := neI c63; have tqz_ := qz0_; have tnb_ := nib4 tn2071_ tn2072_ tn2083_ tn2086_; have tqz_ := qz41_; omega))); have eb : (v59 + 1).toInt = v59.toInt + 1 := l1_e (by have := x1.toInt_lt; have := x1.le_toInt; (have t_c1 := neI c1; have t_c33 := eqI c33; have t_hj52 := hj52; have t_hinv := hinv.2.2.2; have t_n55 := n55; have t_n57 := n57; have t_c58 := eqI c58; have t_c62 := neI c62; have t_c63 := neI c63; have tqz_ := qz0_; have tnb_ := nib4 tn2071_ tn2072_ tn2083_ tn2086_; have tqz_ := qz41_; omega)) (by have := x1.toInt_lt; have := x1.le_toInt; (have t_c1 := neI c1; have t_c33 := eqI c33; have t_hj52 := hj52; have t_hinv := hinv.2.2.2; have t_n55 := n55; have t_n57 := n57; have t_c58 := eqI c58; have t_c62 := neI c62; have t_c63 := neI c63; have tqz_ := qz0_; have tnb_ := nib4 tn2071_ tn2072_ tn2083_ tn2086_; have tqz_ := qz41_; omega)); have g9 := (hinv.2.2.1.resolve_right (fun h9 => h9.1 (by first | with_reducible assumption | assumption))); exact tp_stop g9.2.1 g9.2.2.1 g9.2.2.2.1 g9.2.2.2.2 hlne (fa1 w61 (by first | with_reducible assumption | assumption) (by (have t_c1 := neI c1; have t_c33 := eqI c33; have t_hj52 := hj52; have t_hinv := hinv.2.2.2; have t_n55 := n55; have t_n57 := n57; have t_c58 := eqI c58; have t_c62 := neI c62; have t_c63 := neI c63; have tqz_ := qz0_; have tnb_ := nib4 tn2071_ tn2072_ tn2083_ tn2086_; have tqz_ := qz41_; omega))))⟩, (by have t_c1 := neI c1; have t_c33 := eqI c33; have t_hj52 := hj52; have t_hinv := hinv.2.2.2; have t_n55 := n55; have t_n57 := n57; have t_c58 := eqI c58; have t_c62 := neI c62; have t_c63 := neI c63; have tqz_ := qz0_; have tnb_ := nib4 tn2071_ tn2072_ tn2083_ tn2086_; have tqz_ := qz41_; omega), (by have t_c1 := neI c1; have t_c33 := eqI c33; have t_hj52 := hj52; have t_hinv := hinv.2.2.2; have t_n55 := n55; have t_n57 := n57; have t_c58 := eqI c58; have t_c62 := neI c62; have t_c63 := neI c63; have tqz_ := qz0_; have tnb_ := nib4 tn2071_ tn2072_ tn2083_ tn2086_; have tqz_ := qz41_; omega)⟩ hP hD hS ls (lv_sub hl [0, 2, 3, 4, 5, 6] rfl)
                  · skip
                    have t_c1 := neI c1
                    have t_c33 := eqI c33
                    have t_hj52 := hj52
                    have t_hinv := hinv.2.2.2
                    have t_n55 := n55
                    have t_n57 := n57
                    have t_c58 := eqI c58
                    have t_c62 := neI c62
                    have t_c63 := eqI c63
                    have : ((-1) : Int32).toInt = -1 := qI_m1
                    have : (0 : Int32).toInt = 0 := qI_0
                    have t_n0 : (nI k).toInt = (k : Int) := tn2071_ ()
                    have t_n1 : (nI nn).toInt = (nn : Int) := tn2072_ ()
                    have t_n2 : (nI j44).toInt = (j44 : Int) := tn2083_ ()
                    have t_n3 : (nI k47).toInt = (k47 : Int) := tn2086_ ()
                    exfalso; omega
                · skip
                  have b64 := fz0 w61 c62
                  refine lv_aload_n hx hb dX6_takePairs_88 rfl (lv_at hl 2 rfl) ?_
                  refine lv_aload_n hx hb dX6_takePairs_89 rfl (lv_at hl 2 rfl) ?_
                  refine lv_iload_n hx hb dX6_takePairs_90 rfl (lv_at hl 3 rfl) ?_
                  refine lv_lload hx hb dX6_takePairs_91 (lv_at hl 0 rfl) ?_
                  refine lv_lconst (v := 1) hx hb dX6_takePairs_93 (by decide) ?_
                  refine lv_ladd hx hb dX6_takePairs_94 ?_
                  have hPc := hP.sub (ws' := [(h0, .inr (6, [.ref la, .ref si, .ref ce, .int r60, .int (nI k47), .ref fi, .ref se])), (la, .inl (G 0, 4, .inl fl)), (si, .inl (G 0, 4, .inl fz))]) [0, 1, 2] rfl
                  refine va_calli (va_runV (As := [.int (nI k), .long (v59 + 1)]) (rest := [.ref h0]) ⟨hx, hb, hml, hown, hg⟩ (c_X6_faultAt l dC dI G _ h0 la si ce fi se k r60 (nI k47) (v59 + 1) fl fz hk) (kwV hg mfX6_faultAt wt_846 ⟨Nat.le_of_ble_eq_true rfl, Nat.le_of_ble_eq_true rfl⟩) (preVR hK hPc (ci := 6) (r := (RX6, TX6, 7)) rfl rfl) rfl rfl hl.1 rfl (lv_room (Nat.le_of_ble_eq_true rfl)) dX6_takePairs_95 ⟨Nat.le_of_ble_eq_true rfl, Nat.le_of_ble_eq_true rfl⟩) hS (fun q h1 h2 => absurd h2 (Nat.not_le.mpr h1)) (fun q h => hA q (Nat.le_trans hS.1 h)) (fun r65 ur65 t H1 locs ht hvm w66 hB hz1 hk1 hS => ?_)
                  have hP := keepR hP hk1
                  obtain ⟨w66, w66x⟩ := w66
                  refine va_put (D := (dC, dI)) (ci := 6) (v := .int r65) (ty := .int) (C := RX6) (T := TX6) (N := 7) hx hb hg inG6 tyX6 tyX6_ok nmX6 hown hK.1 hP hD hS 0 rfl rfl 3 (Nat.le_of_ble_eq_true rfl) (hg _ wt_279) (fun _ h9 => h9) rfl (by decide +kernel) rfl rfl (Nat.le_of_ble_eq_true rfl) dX6_takePairs_98 (fun H locs hP hD hS => ?_)
                  obtain ⟨hP, hD⟩ := va_rls (ws' := (([(h0, .inr (6, [.ref la, .ref si, .ref ce, .int r65, .int (nI k47), .ref fi, .ref se])), (la, .inl (G 0, 4, .inl fl)), (si, .inl (G 0, 4, .inl fz)), (ce, .inl (G 4, 4, .inr (.inr (.inr (.inr (fun ir => if ir < 4 then some (rc ir) else none)))))), (fi, .inl (G 0, 20, .inl g48)), (se, .inl (G 0, 20, .inl g49))] : va_W) ++ ((((List.range 4).map (fun iq => (rc iq, .inl (G 0, 40, .inl (F iq))))) : va_W) ++ []))) hP hD rfl
                  refine lv_aload_n hx hb dX6_takePairs_101 rfl (lv_at hl 2 rfl) ?_
                  refine va_get (D := (dC, dI)) (ci := 6) (v := .int r65) (C := RX6) (T := TX6) (N := 7) hx hb hg inG6 hown hK.1 hP 0 rfl rfl 3 (Nat.le_of_ble_eq_true rfl) (hg _ wt_279) (fun _ h9 => h9) rfl dX6_takePairs_102 ?_
                  refine lv_if_ne (tgt := 154) hx hb dX6_takePairs_105 rfl (fun c67 => ?_) (fun c67 => ?_)
                  · skip
                    refine lv_iinc (v := nI (j44 + 1)) (lv' := [(5, .int (nI (j44 + 1))), (6, .long v59), (0, .ref h0), (1, .int (nI k)), (2, .int lane), (3, .int x1), (4, .int (nI nn))]) hx hb dX6_takePairs_154 hl (k := 1) rfl (by rw [show Int32.ofInt 1 = nI 1 from by decide]; exact nI_add _ _) (by decide) rfl (fun ls hl => ?_)
                    refine lv_goto (tgt := 37) hx hb dX6_takePairs_157 rfl ?_
                    exact ih37_50 (j44 + 1) (by omega) (by omega) r65 k47 g48 g49 _ _ ⟨hinv.1, hinv.2.1, Or.inr ⟨by assumption, (by have ea : v59.toInt = x1.toInt + 2 * (j44 : Int) := (by rw [ev59]; exact at64 x1 (by (have t_c1 := neI c1; have t_c33 := eqI c33; have t_hj52 := hj52; have t_hinv := hinv.2.2.2; have t_n55 := n55; have t_n57 := n57; have t_c58 := eqI c58; have t_b64 := b64; have t_c67 := neI c67; have tqz_ := qz0_; have tnb_ := nib4 tn2071_ tn2072_ tn2083_ tn2086_; have tqz_ := qz41_; omega))); have eb : (v59 + 1).toInt = v59.toInt + 1 := l1_e (by have := x1.toInt_lt; have := x1.le_toInt; (have t_c1 := neI c1; have t_c33 := eqI c33; have t_hj52 := hj52; have t_hinv := hinv.2.2.2; have t_n55 := n55; have t_n57 := n57; have t_c58 := eqI c58; have t_b64 := b64; have t_c67 := neI c67; have tqz_ := qz0_; have tnb_ := nib4 tn2071_ tn2072_ tn2083_ tn2086_; have tqz_ := qz41_; omega)) (by have := x1.toInt_lt; have := x1.le_toInt; (have t_c1 := neI c1; have t_c33 := eqI c33; have t_hj52 := hj52; have t_hinv := hinv.2.2.2; have t_n55 := n55; have t_n57 := n57; have t_c58 := eqI c58; have t_b64 := b64; have t_c67 := neI c67; have tqz_ := qz0_; have tnb_ := nib4 tn2071_ tn2072_ tn2083_ tn2086_; have tqz_ := qz41_; omega)); have g9 := (hinv.2.2.1.resolve_right (fun h9 => h9.1 (by first | with_reducible assumption | assumption))); exact tp_stop g9.2.1 g9.2.2.1 g9.2.2.2.1 g9.2.2.2.2 hlne (fa1 w66 (by first | with_reducible assumption | assumption) (by (have t_c1 := neI c1; have t_c33 := eqI c33; have t_hj52 := hj52; have t_hinv := hinv.2.2.2; have t_n55 := n55; have t_n57 := n57; have t_c58 := eqI c58; have t_b64 := b64; have t_c67 := neI c67; have tqz_ := qz0_; have tnb_ := nib4 tn2071_ tn2072_ tn2083_ tn2086_; have tqz_ := qz41_; omega))))⟩, (by have t_c1 := neI c1; have t_c33 := eqI c33; have t_hj52 := hj52; have t_hinv := hinv.2.2.2; have t_n55 := n55; have t_n57 := n57; have t_c58 := eqI c58; have t_b64 := b64; have t_c67 := neI c67; have tqz_ := qz0_; have tnb_ := nib4 tn2071_ tn2072_ tn2083_ tn2086_; have tqz_ := qz41_; omega), (by have t_c1 := neI c1; have t_c33 := eqI c33; have t_hj52 := hj52; have t_hinv := hinv.2.2.2; have t_n55 := n55; have t_n57 := n57; have t_c58 := eqI c58; have t_b64 := b64; have t_c67 := neI c67; have tqz_ := qz0_; have tnb_ := nib4 tn2071_ tn2072_ tn2083_ tn2086_; have tqz_ := qz41_; omega)⟩ hP hD hS ls (lv_sub hl [0, 2, 3, 4, 5, 6] rfl)
                  · skip
                    have b68 := fz0 w66 c67
                    refine lv_aload_n hx hb dX6_takePairs_108 rfl (lv_at hl 2 rfl) ?_
                    refine va_get (D := (dC, dI)) (ci := 6) (v := .ref fi) (C := RX6) (T := TX6) (N := 7) hx hb hg inG6 hown hK.1 hP 0 rfl rfl 5 (Nat.le_of_ble_eq_true rfl) (hg _ wt_283) (fun _ h9 => h9) rfl dX6_takePairs_109 ?_
                    refine lv_iload hx hb dX6_takePairs_112 (lv_at hl 1 rfl) ?_
                    refine lv_aload_n hx hb dX6_takePairs_114 rfl (lv_at hl 2 rfl) ?_
                    refine va_get (D := (dC, dI)) (ci := 6) (v := .ref ce) (C := RX6) (T := TX6) (N := 7) hx hb hg inG6 hown hK.1 hP 0 rfl rfl 2 (Nat.le_of_ble_eq_true rfl) (hg _ wt_278) (fun _ h9 => h9) rfl dX6_takePairs_115 ?_
                    refine lv_iload_n hx hb dX6_takePairs_118 rfl (lv_at hl 3 rfl) ?_
                    refine va_aldA hx hb hK.1 hP 3 4 rfl rfl (vp_in_nI (by first | omega | (have t_c1 := neI c1; have t_c33 := eqI c33; have t_hj52 := hj52; have t_hinv := hinv.2.2.2; have t_n55 := n55; have t_n57 := n57; have t_c58 := eqI c58; have t_b64 := b64; have t_b68 := b68; have tqz_ := qz0_; have tnb_ := nib4 tn2071_ tn2072_ tn2083_ tn2086_; omega)) (by decide)) dX6_takePairs_119 ?_
                    refine lv_cgv (y := .ref (rc k)) (rowref (by first | omega | (have t_c1 := neI c1; have t_c33 := eqI c33; have t_hj52 := hj52; have t_hinv := hinv.2.2.2; have t_n55 := n55; have t_n57 := n57; have t_c58 := eqI c58; have t_b64 := b64; have t_b68 := b68; have tqz_ := qz0_; have tnb_ := nib4 tn2071_ tn2072_ tn2083_ tn2086_; omega)) (by decide)) ?_
                    refine lv_lload hx hb dX6_takePairs_120 (lv_at hl 0 rfl) ?_
                    refine lv_l2i (v := _) hx hb dX6_takePairs_122 rfl ?_
                    refine lv_topi (fun v69 ev69 => ?_)
                    have hz70 := l2i_in (x := v59) (by have t_c1 := neI c1; have t_c33 := eqI c33; have t_hj52 := hj52; have t_hinv := hinv.2.2.2; have t_n55 := n55; have t_n57 := n57; have t_c58 := eqI c58; have t_b64 := b64; have t_b68 := b68; have tqz_ := qz0_; have tnb_ := nib4 tn2071_ tn2072_ tn2083_ tn2086_; omega) (by have t_c1 := neI c1; have t_c33 := eqI c33; have t_hj52 := hj52; have t_hinv := hinv.2.2.2; have t_n55 := n55; have t_n57 := n57; have t_c58 := eqI c58; have t_b64 := b64; have t_b68 := b68; have tqz_ := qz0_; have tnb_ := nib4 tn2071_ tn2072_ tn2083_ tn2086_; omega)
                    rw [← ev69] at hz70
                    refine va_iald hx hb hK.1 (blk_P (j := k) hP (by first | omega | (have t_c1 := neI c1; have t_c33 := eqI c33; have t_hj52 := hj52; have t_hinv := hinv.2.2.2; have t_n55 := n55; have t_n57 := n57; have t_c58 := eqI c58; have t_b64 := b64; have t_b68 := b68; have t_hz70 := hz70; have tqz_ := qz0_; have tnb_ := nib4 tn2071_ tn2072_ tn2083_ tn2086_; omega))) 0 0 rfl rfl (vp_in_iff.mpr (by have t_c1 := neI c1; have t_c33 := eqI c33; have t_hj52 := hj52; have t_hinv := hinv.2.2.2; have t_n55 := n55; have t_n57 := n57; have t_c58 := eqI c58; have t_b64 := b64; have t_b68 := b68; have t_hz70 := hz70; have tqz_ := qz0_; have tnb_ := nib4 tn2071_ tn2072_ tn2083_ tn2086_; constructor <;> omega)) dX6_takePairs_123 ?_
                    refine va_iast hx hb hK.1 hP hD hS 4 0 rfl rfl (vp_in_nI (by first | omega | (have t_c1 := neI c1; have t_c33 := eqI c33; have t_hj52 := hj52; have t_hinv := hinv.2.2.2; have t_n55 := n55; have t_n57 := n57; have t_c58 := eqI c58; have t_b64 := b64; have t_b68 := b68; have t_hz70 := hz70; have tqz_ := qz0_; have tnb_ := nib4 tn2071_ tn2072_ tn2083_ tn2086_; omega)) (by decide)) dX6_takePairs_124 (fun H locs hP hD hS => ?_)
                    rw [nI_clamp (by omega)] at hP hD
                    obtain ⟨hP, hD⟩ := va_rls (ws' := (([(h0, .inr (6, [.ref la, .ref si, .ref ce, .int r65, .int (nI k47), .ref fi, .ref se])), (la, .inl (G 0, 4, .inl fl)), (si, .inl (G 0, 4, .inl fz)), (ce, .inl (G 4, 4, .inr (.inr (.inr (.inr (fun ir => if ir < 4 then some (rc ir) else none)))))), (fi, .inl (G 0, 20, .inl (upd g48 j44 (F k v69.toNatClampNeg)))), (se, .inl (G 0, 20, .inl g49))] : va_W) ++ ((((List.range 4).map (fun iq => (rc iq, .inl (G 0, 40, .inl (F iq))))) : va_W) ++ []))) hP hD rfl
                    refine lv_aload_n hx hb dX6_takePairs_125 rfl (lv_at hl 2 rfl) ?_
                    refine va_get (D := (dC, dI)) (ci := 6) (v := .ref se) (C := RX6) (T := TX6) (N := 7) hx hb hg inG6 hown hK.1 hP 0 rfl rfl 6 (Nat.le_of_ble_eq_true rfl) (hg _ wt_285) (fun _ h9 => h9) rfl dX6_takePairs_126 ?_
                    refine lv_iload hx hb dX6_takePairs_129 (lv_at hl 1 rfl) ?_
                    refine lv_aload_n hx hb dX6_takePairs_131 rfl (lv_at hl 2 rfl) ?_
                    refine va_get (D := (dC, dI)) (ci := 6) (v := .ref ce) (C := RX6) (T := TX6) (N := 7) hx hb hg inG6 hown hK.1 hP 0 rfl rfl 2 (Nat.le_of_ble_eq_true rfl) (hg _ wt_278) (fun _ h9 => h9) rfl dX6_takePairs_132 ?_
                    refine lv_iload_n hx hb dX6_takePairs_135 rfl (lv_at hl 3 rfl) ?_
                    refine va_aldA hx hb hK.1 hP 3 4 rfl rfl (vp_in_nI (by first | omega | (have t_c1 := neI c1; have t_c33 := eqI c33; have t_hj52 := hj52; have t_hinv := hinv.2.2.2; have t_n55 := n55; have t_n57 := n57; have t_c58 := eqI c58; have t_b64 := b64; have t_b68 := b68; have t_hz70 := hz70; have tqz_ := qz0_; have tnb_ := nib4 tn2071_ tn2072_ tn2083_ tn2086_; omega)) (by decide)) dX6_takePairs_136 ?_
                    refine lv_cgv (y := .ref (rc k)) (rowref (by first | omega | (have t_c1 := neI c1; have t_c33 := eqI c33; have t_hj52 := hj52; have t_hinv := hinv.2.2.2; have t_n55 := n55; have t_n57 := n57; have t_c58 := eqI c58; have t_b64 := b64; have t_b68 := b68; have t_hz70 := hz70; have tqz_ := qz0_; have tnb_ := nib4 tn2071_ tn2072_ tn2083_ tn2086_; omega)) (by decide)) ?_
                    refine lv_lload hx hb dX6_takePairs_137 (lv_at hl 0 rfl) ?_
                    refine lv_l2i (v := _) hx hb dX6_takePairs_139 rfl ?_
                    refine lv_topi (fun v71 ev71 => ?_)
                    have hz72 := l2i_in (x := v59) (by have t_c1 := neI c1; have t_c33 := eqI c33; have t_hj52 := hj52; have t_hinv := hinv.2.2.2; have t_n55 := n55; have t_n57 := n57; have t_c58 := eqI c58; have t_b64 := b64; have t_b68 := b68; have t_hz70 := hz70; have tqz_ := qz0_; have tnb_ := nib4 tn2071_ tn2072_ tn2083_ tn2086_; omega) (by have t_c1 := neI c1; have t_c33 := eqI c33; have t_hj52 := hj52; have t_hinv := hinv.2.2.2; have t_n55 := n55; have t_n57 := n57; have t_c58 := eqI c58; have t_b64 := b64; have t_b68 := b68; have t_hz70 := hz70; have tqz_ := qz0_; have tnb_ := nib4 tn2071_ tn2072_ tn2083_ tn2086_; omega)
                    rw [← ev71] at hz72
                    refine lv_iconst (v := 1) hx hb dX6_takePairs_140 rfl ?_
                    refine lv_iadd hx hb dX6_takePairs_141 ?_
                    have hi73 : (v71 + 1).toInt = v71.toInt + 1 := i1_in (by have t_c1 := neI c1; have t_c33 := eqI c33; have t_hj52 := hj52; have t_hinv := hinv.2.2.2; have t_n55 := n55; have t_n57 := n57; have t_c58 := eqI c58; have t_b64 := b64; have t_b68 := b68; have t_hz70 := hz70; have t_hz72 := hz72; have tqz_ := qz0_; have tnb_ := nib4 tn2071_ tn2072_ tn2083_ tn2086_; omega) (by have t_c1 := neI c1; have t_c33 := eqI c33; have t_hj52 := hj52; have t_hinv := hinv.2.2.2; have t_n55 := n55; have t_n57 := n57; have t_c58 := eqI c58; have t_b64 := b64; have t_b68 := b68; have t_hz70 := hz70; have t_hz72 := hz72; have tqz_ := qz0_; have tnb_ := nib4 tn2071_ tn2072_ tn2083_ tn2086_; omega)
                    have hl74 := l1_in (x := v59) (by have t_c1 := neI c1; have t_c33 := eqI c33; have t_hj52 := hj52; have t_hinv := hinv.2.2.2; have t_n55 := n55; have t_n57 := n57; have t_c58 := eqI c58; have t_b64 := b64; have t_b68 := b68; have t_hz70 := hz70; have t_hz72 := hz72; have tqz_ := qz0_; have tnb_ := nib4 tn2071_ tn2072_ tn2083_ tn2086_; omega) (by have t_c1 := neI c1; have t_c33 := eqI c33; have t_hj52 := hj52; have t_hinv := hinv.2.2.2; have t_n55 := n55; have t_n57 := n57; have t_c58 := eqI c58; have t_b64 := b64; have t_b68 := b68; have t_hz70 := hz70; have t_hz72 := hz72; have tqz_ := qz0_; have tnb_ := nib4 tn2071_ tn2072_ tn2083_ tn2086_; omega) (show (v59 + 1).toInt < (fz k).toInt by have t_c1 := neI c1; have t_c33 := eqI c33; have t_hj52 := hj52; have t_hinv := hinv.2.2.2; have t_n55 := n55; have t_n57 := n57; have t_c58 := eqI c58; have t_b64 := b64; have t_b68 := b68; have t_hz70 := hz70; have t_hz72 := hz72; have tqz_ := qz0_; have tnb_ := nib4 tn2071_ tn2072_ tn2083_ tn2086_; omega)
                    refine va_iald hx hb hK.1 (blk_P (j := k) hP (by first | omega | (have t_c1 := neI c1; have t_c33 := eqI c33; have t_hj52 := hj52; have t_hinv := hinv.2.2.2; have t_n55 := n55; have t_n57 := n57; have t_c58 := eqI c58; have t_b64 := b64; have t_b68 := b68; have t_hz70 := hz70; have t_hz72 := hz72; have t_hi73 := hi73; have t_hl74 := hl74; have tqz_ := qz0_; have tnb_ := nib4 tn2071_ tn2072_ tn2083_ tn2086_; omega))) 0 0 rfl rfl (vp_in_iff.mpr (by have t_c1 := neI c1; have t_c33 := eqI c33; have t_hj52 := hj52; have t_hinv := hinv.2.2.2; have t_n55 := n55; have t_n57 := n57; have t_c58 := eqI c58; have t_b64 := b64; have t_b68 := b68; have t_hz70 := hz70; have t_hz72 := hz72; have t_hi73 := hi73; have t_hl74 := hl74; have tqz_ := qz0_; have tnb_ := nib4 tn2071_ tn2072_ tn2083_ tn2086_; constructor <;> omega)) dX6_takePairs_142 ?_
                    refine va_iast hx hb hK.1 hP hD hS 5 0 rfl rfl (vp_in_nI (by first | omega | (have t_c1 := neI c1; have t_c33 := eqI c33; have t_hj52 := hj52; have t_hinv := hinv.2.2.2; have t_n55 := n55; have t_n57 := n57; have t_c58 := eqI c58; have t_b64 := b64; have t_b68 := b68; have t_hz70 := hz70; have t_hz72 := hz72; have t_hi73 := hi73; have t_hl74 := hl74; have tqz_ := qz0_; have tnb_ := nib4 tn2071_ tn2072_ tn2083_ tn2086_; omega)) (by decide)) dX6_takePairs_143 (fun H locs hP hD hS => ?_)
                    rw [nI_clamp (by omega)] at hP hD
                    obtain ⟨hP, hD⟩ := va_rls (ws' := (([(h0, .inr (6, [.ref la, .ref si, .ref ce, .int r65, .int (nI k47), .ref fi, .ref se])), (la, .inl (G 0, 4, .inl fl)), (si, .inl (G 0, 4, .inl fz)), (ce, .inl (G 4, 4, .inr (.inr (.inr (.inr (fun ir => if ir < 4 then some (rc ir) else none)))))), (fi, .inl (G 0, 20, .inl (upd g48 j44 (F k v69.toNatClampNeg)))), (se, .inl (G 0, 20, .inl (upd g49 j44 (F k (v71 + 1).toNatClampNeg))))] : va_W) ++ ((((List.range 4).map (fun iq => (rc iq, .inl (G 0, 40, .inl (F iq))))) : va_W) ++ []))) hP hD rfl
                    refine lv_aload_n hx hb dX6_takePairs_144 rfl (lv_at hl 2 rfl) ?_
                    refine lv_dup hx hb dX6_takePairs_145 rfl ?_
                    refine va_get (D := (dC, dI)) (ci := 6) (v := .int (nI k47)) (C := RX6) (T := TX6) (N := 7) hx hb hg inG6 hown hK.1 hP 0 rfl rfl 4 (Nat.le_of_ble_eq_true rfl) (hg _ wt_281) (fun _ h9 => h9) rfl dX6_takePairs_146 ?_
                    refine lv_iconst (v := 1) hx hb dX6_takePairs_149 rfl ?_
                    refine lv_iadd hx hb dX6_takePairs_150 ?_
                    refine lv_cg (y := nI (k47 + 1)) (by rw [show (1 : Int32) = nI 1 from rfl]; exact nI_add _ _) ?_
                    refine va_put (D := (dC, dI)) (ci := 6) (v := .int (nI (k47 + 1))) (ty := .int) (C := RX6) (T := TX6) (N := 7) hx hb hg inG6 tyX6 tyX6_ok nmX6 hown hK.1 hP hD hS 0 rfl rfl 4 (Nat.le_of_ble_eq_true rfl) (hg _ wt_281) (fun _ h9 => h9) rfl (by decide +kernel) rfl rfl (Nat.le_of_ble_eq_true rfl) dX6_takePairs_151 (fun H locs hP hD hS => ?_)
                    obtain ⟨hP, hD⟩ := va_rls (ws' := (([(h0, .inr (6, [.ref la, .ref si, .ref ce, .int r65, .int (nI (k47 + 1)), .ref fi, .ref se])), (la, .inl (G 0, 4, .inl fl)), (si, .inl (G 0, 4, .inl fz)), (ce, .inl (G 4, 4, .inr (.inr (.inr (.inr (fun ir => if ir < 4 then some (rc ir) else none)))))), (fi, .inl (G 0, 20, .inl (upd g48 j44 (F k v69.toNatClampNeg)))), (se, .inl (G 0, 20, .inl (upd g49 j44 (F k (v71 + 1).toNatClampNeg))))] : va_W) ++ ((((List.range 4).map (fun iq => (rc iq, .inl (G 0, 40, .inl (F iq))))) : va_W) ++ []))) hP hD rfl
                    refine lv_iinc (v := nI (j44 + 1)) (lv' := [(5, .int (nI (j44 + 1))), (6, .long v59), (0, .ref h0), (1, .int (nI k)), (2, .int lane), (3, .int x1), (4, .int (nI nn))]) hx hb dX6_takePairs_154 hl (k := 1) rfl (by rw [show Int32.ofInt 1 = nI 1 from by decide]; exact nI_add _ _) (by decide) rfl (fun ls hl => ?_)
                    refine lv_goto (tgt := 37) hx hb dX6_takePairs_157 rfl ?_
                    exact ih37_50 (j44 + 1) (by omega) (by omega) r65 (k47 + 1) (upd g48 j44 (F k v69.toNatClampNeg)) (upd g49 j44 (F k (v71 + 1).toNatClampNeg)) _ _ (by have ea : v59.toInt = x1.toInt + 2 * (j44 : Int) := (by rw [ev59]; exact at64 x1 (by (have t_c1 := neI c1; have t_c33 := eqI c33; have t_hj52 := hj52; have t_hinv := hinv.2.2.2; have t_n55 := n55; have t_n57 := n57; have t_c58 := eqI c58; have t_b64 := b64; have t_b68 := b68; have t_hz70 := hz70; have t_hz72 := hz72; have t_hi73 := hi73; have t_hl74 := hl74; have tqz_ := qz0_; have tnb_ := nib4 tn2071_ tn2072_ tn2083_ tn2086_; have tqz_ := qz41_; omega))); have eb : (v59 + 1).toInt = v59.toInt + 1 := l1_e (by have := x1.toInt_lt; have := x1.le_toInt; (have t_c1 := neI c1; have t_c33 := eqI c33; have t_hj52 := hj52; have t_hinv := hinv.2.2.2; have t_n55 := n55; have t_n57 := n57; have t_c58 := eqI c58; have t_b64 := b64; have t_b68 := b68; have t_hz70 := hz70; have t_hz72 := hz72; have t_hi73 := hi73; have t_hl74 := hl74; have tqz_ := qz0_; have tnb_ := nib4 tn2071_ tn2072_ tn2083_ tn2086_; have tqz_ := qz41_; omega)) (by have := x1.toInt_lt; have := x1.le_toInt; (have t_c1 := neI c1; have t_c33 := eqI c33; have t_hj52 := hj52; have t_hinv := hinv.2.2.2; have t_n55 := n55; have t_n57 := n57; have t_c58 := eqI c58; have t_b64 := b64; have t_b68 := b68; have t_hz70 := hz70; have t_hz72 := hz72; have t_hi73 := hi73; have t_hl74 := hl74; have tqz_ := qz0_; have tnb_ := nib4 tn2071_ tn2072_ tn2083_ tn2086_; have tqz_ := qz41_; omega)); have g9 := (hinv.2.2.1.resolve_right (fun h9 => h9.1 (by first | with_reducible assumption | assumption))); have g8 := g9.2.1; refine ⟨?_, ?_, Or.inl ⟨by assumption, by (have t_c1 := neI c1; have t_c33 := eqI c33; have t_hj52 := hj52; have t_hinv := hinv.2.2.2; have t_n55 := n55; have t_n57 := n57; have t_c58 := eqI c58; have t_b64 := b64; have t_b68 := b68; have t_hz70 := hz70; have t_hz72 := hz72; have t_hi73 := hi73; have t_hl74 := hl74; have tqz_ := qz0_; have tnb_ := nib4 tn2071_ tn2072_ tn2083_ tn2086_; have tqz_ := qz41_; omega), fun h9 => absurd h9 (tp_ne w66 (by first | with_reducible assumption | assumption)), g9.2.2.2.1, ?_⟩, by (have t_c1 := neI c1; have t_c33 := eqI c33; have t_hj52 := hj52; have t_hinv := hinv.2.2.2; have t_n55 := n55; have t_n57 := n57; have t_c58 := eqI c58; have t_b64 := b64; have t_b68 := b68; have t_hz70 := hz70; have t_hz72 := hz72; have t_hi73 := hi73; have t_hl74 := hl74; have tqz_ := qz0_; have tnb_ := nib4 tn2071_ tn2072_ tn2083_ tn2086_; have tqz_ := qz41_; omega), by (have t_c1 := neI c1; have t_c33 := eqI c33; have t_hj52 := hj52; have t_hinv := hinv.2.2.2; have t_n55 := n55; have t_n57 := n57; have t_c58 := eqI c58; have t_b64 := b64; have t_b68 := b68; have t_hz70 := hz70; have t_hz72 := hz72; have t_hi73 := hi73; have t_hl74 := hl74; have tqz_ := qz0_; have tnb_ := nib4 tn2071_ tn2072_ tn2083_ tn2086_; have tqz_ := qz41_; omega)⟩; (have q1 := tp_put (F := F) (k := k) (c := 0) (x := v69) (fun q9 h9 => hinv.1 q9 (by (have t_c1 := neI c1; have t_c33 := eqI c33; have t_hj52 := hj52; have t_hinv := hinv.2.2.2; have t_n55 := n55; have t_n57 := n57; have t_c58 := eqI c58; have t_b64 := b64; have t_b68 := b68; have t_hz70 := hz70; have t_hz72 := hz72; have t_hi73 := hi73; have t_hl74 := hl74; have tqz_ := qz0_; have tnb_ := nib4 tn2071_ tn2072_ tn2083_ tn2086_; have tqz_ := qz41_; omega))) (show _ = x1.toInt + 2 * (j44 : Int) + 0 by (have t_c1 := neI c1; have t_c33 := eqI c33; have t_hj52 := hj52; have t_hinv := hinv.2.2.2; have t_n55 := n55; have t_n57 := n57; have t_c58 := eqI c58; have t_b64 := b64; have t_b68 := b68; have t_hz70 := hz70; have t_hz72 := hz72; have t_hi73 := hi73; have t_hl74 := hl74; have tqz_ := qz0_; have tnb_ := nib4 tn2071_ tn2072_ tn2083_ tn2086_; have tqz_ := qz41_; omega)); exact fun q9 h9 => q1 q9 (by (have t_c1 := neI c1; have t_c33 := eqI c33; have t_hj52 := hj52; have t_hinv := hinv.2.2.2; have t_n55 := n55; have t_n57 := n57; have t_c58 := eqI c58; have t_b64 := b64; have t_b68 := b68; have t_hz70 := hz70; have t_hz72 := hz72; have t_hi73 := hi73; have t_hl74 := hl74; have tqz_ := qz0_; have tnb_ := nib4 tn2071_ tn2072_ tn2083_ tn2086_; have tqz_ := qz41_; omega))); (have q1 := tp_put (F := F) (k := k) (c := 1) (x := (v71 + 1)) (fun q9 h9 => hinv.2.1 q9 (by (have t_c1 := neI c1; have t_c33 := eqI c33; have t_hj52 := hj52; have t_hinv := hinv.2.2.2; have t_n55 := n55; have t_n57 := n57; have t_c58 := eqI c58; have t_b64 := b64; have t_b68 := b68; have t_hz70 := hz70; have t_hz72 := hz72; have t_hi73 := hi73; have t_hl74 := hl74; have tqz_ := qz0_; have tnb_ := nib4 tn2071_ tn2072_ tn2083_ tn2086_; have tqz_ := qz41_; omega))) (show _ = x1.toInt + 2 * (j44 : Int) + 1 by (have t_c1 := neI c1; have t_c33 := eqI c33; have t_hj52 := hj52; have t_hinv := hinv.2.2.2; have t_n55 := n55; have t_n57 := n57; have t_c58 := eqI c58; have t_b64 := b64; have t_b68 := b68; have t_hz70 := hz70; have t_hz72 := hz72; have t_hi73 := hi73; have t_hl74 := hl74; have tqz_ := qz0_; have tnb_ := nib4 tn2071_ tn2072_ tn2083_ tn2086_; have tqz_ := qz41_; omega)); exact fun q9 h9 => q1 q9 (by (have t_c1 := neI c1; have t_c33 := eqI c33; have t_hj52 := hj52; have t_hinv := hinv.2.2.2; have t_n55 := n55; have t_n57 := n57; have t_c58 := eqI c58; have t_b64 := b64; have t_b68 := b68; have t_hz70 := hz70; have t_hz72 := hz72; have t_hi73 := hi73; have t_hl74 := hl74; have tqz_ := qz0_; have tnb_ := nib4 tn2071_ tn2072_ tn2083_ tn2086_; have tqz_ := qz41_; omega))); (rw [← tpM_go (by (have t_c1 := neI c1; have t_c33 := eqI c33; have t_hj52 := hj52; have t_hinv := hinv.2.2.2; have t_n55 := n55; have t_n57 := n57; have t_c58 := eqI c58; have t_b64 := b64; have t_b68 := b68; have t_hz70 := hz70; have t_hz72 := hz72; have t_hi73 := hi73; have t_hl74 := hl74; have tqz_ := qz0_; have tnb_ := nib4 tn2071_ tn2072_ tn2083_ tn2086_; have tqz_ := qz41_; omega)) (by (have t_c1 := neI c1; have t_c33 := eqI c33; have t_hj52 := hj52; have t_hinv := hinv.2.2.2; have t_n55 := n55; have t_n57 := n57; have t_c58 := eqI c58; have t_b64 := b64; have t_b68 := b68; have t_hz70 := hz70; have t_hz72 := hz72; have t_hi73 := hi73; have t_hl74 := hl74; have tqz_ := qz0_; have tnb_ := nib4 tn2071_ tn2072_ tn2083_ tn2086_; have tqz_ := qz41_; omega))]; exact g9.2.2.2.2)) hP hD hS ls (lv_sub hl [0, 2, 3, 4, 5, 6] rfl)
      exact loop37_50 (20 + 1) 0 (by omega) (by omega) 0 0 f1 f2 _ _ ⟨fun q9 h9 => absurd h9 (Nat.not_lt_zero _), fun q9 h9 => absurd h9 (Nat.not_lt_zero _), Or.inl ⟨rfl, rfl, fun _ => rfl, (by first | exact fun _ => (by first | with_reducible assumption | assumption) | exact fun h9 => absurd (by first | with_reducible assumption | assumption) h9), rfl⟩, Nat.zero_le _, Nat.zero_le _⟩ hP hD hS ls (lv_sub hl [0, 1, 2, 3, 4, 5] rfl)

set_option maxHeartbeats 1000000 in
set_option maxRecDepth 100000 in
theorem c_X10_putE (l : Launch) (dC : Nat → ClassId) (dI : Nat → Nat → Nat) (G : Nat → ClassId) (sz : Nat) (h0 rd wy tr im kp od ch cr le mk tl sh a1 a2 a3 a4 a5 a6 N B D : Nat) (tf rf i k : Int32) (f3 : Nat → Int32) (hN_N : N ≤ 10) (hB_B : B ≤ 6) (hD_D : 1 ≤ D ∧ D ≤ 9) : Met l yX10_put (Cond.code yX10_put cX10_put 4 (some .int) :: GT) ({ frames := 1, cells := 0, slots := 0, locals := 21 } : Room) (PcW [.ref h0, .int i, .int k] dC dI G [(h0, .inr (10, [.ref rd, .ref wy, .ref tr, .ref im, .ref kp, .ref od, .ref ch, .ref cr, .ref le, .ref mk, .ref tl, .ref sh, .int tf, .int rf])), (wy, .inr (9, [.int (nI N), .int (nI B), .int (nI D), .ref a1, .ref a2, .ref a3, .ref a4, .ref a5, .ref a6])), (a3, .inl (G 0, 10, .inl f3))] sz) (va_Qi (fun (r : Int32) (u : (Nat → Int32)) => match u with | u0 => (r = if ((0 ≤ i.toInt ∧ i.toInt < ((N : Nat) : Int)) ∧ (0 ≤ k.toInt ∧ k.toInt < ((B : Nat) : Int))) then f3 i.toNatClampNeg else -1) ∧ u0 = (if ((0 ≤ i.toInt ∧ i.toInt < ((N : Nat) : Int)) ∧ (0 ≤ k.toInt ∧ k.toInt < ((B : Nat) : Int))) then upd f3 i.toNatClampNeg k else f3)) (fun (u : (Nat → Int32)) (t : State) => match u with | u0 => va_P (dC, dI) vwCl [(h0, .inr (10, [.ref rd, .ref wy, .ref tr, .ref im, .ref kp, .ref od, .ref ch, .ref cr, .ref le, .ref mk, .ref tl, .ref sh, .int tf, .int rf])), (wy, .inr (9, [.int (nI N), .int (nI B), .int (nI D), .ref a1, .ref a2, .ref a3, .ref a4, .ref a5, .ref a6])), (a3, .inl (G 0, 10, .inl u0))] t.heap ∧ va_D (va_A [(h0, .inr (10, [.ref rd, .ref wy, .ref tr, .ref im, .ref kp, .ref od, .ref ch, .ref cr, .ref le, .ref mk, .ref tl, .ref sh, .int tf, .int rf])), (wy, .inr (9, [.int (nI N), .int (nI B), .int (nI D), .ref a1, .ref a2, .ref a3, .ref a4, .ref a5, .ref a6])), (a3, .inl (G 0, 10, .inl f3))] sz) [(h0, .inr (10, [.ref rd, .ref wy, .ref tr, .ref im, .ref kp, .ref od, .ref ch, .ref cr, .ref le, .ref mk, .ref tl, .ref sh, .int tf, .int rf])), (wy, .inr (9, [.int (nI N), .int (nI B), .int (nI D), .ref a1, .ref a2, .ref a3, .ref a4, .ref a5, .ref a6])), (a3, .inl (G 0, 10, .inl u0))]) (va_A [(h0, .inr (10, [.ref rd, .ref wy, .ref tr, .ref im, .ref kp, .ref od, .ref ch, .ref cr, .ref le, .ref mk, .ref tl, .ref sh, .int tf, .int rf])), (wy, .inr (9, [.int (nI N), .int (nI B), .int (nI D), .ref a1, .ref a2, .ref a3, .ref a4, .ref a5, .ref a6])), (a3, .inl (G 0, 10, .inl f3))] sz)) 0 0 (va_A [(h0, .inr (10, [.ref rd, .ref wy, .ref tr, .ref im, .ref kp, .ref od, .ref ch, .ref cr, .ref le, .ref mk, .ref tl, .ref sh, .int tf, .int rf])), (wy, .inr (9, [.int (nI N), .int (nI B), .int (nI D), .ref a1, .ref a2, .ref a3, .ref a4, .ref a5, .ref a6])), (a3, .inl (G 0, 10, .inl f3))] sz) := by
  have tn2090_ : nIT N := fun _ => nI_toInt (by omega)
  have tn2091_ : nIT B := fun _ => nI_toInt (by omega)
  have tn2092_ : nIT D := fun _ => nI_toInt (by omega)
  refine Met.ofW (cc := cX10_put) (maxL := 4) (ret := (some .int)) (by decide) rfl ?_
  intro p e s m args below meth c s₁ Bd hml hv
  obtain ⟨rfl, hsz, hP, hK, hD0⟩ := hv
  have hx := Bd.exec
  have hb := Bd.bytes
  have hr := Bd.returns
  have hg : ∀ w ∈ GT, w.before ([.ref h0, .int i, .int k] : List Value).toArray s = true := fun w h => atoms_spec (ws := Cond.code yX10_put cX10_put 4 (some .int) :: GT) Bd.pre w (List.mem_cons_of_mem _ h)
  have hown : s.vm.findClass RX10 = some m.cls := findClass_of_methodNamed Bd.named
  have hlocks := Bd.notSynchronized
  subst hsz
  have hD := hD0.self (sz := s.heap.size)
  generalize hAe : va_A [(h0, .inr (10, [.ref rd, .ref wy, .ref tr, .ref im, .ref kp, .ref od, .ref ch, .ref cr, .ref le, .ref mk, .ref tl, .ref sh, .int tf, .int rf])), (wy, .inr (9, [.int (nI N), .int (nI B), .int (nI D), .ref a1, .ref a2, .ref a3, .ref a4, .ref a5, .ref a6])), (a3, .inl (G 0, 10, .inl f3))] s.heap.size = A at hD ⊢
  have hA : ∀ q : Nat, s.heap.size ≤ q → A q := fun q h => by rw [← hAe]; exact Or.inr h
  have hS : va_S A s.heap s.heap [] := va_S.rf
  have hl := lv_entry ([.ref h0, .int i, .int k]) (n := 4) (Nat.le_of_ble_eq_true rfl)
  rw [lg_entry_eq]
  generalize (lg_sl ([.ref h0, .int i, .int k]) ++ List.replicate (4 - (lg_sl ([.ref h0, .int i, .int k])).length) Slot.unset).toArray = ls at hl ⊢
  have hl : lv_has ls 4 [(0, .ref h0), (1, .int i), (2, .int k)] := hl
  refine lv_aload_n hx hb dX10_put_0 rfl (lv_at hl 0 rfl) ?_
  refine va_get (D := (dC, dI)) (ci := 10) (v := .ref wy) (C := RX10) (T := TX10) (N := 14) hx hb hg inG10 hown hK.1 hP 0 rfl rfl 1 (Nat.le_of_ble_eq_true rfl) (hg _ wt_303) (fun _ h9 => h9) rfl dX10_put_1 ?_
  refine lv_iload_n hx hb dX10_put_4 rfl (lv_at hl 1 rfl) ?_
  have hPc := hP.sub (ws' := [(wy, .inr (9, [.int (nI N), .int (nI B), .int (nI D), .ref a1, .ref a2, .ref a3, .ref a4, .ref a5, .ref a6]))]) [1] rfl
  refine va_calli (va_runVN (As := [.int i]) (rest := []) ⟨hx, hb, hml, hown, hg⟩ (c_X9_hasStretch l dC dI G _ wy a1 a2 a3 a4 a5 a6 N B D i hN_N hB_B hD_D) (kwVN hg hK mfX9_hasStretch wn_527 ⟨Nat.le_of_ble_eq_true rfl, Nat.le_of_ble_eq_true rfl⟩) (preVR hK hPc (ci := 9) (r := (RX9, TX9, 9)) rfl rfl) rfl rfl hl.1 rfl (lv_room (Nat.le_of_ble_eq_true rfl)) dX10_put_5 ⟨Nat.le_of_ble_eq_true rfl, Nat.le_of_ble_eq_true rfl⟩) hS (fun q h1 h2 => absurd h2 (Nat.not_le.mpr h1)) (fun q h => hA q (Nat.le_trans hS.1 h)) (fun r1 ur1 t H1 locs ht hvm w2 hB hz1 hk1 hS => ?_)
  have hP := keepR hP hk1
  obtain ⟨w2, w2x⟩ := w2
  try simp only [l_ii, show (0 : Int32).toInt = 0 from by decide] at w2
  try rw [show (nI (N)).toInt = ((N : Nat) : Int) from tn2090_ ()] at w2
  subst w2
  refine lv_if_eq (tgt := 22) hx hb dX10_put_8 rfl (fun c3 => ?_) (fun c3 => ?_)
  · skip
    have b4 := if10_n c3
    refine lv_iconst (v := (-1)) hx hb dX10_put_22 rfl ?_
    have hpost : ((-1) : Int32) = if ((0 ≤ i.toInt ∧ i.toInt < ((N : Nat) : Int)) ∧ (0 ≤ k.toInt ∧ k.toInt < ((B : Nat) : Int))) then f3 i.toNatClampNeg else -1 := by
      have t_b4 := b4
      have t_n0 : (nI N).toInt = (N : Int) := tn2090_ ()
      have t_n1 : (nI B).toInt = (B : Int) := tn2091_ ()
      have t_n2 : (nI D).toInt = (D : Int) := tn2092_ ()
      have z0 : (0 : Int32).toInt = 0 := qI_0
      have z1 : (1 : Int32).toInt = 1 := qI_1
      have z2 : (2 : Int32).toInt = 2 := qI_2
      have z3 : (3 : Int32).toInt = 3 := qI_3
      have z5 : (5 : Int32).toInt = 5 := qI_5
      have z9 : (9 : Int32).toInt = 9 := qI_9
      have z20 : (20 : Int32).toInt = 20 := qI_20
      have z4 : (-4 : Int32).toInt = -4 := (by decide)
      have z10 : (10 : Int32).toInt = 10 := qI_10
      first | (rw [if_neg (by omega)]; done) | (rw [if_pos (by omega)]; done)
    obtain ⟨hP9, hD9⟩ := va_sub2 (ws' := [(h0, .inr (10, [.ref rd, .ref wy, .ref tr, .ref im, .ref kp, .ref od, .ref ch, .ref cr, .ref le, .ref mk, .ref tl, .ref sh, .int tf, .int rf])), (wy, .inr (9, [.int (nI N), .int (nI B), .int (nI D), .ref a1, .ref a2, .ref a3, .ref a4, .ref a5, .ref a6])), (a3, .inl (G 0, 10, .inl f3))]) hP hD [0, 1, 2] (by decide +kernel) rfl
    refine W.widen (k := 0) (n := 0) (Nat.le_of_ble_eq_true rfl) (Nat.le_of_ble_eq_true rfl) ?_
    exact W.iret (v := (-1)) hx hb hr (fun t ht hW => ⟨⟨(-1), f3, rfl, ⟨hpost, (by have t_b4 := b4; have tnb_ := nib3 tn2090_ tn2091_ tn2092_; have tqz_ := qz46_; have z4 : (-4 : Int32).toInt = -4 := (by decide); have z10 : (10 : Int32).toInt = 10 := qI_10; first | (rw [if_neg (by omega)]; done) | (rw [if_pos (by omega)]; done))⟩, ⟨by rw [ht]; exact hP9, hD9⟩⟩, hS.F ht⟩) hS.2.2 dX10_put_23
  · skip
    have b5 := if10_p c3
    refine lv_aload_n hx hb dX10_put_11 rfl (lv_at hl 0 rfl) ?_
    refine va_get (D := (dC, dI)) (ci := 10) (v := .ref wy) (C := RX10) (T := TX10) (N := 14) hx hb hg inG10 hown hK.1 hP 0 rfl rfl 1 (Nat.le_of_ble_eq_true rfl) (hg _ wt_303) (fun _ h9 => h9) rfl dX10_put_12 ?_
    refine lv_iload_n hx hb dX10_put_15 rfl (lv_at hl 2 rfl) ?_
    have hPc := hP.sub (ws' := [(wy, .inr (9, [.int (nI N), .int (nI B), .int (nI D), .ref a1, .ref a2, .ref a3, .ref a4, .ref a5, .ref a6]))]) [1] rfl
    refine va_calli (va_runVN (As := [.int k]) (rest := []) ⟨hx, hb, hml, hown, hg⟩ (c_X9_hasBearer l dC dI G _ wy a1 a2 a3 a4 a5 a6 N B D k hN_N hB_B hD_D) (kwVN hg hK mfX9_hasBearer wn_535 ⟨Nat.le_of_ble_eq_true rfl, Nat.le_of_ble_eq_true rfl⟩) (preVR hK hPc (ci := 9) (r := (RX9, TX9, 9)) rfl rfl) rfl rfl hl.1 rfl (lv_room (Nat.le_of_ble_eq_true rfl)) dX10_put_16 ⟨Nat.le_of_ble_eq_true rfl, Nat.le_of_ble_eq_true rfl⟩) hS (fun q h1 h2 => absurd h2 (Nat.not_le.mpr h1)) (fun q h => hA q (Nat.le_trans hS.1 h)) (fun r6 ur6 t H1 locs ht hvm w7 hB hz1 hk1 hS => ?_)
    have hP := keepR hP hk1
    obtain ⟨w7, w7x⟩ := w7
    try simp only [l_ii, show (0 : Int32).toInt = 0 from by decide] at w7
    try rw [show (nI (B)).toInt = ((B : Nat) : Int) from tn2091_ ()] at w7
    subst w7
    refine lv_if_ne (tgt := 24) hx hb dX10_put_19 rfl (fun c8 => ?_) (fun c8 => ?_)
    · skip
      have b9 := if10_p c8
      refine lv_aload_n hx hb dX10_put_24 rfl (lv_at hl 0 rfl) ?_
      refine va_get (D := (dC, dI)) (ci := 10) (v := .ref wy) (C := RX10) (T := TX10) (N := 14) hx hb hg inG10 hown hK.1 hP 0 rfl rfl 1 (Nat.le_of_ble_eq_true rfl) (hg _ wt_303) (fun _ h9 => h9) rfl dX10_put_25 ?_
      refine va_getN (D := (dC, dI)) (ci := 9) (v := .ref a3) (C := RX9) (T := TX9) (N := 9) hx hb hg inG9 hown hK.1 hP 1 rfl rfl 5 (Nat.le_of_ble_eq_true rfl) (hK.nest wn_78) (fun _ h9 => h9) rfl dX10_put_28 ?_
      refine lv_iload_n hx hb dX10_put_31 rfl (lv_at hl 1 rfl) ?_
      refine va_iald hx hb hK.1 hP 2 0 rfl rfl (vp_in_iff.mpr (by have t_b5 := b5; have t_b9 := b9; have tnb_ := nib3 tn2090_ tn2091_ tn2092_; constructor <;> omega)) dX10_put_32 ?_
      refine lv_istore_n (lv' := [(3, .int (f3 i.toNatClampNeg)), (0, .ref h0), (1, .int i), (2, .int k)]) hx hb dX10_put_33 rfl hl (by decide) rfl (fun ls hl => ?_)
      refine lv_aload_n hx hb dX10_put_34 rfl (lv_at hl 1 rfl) ?_
      refine va_get (D := (dC, dI)) (ci := 10) (v := .ref wy) (C := RX10) (T := TX10) (N := 14) hx hb hg inG10 hown hK.1 hP 0 rfl rfl 1 (Nat.le_of_ble_eq_true rfl) (hg _ wt_303) (fun _ h9 => h9) rfl dX10_put_35 ?_
      refine va_getN (D := (dC, dI)) (ci := 9) (v := .ref a3) (C := RX9) (T := TX9) (N := 9) hx hb hg inG9 hown hK.1 hP 1 rfl rfl 5 (Nat.le_of_ble_eq_true rfl) (hK.nest wn_78) (fun _ h9 => h9) rfl dX10_put_38 ?_
      refine lv_iload_n hx hb dX10_put_41 rfl (lv_at hl 2 rfl) ?_
      refine lv_iload_n hx hb dX10_put_42 rfl (lv_at hl 3 rfl) ?_
      refine va_iast hx hb hK.1 hP hD hS 2 0 rfl rfl (vp_in_iff.mpr (by have t_b5 := b5; have t_b9 := b9; have tnb_ := nib3 tn2090_ tn2091_ tn2092_; constructor <;> omega)) dX10_put_43 (fun H locs hP hD hS => ?_)
      refine lv_iload_n hx hb dX10_put_44 rfl (lv_at hl 0 rfl) ?_
      have hpost : (f3 i.toNatClampNeg : Int32) = if ((0 ≤ i.toInt ∧ i.toInt < ((N : Nat) : Int)) ∧ (0 ≤ k.toInt ∧ k.toInt < ((B : Nat) : Int))) then f3 i.toNatClampNeg else -1 := by
        have t_b5 := b5
        have t_b9 := b9
        have t_n0 : (nI N).toInt = (N : Int) := tn2090_ ()
        have t_n1 : (nI B).toInt = (B : Int) := tn2091_ ()
        have t_n2 : (nI D).toInt = (D : Int) := tn2092_ ()
        have z0 : (0 : Int32).toInt = 0 := qI_0
        have z1 : (1 : Int32).toInt = 1 := qI_1
        have z2 : (2 : Int32).toInt = 2 := qI_2
        have z3 : (3 : Int32).toInt = 3 := qI_3
        have z5 : (5 : Int32).toInt = 5 := qI_5
        have z9 : (9 : Int32).toInt = 9 := qI_9
        have z20 : (20 : Int32).toInt = 20 := qI_20
        have z4 : (-4 : Int32).toInt = -4 := (by decide)
        have z10 : (10 : Int32).toInt = 10 := qI_10
        first | (rw [if_neg (by omega)]; done) | (rw [if_pos (by omega)]; done)
      obtain ⟨hP9, hD9⟩ := va_sub2 (ws' := [(h0, .inr (10, [.ref rd, .ref wy, .ref tr, .ref im, .ref kp, .ref od, .ref ch, .ref cr, .ref le, .ref mk, .ref tl, .ref sh, .int tf, .int rf])), (wy, .inr (9, [.int (nI N), .int (nI B), .int (nI D), .ref a1, .ref a2, .ref a3, .ref a4, .ref a5, .ref a6])), (a3, .inl (G 0, 10, .inl (upd f3 i.toNatClampNeg k)))]) hP hD [0, 1, 2] (by decide +kernel) rfl
      refine W.widen (k := 0) (n := 0) (Nat.le_of_ble_eq_true rfl) (Nat.le_of_ble_eq_true rfl) ?_
      exact W.iret (v := f3 i.toNatClampNeg) hx hb hr (fun t ht hW => ⟨⟨f3 i.toNatClampNeg, (upd f3 i.toNatClampNeg k), rfl, ⟨hpost, (by have t_b5 := b5; have t_b9 := b9; have tnb_ := nib3 tn2090_ tn2091_ tn2092_; have tqz_ := qz46_; have z4 : (-4 : Int32).toInt = -4 := (by decide); have z10 : (10 : Int32).toInt = 10 := qI_10; first | (rw [if_neg (by omega)]; done) | (rw [if_pos (by omega)]; done))⟩, ⟨by rw [ht]; exact hP9, hD9⟩⟩, hS.F ht⟩) hS.2.2 dX10_put_45
    · skip
      have b10 := if10_n c8
      refine lv_iconst (v := (-1)) hx hb dX10_put_22 rfl ?_
      have hpost : ((-1) : Int32) = if ((0 ≤ i.toInt ∧ i.toInt < ((N : Nat) : Int)) ∧ (0 ≤ k.toInt ∧ k.toInt < ((B : Nat) : Int))) then f3 i.toNatClampNeg else -1 := by
        have t_b5 := b5
        have t_b10 := b10
        have t_n0 : (nI N).toInt = (N : Int) := tn2090_ ()
        have t_n1 : (nI B).toInt = (B : Int) := tn2091_ ()
        have t_n2 : (nI D).toInt = (D : Int) := tn2092_ ()
        have z0 : (0 : Int32).toInt = 0 := qI_0
        have z1 : (1 : Int32).toInt = 1 := qI_1
        have z2 : (2 : Int32).toInt = 2 := qI_2
        have z3 : (3 : Int32).toInt = 3 := qI_3
        have z5 : (5 : Int32).toInt = 5 := qI_5
        have z9 : (9 : Int32).toInt = 9 := qI_9
        have z20 : (20 : Int32).toInt = 20 := qI_20
        have z4 : (-4 : Int32).toInt = -4 := (by decide)
        have z10 : (10 : Int32).toInt = 10 := qI_10
        first | (rw [if_neg (by omega)]; done) | (rw [if_pos (by omega)]; done)
      obtain ⟨hP9, hD9⟩ := va_sub2 (ws' := [(h0, .inr (10, [.ref rd, .ref wy, .ref tr, .ref im, .ref kp, .ref od, .ref ch, .ref cr, .ref le, .ref mk, .ref tl, .ref sh, .int tf, .int rf])), (wy, .inr (9, [.int (nI N), .int (nI B), .int (nI D), .ref a1, .ref a2, .ref a3, .ref a4, .ref a5, .ref a6])), (a3, .inl (G 0, 10, .inl f3))]) hP hD [0, 1, 2] (by decide +kernel) rfl
      refine W.widen (k := 0) (n := 0) (Nat.le_of_ble_eq_true rfl) (Nat.le_of_ble_eq_true rfl) ?_
      exact W.iret (v := (-1)) hx hb hr (fun t ht hW => ⟨⟨(-1), f3, rfl, ⟨hpost, (by have t_b5 := b5; have t_b10 := b10; have tnb_ := nib3 tn2090_ tn2091_ tn2092_; have tqz_ := qz46_; have z4 : (-4 : Int32).toInt = -4 := (by decide); have z10 : (10 : Int32).toInt = 10 := qI_10; first | (rw [if_neg (by omega)]; done) | (rw [if_pos (by omega)]; done))⟩, ⟨by rw [ht]; exact hP9, hD9⟩⟩, hS.F ht⟩) hS.2.2 dX10_put_23

set_option maxHeartbeats 4000000 in
set_option maxRecDepth 100000 in
theorem c_X10_readE (l : Launch) (dC : Nat → ClassId) (dI : Nat → Nat → Nat) (G : Nat → ClassId) (sz : Nat) (h0 rd wy tr im kp od ch cr le mk tl sh a1 a2 a3 a4 a5 a6 N B D la si ce fi se : Nat) (tf rf k lane x1 n x8 x9 : Int32) (f3 fl fz f1 f2 : Nat → Int32) (rc : Nat → Nat) (F : Nat → Nat → Int32) (hN_N : N ≤ 10) (hB_B : B ≤ 6) (hD_D : 1 ≤ D ∧ D ≤ 9) (hz : ∀ q : Nat, q < 4 → 0 ≤ (fz q).toInt ∧ (fz q).toInt ≤ 40) : Met l yX10_read (Cond.code yX10_read cX10_read 6 (some .int) :: GT) ({ frames := 2, cells := 0, slots := 0, locals := 50 } : Room) (PcW [.ref h0, .int k, .int lane, .int x1, .int n] dC dI G (([(h0, .inr (10, [.ref rd, .ref wy, .ref tr, .ref im, .ref kp, .ref od, .ref ch, .ref cr, .ref le, .ref mk, .ref tl, .ref sh, .int tf, .int rf])), (wy, .inr (9, [.int (nI N), .int (nI B), .int (nI D), .ref a1, .ref a2, .ref a3, .ref a4, .ref a5, .ref a6])), (a3, .inl (G 0, 10, .inl f3)), (sh, .inr (6, [.ref la, .ref si, .ref ce, .int x8, .int x9, .ref fi, .ref se])), (la, .inl (G 0, 4, .inl fl)), (si, .inl (G 0, 4, .inl fz)), (ce, .inl (G 4, 4, .inr (.inr (.inr (.inr (fun ir => if ir < 4 then some (rc ir) else none)))))), (fi, .inl (G 0, 20, .inl f1)), (se, .inl (G 0, 20, .inl f2))] : va_W) ++ ((((List.range 4).map (fun iq => (rc iq, .inl (G 0, 40, .inl (F iq))))) : va_W) ++ [])) sz) (va_Qi (fun (r : Int32) (u : Int32 × Int32 × (Nat → Int32) × (Nat → Int32) × (Nat → Int32) × Int32) => match u with | (u0, u1, u2, u3, u4, u5) => (r = if ((0 ≤ k.toInt ∧ k.toInt < 4) ∧ (0 ≤ lane.toInt ∧ lane.toInt ≤ 2) ∧ 0 ≤ n.toInt ∧ n.toInt ≤ 20) then rdR N B (fun q8 : Nat => F k.toNatClampNeg (x1.toInt + 2 * (q8 : Int) + 0).toNat) (fun q8 : Nat => F k.toNatClampNeg (x1.toInt + 2 * (q8 : Int) + 1).toNat) (tpK (fl k.toNatClampNeg) lane (fz k.toNatClampNeg).toInt x1.toInt n.toNatClampNeg) else -1) ∧ u4 = (if ((0 ≤ k.toInt ∧ k.toInt < 4) ∧ (0 ≤ lane.toInt ∧ lane.toInt ≤ 2) ∧ 0 ≤ n.toInt ∧ n.toInt ≤ 20) then rdF N B (fun q8 : Nat => F k.toNatClampNeg (x1.toInt + 2 * (q8 : Int) + 0).toNat) (fun q8 : Nat => F k.toNatClampNeg (x1.toInt + 2 * (q8 : Int) + 1).toNat) (tpK (fl k.toNatClampNeg) lane (fz k.toNatClampNeg).toInt x1.toInt n.toNatClampNeg) f3 else f3)) (fun (u : Int32 × Int32 × (Nat → Int32) × (Nat → Int32) × (Nat → Int32) × Int32) (t : State) => match u with | (u0, u1, u2, u3, u4, u5) => va_P (dC, dI) vwCl (([(h0, .inr (10, [.ref rd, .ref wy, .ref tr, .ref im, .ref kp, .ref od, .ref ch, .ref cr, .ref le, .ref mk, .ref tl, .ref sh, .int tf, .int u5])), (wy, .inr (9, [.int (nI N), .int (nI B), .int (nI D), .ref a1, .ref a2, .ref a3, .ref a4, .ref a5, .ref a6])), (a3, .inl (G 0, 10, .inl u4)), (sh, .inr (6, [.ref la, .ref si, .ref ce, .int u0, .int u1, .ref fi, .ref se])), (la, .inl (G 0, 4, .inl fl)), (si, .inl (G 0, 4, .inl fz)), (ce, .inl (G 4, 4, .inr (.inr (.inr (.inr (fun ir => if ir < 4 then some (rc ir) else none)))))), (fi, .inl (G 0, 20, .inl u2)), (se, .inl (G 0, 20, .inl u3))] : va_W) ++ ((((List.range 4).map (fun iq => (rc iq, .inl (G 0, 40, .inl (F iq))))) : va_W) ++ [])) t.heap ∧ va_D (va_A (([(h0, .inr (10, [.ref rd, .ref wy, .ref tr, .ref im, .ref kp, .ref od, .ref ch, .ref cr, .ref le, .ref mk, .ref tl, .ref sh, .int tf, .int rf])), (wy, .inr (9, [.int (nI N), .int (nI B), .int (nI D), .ref a1, .ref a2, .ref a3, .ref a4, .ref a5, .ref a6])), (a3, .inl (G 0, 10, .inl f3)), (sh, .inr (6, [.ref la, .ref si, .ref ce, .int x8, .int x9, .ref fi, .ref se])), (la, .inl (G 0, 4, .inl fl)), (si, .inl (G 0, 4, .inl fz)), (ce, .inl (G 4, 4, .inr (.inr (.inr (.inr (fun ir => if ir < 4 then some (rc ir) else none)))))), (fi, .inl (G 0, 20, .inl f1)), (se, .inl (G 0, 20, .inl f2))] : va_W) ++ ((((List.range 4).map (fun iq => (rc iq, .inl (G 0, 40, .inl (F iq))))) : va_W) ++ [])) sz) (([(h0, .inr (10, [.ref rd, .ref wy, .ref tr, .ref im, .ref kp, .ref od, .ref ch, .ref cr, .ref le, .ref mk, .ref tl, .ref sh, .int tf, .int u5])), (wy, .inr (9, [.int (nI N), .int (nI B), .int (nI D), .ref a1, .ref a2, .ref a3, .ref a4, .ref a5, .ref a6])), (a3, .inl (G 0, 10, .inl u4)), (sh, .inr (6, [.ref la, .ref si, .ref ce, .int u0, .int u1, .ref fi, .ref se])), (la, .inl (G 0, 4, .inl fl)), (si, .inl (G 0, 4, .inl fz)), (ce, .inl (G 4, 4, .inr (.inr (.inr (.inr (fun ir => if ir < 4 then some (rc ir) else none)))))), (fi, .inl (G 0, 20, .inl u2)), (se, .inl (G 0, 20, .inl u3))] : va_W) ++ ((((List.range 4).map (fun iq => (rc iq, .inl (G 0, 40, .inl (F iq))))) : va_W) ++ []))) (va_A (([(h0, .inr (10, [.ref rd, .ref wy, .ref tr, .ref im, .ref kp, .ref od, .ref ch, .ref cr, .ref le, .ref mk, .ref tl, .ref sh, .int tf, .int rf])), (wy, .inr (9, [.int (nI N), .int (nI B), .int (nI D), .ref a1, .ref a2, .ref a3, .ref a4, .ref a5, .ref a6])), (a3, .inl (G 0, 10, .inl f3)), (sh, .inr (6, [.ref la, .ref si, .ref ce, .int x8, .int x9, .ref fi, .ref se])), (la, .inl (G 0, 4, .inl fl)), (si, .inl (G 0, 4, .inl fz)), (ce, .inl (G 4, 4, .inr (.inr (.inr (.inr (fun ir => if ir < 4 then some (rc ir) else none)))))), (fi, .inl (G 0, 20, .inl f1)), (se, .inl (G 0, 20, .inl f2))] : va_W) ++ ((((List.range 4).map (fun iq => (rc iq, .inl (G 0, 40, .inl (F iq))))) : va_W) ++ [])) sz)) 0 0 (va_A (([(h0, .inr (10, [.ref rd, .ref wy, .ref tr, .ref im, .ref kp, .ref od, .ref ch, .ref cr, .ref le, .ref mk, .ref tl, .ref sh, .int tf, .int rf])), (wy, .inr (9, [.int (nI N), .int (nI B), .int (nI D), .ref a1, .ref a2, .ref a3, .ref a4, .ref a5, .ref a6])), (a3, .inl (G 0, 10, .inl f3)), (sh, .inr (6, [.ref la, .ref si, .ref ce, .int x8, .int x9, .ref fi, .ref se])), (la, .inl (G 0, 4, .inl fl)), (si, .inl (G 0, 4, .inl fz)), (ce, .inl (G 4, 4, .inr (.inr (.inr (.inr (fun ir => if ir < 4 then some (rc ir) else none)))))), (fi, .inl (G 0, 20, .inl f1)), (se, .inl (G 0, 20, .inl f2))] : va_W) ++ ((((List.range 4).map (fun iq => (rc iq, .inl (G 0, 40, .inl (F iq))))) : va_W) ++ [])) sz) := by
  have tn2093_ : nIT N := fun _ => nI_toInt (by omega)
  have tn2094_ : nIT B := fun _ => nI_toInt (by omega)
  have tn2095_ : nIT D := fun _ => nI_toInt (by omega)
  refine Met.ofW (cc := cX10_read) (maxL := 6) (ret := (some .int)) (by decide) rfl ?_
  intro p e s m args below meth c s₁ Bd hml hv
  obtain ⟨rfl, hsz, hP, hK, hD0⟩ := hv
  have hx := Bd.exec
  have hb := Bd.bytes
  have hr := Bd.returns
  have hg : ∀ w ∈ GT, w.before ([.ref h0, .int k, .int lane, .int x1, .int n] : List Value).toArray s = true := fun w h => atoms_spec (ws := Cond.code yX10_read cX10_read 6 (some .int) :: GT) Bd.pre w (List.mem_cons_of_mem _ h)
  have hown : s.vm.findClass RX10 = some m.cls := findClass_of_methodNamed Bd.named
  have hlocks := Bd.notSynchronized
  subst hsz
  have hD := hD0.self (sz := s.heap.size)
  generalize hAe : va_A (([(h0, .inr (10, [.ref rd, .ref wy, .ref tr, .ref im, .ref kp, .ref od, .ref ch, .ref cr, .ref le, .ref mk, .ref tl, .ref sh, .int tf, .int rf])), (wy, .inr (9, [.int (nI N), .int (nI B), .int (nI D), .ref a1, .ref a2, .ref a3, .ref a4, .ref a5, .ref a6])), (a3, .inl (G 0, 10, .inl f3)), (sh, .inr (6, [.ref la, .ref si, .ref ce, .int x8, .int x9, .ref fi, .ref se])), (la, .inl (G 0, 4, .inl fl)), (si, .inl (G 0, 4, .inl fz)), (ce, .inl (G 4, 4, .inr (.inr (.inr (.inr (fun ir => if ir < 4 then some (rc ir) else none)))))), (fi, .inl (G 0, 20, .inl f1)), (se, .inl (G 0, 20, .inl f2))] : va_W) ++ ((((List.range 4).map (fun iq => (rc iq, .inl (G 0, 40, .inl (F iq))))) : va_W) ++ [])) s.heap.size = A at hD ⊢
  have hA : ∀ q : Nat, s.heap.size ≤ q → A q := fun q h => by rw [← hAe]; exact Or.inr h
  have hS : va_S A s.heap s.heap [] := va_S.rf
  have hl := lv_entry ([.ref h0, .int k, .int lane, .int x1, .int n]) (n := 6) (Nat.le_of_ble_eq_true rfl)
  rw [lg_entry_eq]
  generalize (lg_sl ([.ref h0, .int k, .int lane, .int x1, .int n]) ++ List.replicate (6 - (lg_sl ([.ref h0, .int k, .int lane, .int x1, .int n])).length) Slot.unset).toArray = ls at hl ⊢
  have hl : lv_has ls 6 [(0, .ref h0), (1, .int k), (2, .int lane), (3, .int x1), (4, .int n)] := hl
  refine lv_iload_n hx hb dX10_read_0 rfl (lv_at hl 1 rfl) ?_
  have hPc := hP.sub (ws' := []) [] rfl
  refine va_calli (va_runSN (As := [.int k]) (rest := []) ⟨hx, hb, hml, hown, hg⟩ (c_X6_isSheet l dC dI G _ k) (kwSN hg hK mfX6_isSheet wn_823 ⟨Nat.le_of_ble_eq_true rfl, Nat.le_of_ble_eq_true rfl⟩) (preSR hK hPc) rfl rfl hl.1 rfl (lv_room (Nat.le_of_ble_eq_true rfl)) dX10_read_1 ⟨Nat.le_of_ble_eq_true rfl, Nat.le_of_ble_eq_true rfl⟩) hS (fun q h1 h2 => absurd h2 (Nat.not_le.mpr h1)) (fun q h => hA q (Nat.le_trans hS.1 h)) (fun r1 ur1 t H1 locs ht hvm w2 hB hz1 hk1 hS => ?_)
  have hP := keepR hP hk1
  obtain ⟨w2, w2x⟩ := w2
  try simp only [l_ii, show (0 : Int32).toInt = 0 from by decide, show (4 : Int32).toInt = 4 from by decide] at w2
  subst w2
  refine lv_if_eq (tgt := 26) hx hb dX10_read_4 rfl (fun c3 => ?_) (fun c3 => ?_)
  · skip
    have b4 := if10_n c3
    refine lv_iconst (v := (-1)) hx hb dX10_read_26 rfl ?_
    have hpost : ((-1) : Int32) = if ((0 ≤ k.toInt ∧ k.toInt < 4) ∧ (0 ≤ lane.toInt ∧ lane.toInt ≤ 2) ∧ 0 ≤ n.toInt ∧ n.toInt ≤ 20) then rdR N B (fun q8 : Nat => F k.toNatClampNeg (x1.toInt + 2 * (q8 : Int) + 0).toNat) (fun q8 : Nat => F k.toNatClampNeg (x1.toInt + 2 * (q8 : Int) + 1).toNat) (tpK (fl k.toNatClampNeg) lane (fz k.toNatClampNeg).toInt x1.toInt n.toNatClampNeg) else -1 := by
      have t_b4 := b4
      have t_n0 : (nI N).toInt = (N : Int) := tn2093_ ()
      have t_n1 : (nI B).toInt = (B : Int) := tn2094_ ()
      have t_n2 : (nI D).toInt = (D : Int) := tn2095_ ()
      have z0 : (0 : Int32).toInt = 0 := qI_0
      have z1 : (1 : Int32).toInt = 1 := qI_1
      have z2 : (2 : Int32).toInt = 2 := qI_2
      have z3 : (3 : Int32).toInt = 3 := qI_3
      have z5 : (5 : Int32).toInt = 5 := qI_5
      have z9 : (9 : Int32).toInt = 9 := qI_9
      have z20 : (20 : Int32).toInt = 20 := qI_20
      have z4 : (-4 : Int32).toInt = -4 := (by decide)
      have z10 : (10 : Int32).toInt = 10 := qI_10
      rw [if_neg (by omega)]
    obtain ⟨hP9, hD9⟩ := va_sub2 (ws' := (([(h0, .inr (10, [.ref rd, .ref wy, .ref tr, .ref im, .ref kp, .ref od, .ref ch, .ref cr, .ref le, .ref mk, .ref tl, .ref sh, .int tf, .int rf])), (wy, .inr (9, [.int (nI N), .int (nI B), .int (nI D), .ref a1, .ref a2, .ref a3, .ref a4, .ref a5, .ref a6])), (a3, .inl (G 0, 10, .inl f3)), (sh, .inr (6, [.ref la, .ref si, .ref ce, .int x8, .int x9, .ref fi, .ref se])), (la, .inl (G 0, 4, .inl fl)), (si, .inl (G 0, 4, .inl fz)), (ce, .inl (G 4, 4, .inr (.inr (.inr (.inr (fun ir => if ir < 4 then some (rc ir) else none)))))), (fi, .inl (G 0, 20, .inl f1)), (se, .inl (G 0, 20, .inl f2))] : va_W) ++ ((((List.range 4).map (fun iq => (rc iq, .inl (G 0, 40, .inl (F iq))))) : va_W) ++ []))) hP hD [0, 1, 2, 3, 4, 5, 6, 7, 8, 9, 10, 11, 12] (by decide +kernel) rfl
    refine W.widen (k := 0) (n := 0) (Nat.le_of_ble_eq_true rfl) (Nat.le_of_ble_eq_true rfl) ?_
    exact W.iret (v := (-1)) hx hb hr (fun t ht hW => ⟨⟨(-1), (x8, x9, f1, f2, f3, rf), rfl, ⟨hpost, (by have t_b4 := b4; have tnb_ := nib3 tn2093_ tn2094_ tn2095_; have tqz_ := qz46_; have z4 : (-4 : Int32).toInt = -4 := (by decide); have z10 : (10 : Int32).toInt = 10 := qI_10; rw [if_neg (by omega)])⟩, ⟨by rw [ht]; exact hP9, hD9⟩⟩, hS.F ht⟩) hS.2.2 dX10_read_27
  · skip
    have b5 := if10_p c3
    refine lv_iload_n hx hb dX10_read_7 rfl (lv_at hl 2 rfl) ?_
    have hPc := hP.sub (ws' := []) [] rfl
    refine va_calli (va_runSN (As := [.int lane]) (rest := []) ⟨hx, hb, hml, hown, hg⟩ (c_X6_isLane l dC dI G _ lane) (kwSN hg hK mfX6_isLane wn_826 ⟨Nat.le_of_ble_eq_true rfl, Nat.le_of_ble_eq_true rfl⟩) (preSR hK hPc) rfl rfl hl.1 rfl (lv_room (Nat.le_of_ble_eq_true rfl)) dX10_read_8 ⟨Nat.le_of_ble_eq_true rfl, Nat.le_of_ble_eq_true rfl⟩) hS (fun q h1 h2 => absurd h2 (Nat.not_le.mpr h1)) (fun q h => hA q (Nat.le_trans hS.1 h)) (fun r6 ur6 t H1 locs ht hvm w7 hB hz1 hk1 hS => ?_)
    have hP := keepR hP hk1
    obtain ⟨w7, w7x⟩ := w7
    try simp only [l_ii, show (0 : Int32).toInt = 0 from by decide, show (2 : Int32).toInt = 2 from by decide] at w7
    subst w7
    refine lv_if_eq (tgt := 26) hx hb dX10_read_11 rfl (fun c8 => ?_) (fun c8 => ?_)
    · skip
      have b9 := if10_n c8
      refine lv_iconst (v := (-1)) hx hb dX10_read_26 rfl ?_
      have hpost : ((-1) : Int32) = if ((0 ≤ k.toInt ∧ k.toInt < 4) ∧ (0 ≤ lane.toInt ∧ lane.toInt ≤ 2) ∧ 0 ≤ n.toInt ∧ n.toInt ≤ 20) then rdR N B (fun q8 : Nat => F k.toNatClampNeg (x1.toInt + 2 * (q8 : Int) + 0).toNat) (fun q8 : Nat => F k.toNatClampNeg (x1.toInt + 2 * (q8 : Int) + 1).toNat) (tpK (fl k.toNatClampNeg) lane (fz k.toNatClampNeg).toInt x1.toInt n.toNatClampNeg) else -1 := by
        have t_b5 := b5
        have t_b9 := b9
        have t_n0 : (nI N).toInt = (N : Int) := tn2093_ ()
        have t_n1 : (nI B).toInt = (B : Int) := tn2094_ ()
        have t_n2 : (nI D).toInt = (D : Int) := tn2095_ ()
        have z0 : (0 : Int32).toInt = 0 := qI_0
        have z1 : (1 : Int32).toInt = 1 := qI_1
        have z2 : (2 : Int32).toInt = 2 := qI_2
        have z3 : (3 : Int32).toInt = 3 := qI_3
        have z5 : (5 : Int32).toInt = 5 := qI_5
        have z9 : (9 : Int32).toInt = 9 := qI_9
        have z20 : (20 : Int32).toInt = 20 := qI_20
        have z4 : (-4 : Int32).toInt = -4 := (by decide)
        have z10 : (10 : Int32).toInt = 10 := qI_10
        rw [if_neg (by omega)]
      obtain ⟨hP9, hD9⟩ := va_sub2 (ws' := (([(h0, .inr (10, [.ref rd, .ref wy, .ref tr, .ref im, .ref kp, .ref od, .ref ch, .ref cr, .ref le, .ref mk, .ref tl, .ref sh, .int tf, .int rf])), (wy, .inr (9, [.int (nI N), .int (nI B), .int (nI D), .ref a1, .ref a2, .ref a3, .ref a4, .ref a5, .ref a6])), (a3, .inl (G 0, 10, .inl f3)), (sh, .inr (6, [.ref la, .ref si, .ref ce, .int x8, .int x9, .ref fi, .ref se])), (la, .inl (G 0, 4, .inl fl)), (si, .inl (G 0, 4, .inl fz)), (ce, .inl (G 4, 4, .inr (.inr (.inr (.inr (fun ir => if ir < 4 then some (rc ir) else none)))))), (fi, .inl (G 0, 20, .inl f1)), (se, .inl (G 0, 20, .inl f2))] : va_W) ++ ((((List.range 4).map (fun iq => (rc iq, .inl (G 0, 40, .inl (F iq))))) : va_W) ++ []))) hP hD [0, 1, 2, 3, 4, 5, 6, 7, 8, 9, 10, 11, 12] (by decide +kernel) rfl
      refine W.widen (k := 0) (n := 0) (Nat.le_of_ble_eq_true rfl) (Nat.le_of_ble_eq_true rfl) ?_
      exact W.iret (v := (-1)) hx hb hr (fun t ht hW => ⟨⟨(-1), (x8, x9, f1, f2, f3, rf), rfl, ⟨hpost, (by have t_b5 := b5; have t_b9 := b9; have tnb_ := nib3 tn2093_ tn2094_ tn2095_; have tqz_ := qz46_; have z4 : (-4 : Int32).toInt = -4 := (by decide); have z10 : (10 : Int32).toInt = 10 := qI_10; rw [if_neg (by omega)])⟩, ⟨by rw [ht]; exact hP9, hD9⟩⟩, hS.F ht⟩) hS.2.2 dX10_read_27
    · skip
      have b10 := if10_p c8
      refine lv_iload hx hb dX10_read_14 (lv_at hl 4 rfl) ?_
      refine lv_if_lt (tgt := 26) hx hb dX10_read_16 rfl (fun c11 => ?_) (fun c11 => ?_)
      · skip
        refine lv_iconst (v := (-1)) hx hb dX10_read_26 rfl ?_
        have hpost : ((-1) : Int32) = if ((0 ≤ k.toInt ∧ k.toInt < 4) ∧ (0 ≤ lane.toInt ∧ lane.toInt ≤ 2) ∧ 0 ≤ n.toInt ∧ n.toInt ≤ 20) then rdR N B (fun q8 : Nat => F k.toNatClampNeg (x1.toInt + 2 * (q8 : Int) + 0).toNat) (fun q8 : Nat => F k.toNatClampNeg (x1.toInt + 2 * (q8 : Int) + 1).toNat) (tpK (fl k.toNatClampNeg) lane (fz k.toNatClampNeg).toInt x1.toInt n.toNatClampNeg) else -1 := by
          have t_b5 := b5
          have t_b10 := b10
          have t_c11 := ltI c11
          have : (0 : Int32).toInt = 0 := qI_0
          have t_n0 : (nI N).toInt = (N : Int) := tn2093_ ()
          have t_n1 : (nI B).toInt = (B : Int) := tn2094_ ()
          have t_n2 : (nI D).toInt = (D : Int) := tn2095_ ()
          have z0 : (0 : Int32).toInt = 0 := qI_0
          have z1 : (1 : Int32).toInt = 1 := qI_1
          have z2 : (2 : Int32).toInt = 2 := qI_2
          have z3 : (3 : Int32).toInt = 3 := qI_3
          have z5 : (5 : Int32).toInt = 5 := qI_5
          have z9 : (9 : Int32).toInt = 9 := qI_9
          have z20 : (20 : Int32).toInt = 20 := qI_20
          have z4 : (-4 : Int32).toInt = -4 := (by decide)
          have z10 : (10 : Int32).toInt = 10 := qI_10
          rw [if_neg (by omega)]
        obtain ⟨hP9, hD9⟩ := va_sub2 (ws' := (([(h0, .inr (10, [.ref rd, .ref wy, .ref tr, .ref im, .ref kp, .ref od, .ref ch, .ref cr, .ref le, .ref mk, .ref tl, .ref sh, .int tf, .int rf])), (wy, .inr (9, [.int (nI N), .int (nI B), .int (nI D), .ref a1, .ref a2, .ref a3, .ref a4, .ref a5, .ref a6])), (a3, .inl (G 0, 10, .inl f3)), (sh, .inr (6, [.ref la, .ref si, .ref ce, .int x8, .int x9, .ref fi, .ref se])), (la, .inl (G 0, 4, .inl fl)), (si, .inl (G 0, 4, .inl fz)), (ce, .inl (G 4, 4, .inr (.inr (.inr (.inr (fun ir => if ir < 4 then some (rc ir) else none)))))), (fi, .inl (G 0, 20, .inl f1)), (se, .inl (G 0, 20, .inl f2))] : va_W) ++ ((((List.range 4).map (fun iq => (rc iq, .inl (G 0, 40, .inl (F iq))))) : va_W) ++ []))) hP hD [0, 1, 2, 3, 4, 5, 6, 7, 8, 9, 10, 11, 12] (by decide +kernel) rfl
        refine W.widen (k := 0) (n := 0) (Nat.le_of_ble_eq_true rfl) (Nat.le_of_ble_eq_true rfl) ?_
        exact W.iret (v := (-1)) hx hb hr (fun t ht hW => ⟨⟨(-1), (x8, x9, f1, f2, f3, rf), rfl, ⟨hpost, (by have t_b5 := b5; have t_b10 := b10; have t_c11 := ltI c11; have : (0 : Int32).toInt = 0 := qI_0; have tnb_ := nib3 tn2093_ tn2094_ tn2095_; have tqz_ := qz46_; have z4 : (-4 : Int32).toInt = -4 := (by decide); have z10 : (10 : Int32).toInt = 10 := qI_10; rw [if_neg (by omega)])⟩, ⟨by rw [ht]; exact hP9, hD9⟩⟩, hS.F ht⟩) hS.2.2 dX10_read_27
      · skip
        refine lv_iload hx hb dX10_read_19 (lv_at hl 4 rfl) ?_
        refine lv_bipush (v := 20) hx hb dX10_read_21 rfl ?_
        refine lv_icmp_le (tgt := 28) hx hb dX10_read_23 rfl (fun c12 => ?_) (fun c12 => ?_)
        · skip
          obtain ⟨kk, hkk, rfl⟩ : ∃ j : Nat, j < 4 ∧ k = nI j := by
            have t_b5 := b5
            have t_b10 := b10
            have t_c11 := nltI c11
            have t_c12 := leI c12
            have : (0 : Int32).toInt = 0 := qI_0
            have : (20 : Int32).toInt = 20 := qI_20
            have t_n0 : (nI N).toInt = (N : Int) := tn2093_ ()
            have t_n1 : (nI B).toInt = (B : Int) := tn2094_ ()
            have t_n2 : (nI D).toInt = (D : Int) := tn2095_ ()
            exact i32_nat (by omega) (by omega)
          obtain ⟨nn, hnn, rfl⟩ : ∃ j : Nat, j < 21 ∧ n = nI j := by
            have t_b5 := b5
            have t_b10 := b10
            have t_c11 := nltI c11
            have t_c12 := leI c12
            have t_hkk := hkk
            have : (0 : Int32).toInt = 0 := qI_0
            have : (20 : Int32).toInt = 20 := qI_20
            have t_n0 : (nI N).toInt = (N : Int) := tn2093_ ()
            have t_n1 : (nI B).toInt = (B : Int) := tn2094_ ()
            have t_n2 : (nI D).toInt = (D : Int) := tn2095_ ()
            have tn2096_ : nIT kk := fun _ => nI_toInt (by omega)
            have t_n3 : (nI kk).toInt = (kk : Int) := tn2096_ ()
            exact i32_nat (by omega) (by omega)
          refine lv_aload_n hx hb dX10_read_28 rfl (lv_at hl 0 rfl) ?_
          refine va_get (D := (dC, dI)) (ci := 10) (v := .ref sh) (C := RX10) (T := TX10) (N := 14) hx hb hg inG10 hown hK.1 hP 0 rfl rfl 11 (Nat.le_of_ble_eq_true rfl) (hg _ wt_313) (fun _ h9 => h9) rfl dX10_read_29 ?_
          refine lv_iload_n hx hb dX10_read_32 rfl (lv_at hl 1 rfl) ?_
          refine lv_iload_n hx hb dX10_read_33 rfl (lv_at hl 2 rfl) ?_
          refine lv_iload_n hx hb dX10_read_34 rfl (lv_at hl 3 rfl) ?_
          refine lv_iload hx hb dX10_read_35 (lv_at hl 4 rfl) ?_
          obtain ⟨hPc, hDc, hFc⟩ := va_sub3 (ws' := (([(sh, .inr (6, [.ref la, .ref si, .ref ce, .int x8, .int x9, .ref fi, .ref se])), (la, .inl (G 0, 4, .inl fl)), (si, .inl (G 0, 4, .inl fz)), (ce, .inl (G 4, 4, .inr (.inr (.inr (.inr (fun ir => if ir < 4 then some (rc ir) else none)))))), (fi, .inl (G 0, 20, .inl f1)), (se, .inl (G 0, 20, .inl f2))] : va_W) ++ ((((List.range 4).map (fun iq => (rc iq, .inl (G 0, 40, .inl (F iq))))) : va_W) ++ []))) hP hD hS hA [3, 4, 5, 6, 7, 8, 9, 10, 11, 12] (by decide +kernel) rfl
          have tn2097_ : nIT kk := fun _ => nI_toInt (by omega)
          have tn2098_ : nIT nn := fun _ => nI_toInt (by omega)
          refine va_callv (va_runVN (As := [.int (nI kk), .int lane, .int x1, .int (nI nn)]) (rest := []) ⟨hx, hb, hml, hown, hg⟩ (c_X6_takePairsE l dC dI G _ sh la si ce fi se kk nn x8 x9 lane x1 fl fz f1 f2 rc F (by omega) (by omega) hz (fun e9 => by have e8 := congrArg Int32.toInt e9; have t_b5 := b5; have t_b10 := b10; have t_c11 := nltI c11; have t_c12 := leI c12; have t_hkk := hkk; have t_hnn := hnn; have tqz_ := qz12_; have tnb_ := nib5 tn2093_ tn2094_ tn2095_ tn2097_ tn2098_; have m1 : (-1 : Int32).toInt = -1 := (by decide); omega)) (kwVN hg hK mfX6_takePairs wn_851 ⟨Nat.le_of_ble_eq_true rfl, Nat.le_of_ble_eq_true rfl⟩) (preVW hK hPc hDc (ci := 6) (r := (RX6, TX6, 7)) rfl rfl) rfl rfl hl.1 rfl (lv_room (Nat.le_of_ble_eq_true rfl)) dX10_read_37 ⟨Nat.le_of_ble_eq_true rfl, Nat.le_of_ble_eq_true rfl⟩) hS (fun q _ h => hFc q h) hFc (fun ur13 t H1 locs ht hvm w14 hB hz1 hk1 hS => ?_)
          obtain ⟨u15, u16, u17, u18⟩ := ur13
          obtain ⟨hP1, hD1⟩ := hB
          rw [ht] at hP1
          obtain ⟨hP, hD⟩ := va_join (wr := [(h0, .inr (10, [.ref rd, .ref wy, .ref tr, .ref im, .ref kp, .ref od, .ref ch, .ref cr, .ref le, .ref mk, .ref tl, .ref sh, .int tf, .int rf])), (wy, .inr (9, [.int (nI N), .int (nI B), .int (nI D), .ref a1, .ref a2, .ref a3, .ref a4, .ref a5, .ref a6])), (a3, .inl (G 0, 10, .inl f3))]) (w1 := (([(sh, .inr (6, [.ref la, .ref si, .ref ce, .int u15, .int (nI u16), .ref fi, .ref se])), (la, .inl (G 0, 4, .inl fl)), (si, .inl (G 0, 4, .inl fz)), (ce, .inl (G 4, 4, .inr (.inr (.inr (.inr (fun ir => if ir < 4 then some (rc ir) else none)))))), (fi, .inl (G 0, 20, .inl u17)), (se, .inl (G 0, 20, .inl u18))] : va_W) ++ ((((List.range 4).map (fun iq => (rc iq, .inl (G 0, 40, .inl (F iq))))) : va_W) ++ []))) hP hD [3, 4, 5, 6, 7, 8, 9, 10, 11, 12] [0, 1, 2] rfl rfl (by decide +kernel) (by decide +kernel) hk1 hFc hP1 hD1
          have w14 : u16 = tpK (fl kk) lane (fz kk).toInt x1.toInt nn ∧ (∀ q9 : Nat, q9 < u16 → u17 q9 = F kk (x1.toInt + 2 * (q9 : Int) + 0).toNat) ∧ (∀ q9 : Nat, q9 < u16 → u18 q9 = F kk (x1.toInt + 2 * (q9 : Int) + 1).toNat) ∧ u16 ≤ 20 := w14
          generalize H1 = H at hP hS ⊢
          refine lv_iconst (v := 0) hx hb dX10_read_40 rfl ?_
          refine lv_istore (lv' := [(5, .int 0), (0, .ref h0), (1, .int (nI kk)), (2, .int lane), (3, .int x1), (4, .int (nI nn))]) hx hb dX10_read_41 hl (by decide) rfl (fun ls hl => ?_)
          have loop43_20 : ∀ (nf j19 : Nat), u16 + 1 ≤ j19 + nf → j19 ≤ u16 → ∀ (H : Heap) (locs : List Loc), ((∀ q9 : Nat, q9 < j19 → 0 ≤ (u17 q9).toInt ∧ (u17 q9).toInt < ((N : Nat) : Int)) ∧ rdI N B u17 u18 (u16 - j19) j19 = rdI N B u17 u18 u16 0) → va_P (dC, dI) vwCl (([(h0, .inr (10, [.ref rd, .ref wy, .ref tr, .ref im, .ref kp, .ref od, .ref ch, .ref cr, .ref le, .ref mk, .ref tl, .ref sh, .int tf, .int rf])), (wy, .inr (9, [.int (nI N), .int (nI B), .int (nI D), .ref a1, .ref a2, .ref a3, .ref a4, .ref a5, .ref a6])), (a3, .inl (G 0, 10, .inl f3)), (sh, .inr (6, [.ref la, .ref si, .ref ce, .int u15, .int (nI u16), .ref fi, .ref se])), (la, .inl (G 0, 4, .inl fl)), (si, .inl (G 0, 4, .inl fz)), (ce, .inl (G 4, 4, .inr (.inr (.inr (.inr (fun ir => if ir < 4 then some (rc ir) else none)))))), (fi, .inl (G 0, 20, .inl u17)), (se, .inl (G 0, 20, .inl u18))] : va_W) ++ ((((List.range 4).map (fun iq => (rc iq, .inl (G 0, 40, .inl (F iq))))) : va_W) ++ [])) H → va_D A (([(h0, .inr (10, [.ref rd, .ref wy, .ref tr, .ref im, .ref kp, .ref od, .ref ch, .ref cr, .ref le, .ref mk, .ref tl, .ref sh, .int tf, .int rf])), (wy, .inr (9, [.int (nI N), .int (nI B), .int (nI D), .ref a1, .ref a2, .ref a3, .ref a4, .ref a5, .ref a6])), (a3, .inl (G 0, 10, .inl f3)), (sh, .inr (6, [.ref la, .ref si, .ref ce, .int u15, .int (nI u16), .ref fi, .ref se])), (la, .inl (G 0, 4, .inl fl)), (si, .inl (G 0, 4, .inl fz)), (ce, .inl (G 4, 4, .inr (.inr (.inr (.inr (fun ir => if ir < 4 then some (rc ir) else none)))))), (fi, .inl (G 0, 20, .inl u17)), (se, .inl (G 0, 20, .inl u18))] : va_W) ++ ((((List.range 4).map (fun iq => (rc iq, .inl (G 0, 40, .inl (F iq))))) : va_W) ++ [])) → va_S A s.heap H locs → ∀ (ls : Array Slot), lv_has ls 6 [(5, .int (nI j19)), (0, .ref h0), (1, .int (nI kk)), (2, .int lane), (3, .int x1), (4, .int (nI nn))] → W p l e (headSpec (Cond.code yX10_read cX10_read 6 (some .int) :: GT) ({ frames := 2, cells := 0, slots := 0, locals := 50 } : Room)).room s m ([.ref h0, .int (nI kk), .int lane, .int x1, .int (nI nn)] : List Value).toArray below meth c H locs 0 0 (MQ below (va_Qi (fun (r : Int32) (u : Int32 × Int32 × (Nat → Int32) × (Nat → Int32) × (Nat → Int32) × Int32) => match u with | (u0, u1, u2, u3, u4, u5) => (r = if ((0 ≤ (nI kk).toInt ∧ (nI kk).toInt < 4) ∧ (0 ≤ lane.toInt ∧ lane.toInt ≤ 2) ∧ 0 ≤ (nI nn).toInt ∧ (nI nn).toInt ≤ 20) then rdR N B (fun q8 : Nat => F (nI kk).toNatClampNeg (x1.toInt + 2 * (q8 : Int) + 0).toNat) (fun q8 : Nat => F (nI kk).toNatClampNeg (x1.toInt + 2 * (q8 : Int) + 1).toNat) (tpK (fl (nI kk).toNatClampNeg) lane (fz (nI kk).toNatClampNeg).toInt x1.toInt (nI nn).toNatClampNeg) else -1) ∧ u4 = (if ((0 ≤ (nI kk).toInt ∧ (nI kk).toInt < 4) ∧ (0 ≤ lane.toInt ∧ lane.toInt ≤ 2) ∧ 0 ≤ (nI nn).toInt ∧ (nI nn).toInt ≤ 20) then rdF N B (fun q8 : Nat => F (nI kk).toNatClampNeg (x1.toInt + 2 * (q8 : Int) + 0).toNat) (fun q8 : Nat => F (nI kk).toNatClampNeg (x1.toInt + 2 * (q8 : Int) + 1).toNat) (tpK (fl (nI kk).toNatClampNeg) lane (fz (nI kk).toNatClampNeg).toInt x1.toInt (nI nn).toNatClampNeg) f3 else f3)) (fun (u : Int32 × Int32 × (Nat → Int32) × (Nat → Int32) × (Nat → Int32) × Int32) (t : State) => match u with | (u0, u1, u2, u3, u4, u5) => va_P (dC, dI) vwCl (([(h0, .inr (10, [.ref rd, .ref wy, .ref tr, .ref im, .ref kp, .ref od, .ref ch, .ref cr, .ref le, .ref mk, .ref tl, .ref sh, .int tf, .int u5])), (wy, .inr (9, [.int (nI N), .int (nI B), .int (nI D), .ref a1, .ref a2, .ref a3, .ref a4, .ref a5, .ref a6])), (a3, .inl (G 0, 10, .inl u4)), (sh, .inr (6, [.ref la, .ref si, .ref ce, .int u0, .int u1, .ref fi, .ref se])), (la, .inl (G 0, 4, .inl fl)), (si, .inl (G 0, 4, .inl fz)), (ce, .inl (G 4, 4, .inr (.inr (.inr (.inr (fun ir => if ir < 4 then some (rc ir) else none)))))), (fi, .inl (G 0, 20, .inl u2)), (se, .inl (G 0, 20, .inl u3))] : va_W) ++ ((((List.range 4).map (fun iq => (rc iq, .inl (G 0, 40, .inl (F iq))))) : va_W) ++ [])) t.heap ∧ va_D A (([(h0, .inr (10, [.ref rd, .ref wy, .ref tr, .ref im, .ref kp, .ref od, .ref ch, .ref cr, .ref le, .ref mk, .ref tl, .ref sh, .int tf, .int u5])), (wy, .inr (9, [.int (nI N), .int (nI B), .int (nI D), .ref a1, .ref a2, .ref a3, .ref a4, .ref a5, .ref a6])), (a3, .inl (G 0, 10, .inl u4)), (sh, .inr (6, [.ref la, .ref si, .ref ce, .int u0, .int u1, .ref fi, .ref se])), (la, .inl (G 0, 4, .inl fl)), (si, .inl (G 0, 4, .inl fz)), (ce, .inl (G 4, 4, .inr (.inr (.inr (.inr (fun ir => if ir < 4 then some (rc ir) else none)))))), (fi, .inl (G 0, 20, .inl u2)), (se, .inl (G 0, 20, .inl u3))] : va_W) ++ ((((List.range 4).map (fun iq => (rc iq, .inl (G 0, 40, .inl (F iq))))) : va_W) ++ []))) A) ([.ref h0, .int (nI kk), .int lane, .int x1, .int (nI nn)] : List Value).toArray s 0 0 A) (F0 m 43 ls []) := by
            intro nf
            induction nf with
            | zero => intro j19 h1 h2; exact absurd h1 (by omega)
            | succ nf ih43_20 =>
              intro j19 hn21 hj22  H locs hinv hP hD hS ls hl
              refine lv_iload hx hb dX10_read_43 (lv_at hl 0 rfl) ?_
              refine lv_aload_n hx hb dX10_read_45 rfl (lv_at hl 1 rfl) ?_
              refine va_get (D := (dC, dI)) (ci := 10) (v := .ref sh) (C := RX10) (T := TX10) (N := 14) hx hb hg inG10 hown hK.1 hP 0 rfl rfl 11 (Nat.le_of_ble_eq_true rfl) (hg _ wt_313) (fun _ h9 => h9) rfl dX10_read_46 ?_
              refine va_getN (D := (dC, dI)) (ci := 6) (v := .int (nI u16)) (C := RX6) (T := TX6) (N := 7) hx hb hg inG6 hown hK.1 hP 3 rfl rfl 4 (Nat.le_of_ble_eq_true rfl) (hK.nest wn_282) (fun _ h9 => h9) rfl dX10_read_49 ?_
              refine lv_icmp_ge (tgt := 107) hx hb dX10_read_52 rfl (fun c23 => ?_) (fun c23 => ?_)
              · skip
                have tn2099_ : nIT j19 := fun _ => nI_toInt (by first | omega | (have t := leI c23; omega))
                have tn2100_ : nIT u16 := fun _ => nI_toInt (by omega)
                have n24 : u16 ≤ j19 := by have t := leI c23; rw [show (nI (j19)).toInt = ((j19 : Nat) : Int) from tn2099_ ()] at t; rw [show (nI (u16)).toInt = ((u16 : Nat) : Int) from tn2100_ ()] at t; omega
                have hchk := hinv
                have hall : rdI N B u17 u18 u16 0 = u16 := (by have t_b5 := b5; have t_b10 := b10; have t_c11 := nltI c11; have t_c12 := leI c12; have t_hkk := hkk; have t_hnn := hnn; have t_hj22 := hj22; have t_n24 := n24; have tqz_ := qz12_; have tnb_ := nib6 tn2093_ tn2094_ tn2095_ tn2097_ tn2098_ tn2099_; rw [← hinv.2, show j19 = u16 by omega, Nat.sub_self]; rfl)
                refine lv_iconst (v := 0) hx hb dX10_read_107 rfl ?_
                refine lv_istore (lv' := [(5, .int 0), (0, .ref h0), (1, .int (nI kk)), (2, .int lane), (3, .int x1), (4, .int (nI nn))]) hx hb dX10_read_108 hl (by decide) rfl (fun ls hl => ?_)
                have loop110_27 : ∀ (nf j25 : Nat), u16 + 1 ≤ j25 + nf → j25 ≤ u16 → ∀ (g26 : Nat → Int32) (H : Heap) (locs : List Loc), g26 = rdO u17 u18 f3 j25 → va_P (dC, dI) vwCl (([(h0, .inr (10, [.ref rd, .ref wy, .ref tr, .ref im, .ref kp, .ref od, .ref ch, .ref cr, .ref le, .ref mk, .ref tl, .ref sh, .int tf, .int rf])), (wy, .inr (9, [.int (nI N), .int (nI B), .int (nI D), .ref a1, .ref a2, .ref a3, .ref a4, .ref a5, .ref a6])), (a3, .inl (G 0, 10, .inl g26)), (sh, .inr (6, [.ref la, .ref si, .ref ce, .int u15, .int (nI u16), .ref fi, .ref se])), (la, .inl (G 0, 4, .inl fl)), (si, .inl (G 0, 4, .inl fz)), (ce, .inl (G 4, 4, .inr (.inr (.inr (.inr (fun ir => if ir < 4 then some (rc ir) else none)))))), (fi, .inl (G 0, 20, .inl u17)), (se, .inl (G 0, 20, .inl u18))] : va_W) ++ ((((List.range 4).map (fun iq => (rc iq, .inl (G 0, 40, .inl (F iq))))) : va_W) ++ [])) H → va_D A (([(h0, .inr (10, [.ref rd, .ref wy, .ref tr, .ref im, .ref kp, .ref od, .ref ch, .ref cr, .ref le, .ref mk, .ref tl, .ref sh, .int tf, .int rf])), (wy, .inr (9, [.int (nI N), .int (nI B), .int (nI D), .ref a1, .ref a2, .ref a3, .ref a4, .ref a5, .ref a6])), (a3, .inl (G 0, 10, .inl g26)), (sh, .inr (6, [.ref la, .ref si, .ref ce, .int u15, .int (nI u16), .ref fi, .ref se])), (la, .inl (G 0, 4, .inl fl)), (si, .inl (G 0, 4, .inl fz)), (ce, .inl (G 4, 4, .inr (.inr (.inr (.inr (fun ir => if ir < 4 then some (rc ir) else none)))))), (fi, .inl (G 0, 20, .inl u17)), (se, .inl (G 0, 20, .inl u18))] : va_W) ++ ((((List.range 4).map (fun iq => (rc iq, .inl (G 0, 40, .inl (F iq))))) : va_W) ++ [])) → va_S A s.heap H locs → ∀ (ls : Array Slot), lv_has ls 6 [(5, .int (nI j25)), (0, .ref h0), (1, .int (nI kk)), (2, .int lane), (3, .int x1), (4, .int (nI nn))] → W p l e (headSpec (Cond.code yX10_read cX10_read 6 (some .int) :: GT) ({ frames := 2, cells := 0, slots := 0, locals := 50 } : Room)).room s m ([.ref h0, .int (nI kk), .int lane, .int x1, .int (nI nn)] : List Value).toArray below meth c H locs 0 0 (MQ below (va_Qi (fun (r : Int32) (u : Int32 × Int32 × (Nat → Int32) × (Nat → Int32) × (Nat → Int32) × Int32) => match u with | (u0, u1, u2, u3, u4, u5) => (r = if ((0 ≤ (nI kk).toInt ∧ (nI kk).toInt < 4) ∧ (0 ≤ lane.toInt ∧ lane.toInt ≤ 2) ∧ 0 ≤ (nI nn).toInt ∧ (nI nn).toInt ≤ 20) then rdR N B (fun q8 : Nat => F (nI kk).toNatClampNeg (x1.toInt + 2 * (q8 : Int) + 0).toNat) (fun q8 : Nat => F (nI kk).toNatClampNeg (x1.toInt + 2 * (q8 : Int) + 1).toNat) (tpK (fl (nI kk).toNatClampNeg) lane (fz (nI kk).toNatClampNeg).toInt x1.toInt (nI nn).toNatClampNeg) else -1) ∧ u4 = (if ((0 ≤ (nI kk).toInt ∧ (nI kk).toInt < 4) ∧ (0 ≤ lane.toInt ∧ lane.toInt ≤ 2) ∧ 0 ≤ (nI nn).toInt ∧ (nI nn).toInt ≤ 20) then rdF N B (fun q8 : Nat => F (nI kk).toNatClampNeg (x1.toInt + 2 * (q8 : Int) + 0).toNat) (fun q8 : Nat => F (nI kk).toNatClampNeg (x1.toInt + 2 * (q8 : Int) + 1).toNat) (tpK (fl (nI kk).toNatClampNeg) lane (fz (nI kk).toNatClampNeg).toInt x1.toInt (nI nn).toNatClampNeg) f3 else f3)) (fun (u : Int32 × Int32 × (Nat → Int32) × (Nat → Int32) × (Nat → Int32) × Int32) (t : State) => match u with | (u0, u1, u2, u3, u4, u5) => va_P (dC, dI) vwCl (([(h0, .inr (10, [.ref rd, .ref wy, .ref tr, .ref im, .ref kp, .ref od, .ref ch, .ref cr, .ref le, .ref mk, .ref tl, .ref sh, .int tf, .int u5])), (wy, .inr (9, [.int (nI N), .int (nI B), .int (nI D), .ref a1, .ref a2, .ref a3, .ref a4, .ref a5, .ref a6])), (a3, .inl (G 0, 10, .inl u4)), (sh, .inr (6, [.ref la, .ref si, .ref ce, .int u0, .int u1, .ref fi, .ref se])), (la, .inl (G 0, 4, .inl fl)), (si, .inl (G 0, 4, .inl fz)), (ce, .inl (G 4, 4, .inr (.inr (.inr (.inr (fun ir => if ir < 4 then some (rc ir) else none)))))), (fi, .inl (G 0, 20, .inl u2)), (se, .inl (G 0, 20, .inl u3))] : va_W) ++ ((((List.range 4).map (fun iq => (rc iq, .inl (G 0, 40, .inl (F iq))))) : va_W) ++ [])) t.heap ∧ va_D A (([(h0, .inr (10, [.ref rd, .ref wy, .ref tr, .ref im, .ref kp, .ref od, .ref ch, .ref cr, .ref le, .ref mk, .ref tl, .ref sh, .int tf, .int u5])), (wy, .inr (9, [.int (nI N), .int (nI B), .int (nI D), .ref a1, .ref a2, .ref a3, .ref a4, .ref a5, .ref a6])), (a3, .inl (G 0, 10, .inl u4)), (sh, .inr (6, [.ref la, .ref si, .ref ce, .int u0, .int u1, .ref fi, .ref se])), (la, .inl (G 0, 4, .inl fl)), (si, .inl (G 0, 4, .inl fz)), (ce, .inl (G 4, 4, .inr (.inr (.inr (.inr (fun ir => if ir < 4 then some (rc ir) else none)))))), (fi, .inl (G 0, 20, .inl u2)), (se, .inl (G 0, 20, .inl u3))] : va_W) ++ ((((List.range 4).map (fun iq => (rc iq, .inl (G 0, 40, .inl (F iq))))) : va_W) ++ []))) A) ([.ref h0, .int (nI kk), .int lane, .int x1, .int (nI nn)] : List Value).toArray s 0 0 A) (F0 m 110 ls []) := by
                  intro nf
                  induction nf with
                  | zero => intro j25 h1 h2; exact absurd h1 (by omega)
                  | succ nf ih110_27 =>
                    intro j25 hn28 hj29 g26 H locs hinv hP hD hS ls hl
                    refine lv_iload hx hb dX10_read_110 (lv_at hl 0 rfl) ?_
                    refine lv_aload_n hx hb dX10_read_112 rfl (lv_at hl 1 rfl) ?_
                    refine va_get (D := (dC, dI)) (ci := 10) (v := .ref sh) (C := RX10) (T := TX10) (N := 14) hx hb hg inG10 hown hK.1 hP 0 rfl rfl 11 (Nat.le_of_ble_eq_true rfl) (hg _ wt_313) (fun _ h9 => h9) rfl dX10_read_113 ?_
                    refine va_getN (D := (dC, dI)) (ci := 6) (v := .int (nI u16)) (C := RX6) (T := TX6) (N := 7) hx hb hg inG6 hown hK.1 hP 3 rfl rfl 4 (Nat.le_of_ble_eq_true rfl) (hK.nest wn_282) (fun _ h9 => h9) rfl dX10_read_116 ?_
                    refine lv_icmp_ge (tgt := 156) hx hb dX10_read_119 rfl (fun c30 => ?_) (fun c30 => ?_)
                    · skip
                      have tn2101_ : nIT j25 := fun _ => nI_toInt (by first | omega | (have t := leI c30; omega))
                      have n31 : u16 ≤ j25 := by have t := leI c30; rw [show (nI (j25)).toInt = ((j25 : Nat) : Int) from tn2101_ ()] at t; rw [show (nI (u16)).toInt = ((u16 : Nat) : Int) from tn2100_ ()] at t; omega
                      refine lv_aload_n hx hb dX10_read_156 rfl (lv_at hl 1 rfl) ?_
                      refine lv_aload_n hx hb dX10_read_157 rfl (lv_at hl 1 rfl) ?_
                      refine va_get (D := (dC, dI)) (ci := 10) (v := .ref sh) (C := RX10) (T := TX10) (N := 14) hx hb hg inG10 hown hK.1 hP 0 rfl rfl 11 (Nat.le_of_ble_eq_true rfl) (hg _ wt_313) (fun _ h9 => h9) rfl dX10_read_158 ?_
                      refine va_getN (D := (dC, dI)) (ci := 6) (v := .int u15) (C := RX6) (T := TX6) (N := 7) hx hb hg inG6 hown hK.1 hP 3 rfl rfl 3 (Nat.le_of_ble_eq_true rfl) (hK.nest wn_280) (fun _ h9 => h9) rfl dX10_read_161 ?_
                      refine va_put (D := (dC, dI)) (ci := 10) (v := .int u15) (ty := .int) (C := RX10) (T := TX10) (N := 14) hx hb hg inG10 tyX10 tyX10_ok nmX10 hown hK.1 hP hD hS 0 rfl rfl 13 (Nat.le_of_ble_eq_true rfl) (hg _ wt_315) (fun _ h9 => h9) rfl (by decide +kernel) rfl rfl (Nat.le_of_ble_eq_true rfl) dX10_read_164 (fun H locs hP hD hS => ?_)
                      refine lv_aload_n hx hb dX10_read_167 rfl (lv_at hl 1 rfl) ?_
                      refine va_get (D := (dC, dI)) (ci := 10) (v := .ref sh) (C := RX10) (T := TX10) (N := 14) hx hb hg inG10 hown hK.1 hP 0 rfl rfl 11 (Nat.le_of_ble_eq_true rfl) (hg _ wt_313) (fun _ h9 => h9) rfl dX10_read_168 ?_
                      refine va_getN (D := (dC, dI)) (ci := 6) (v := .int (nI u16)) (C := RX6) (T := TX6) (N := 7) hx hb hg inG6 hown hK.1 hP 3 rfl rfl 4 (Nat.le_of_ble_eq_true rfl) (hK.nest wn_282) (fun _ h9 => h9) rfl dX10_read_171 ?_
                      have hpost : (nI u16 : Int32) = if ((0 ≤ (nI kk).toInt ∧ (nI kk).toInt < 4) ∧ (0 ≤ lane.toInt ∧ lane.toInt ≤ 2) ∧ 0 ≤ (nI nn).toInt ∧ (nI nn).toInt ≤ 20) then rdR N B (fun q8 : Nat => F (nI kk).toNatClampNeg (x1.toInt + 2 * (q8 : Int) + 0).toNat) (fun q8 : Nat => F (nI kk).toNatClampNeg (x1.toInt + 2 * (q8 : Int) + 1).toNat) (tpK (fl (nI kk).toNatClampNeg) lane (fz (nI kk).toNatClampNeg).toInt x1.toInt (nI nn).toNatClampNeg) else -1 := by
                        have t_b5 := b5
                        have t_b10 := b10
                        have t_c11 := nltI c11
                        have t_c12 := leI c12
                        have t_hkk := hkk
                        have t_hnn := hnn
                        have t_hj22 := hj22
                        have t_n24 := n24
                        have t_hj29 := hj29
                        have t_n31 := n31
                        have : (0 : Int32).toInt = 0 := qI_0
                        have : (20 : Int32).toInt = 20 := qI_20
                        have t_n0 : (nI N).toInt = (N : Int) := tn2093_ ()
                        have t_n1 : (nI B).toInt = (B : Int) := tn2094_ ()
                        have t_n2 : (nI D).toInt = (D : Int) := tn2095_ ()
                        have t_n3 : (nI kk).toInt = (kk : Int) := tn2097_ ()
                        have t_n4 : (nI nn).toInt = (nn : Int) := tn2098_ ()
                        have t_n5 : (nI j19).toInt = (j19 : Int) := tn2099_ ()
                        have t_n6 : (nI j25).toInt = (j25 : Int) := tn2101_ ()
                        have z0 : (0 : Int32).toInt = 0 := qI_0
                        have z1 : (1 : Int32).toInt = 1 := qI_1
                        have z2 : (2 : Int32).toInt = 2 := qI_2
                        have z3 : (3 : Int32).toInt = 3 := qI_3
                        have z5 : (5 : Int32).toInt = 5 := qI_5
                        have z9 : (9 : Int32).toInt = 9 := qI_9
                        have z20 : (20 : Int32).toInt = 20 := qI_20
                        have z4 : (-4 : Int32).toInt = -4 := (by decide)
                        have z10 : (10 : Int32).toInt = 10 := qI_10
                        have hm9 := w14.1
                        have hI9 := rdI_cg (N := N) (B := B) (m := u16) w14.2.1 w14.2.2.1 u16 0 (by omega)
                        have hO9 := rdO_cg (o := f3) (m := u16) w14.2.1 w14.2.2.1 u16 (Nat.le_refl _)
                        rw [if_pos (by omega), nI_clamp (by omega), nI_clamp (by omega)]
                        unfold rdR
                        rw [← hm9, ← hI9]
                        rw [hall, if_neg (by omega)]
                      obtain ⟨hP9, hD9⟩ := va_sub2 (ws' := (([(h0, .inr (10, [.ref rd, .ref wy, .ref tr, .ref im, .ref kp, .ref od, .ref ch, .ref cr, .ref le, .ref mk, .ref tl, .ref sh, .int tf, .int u15])), (wy, .inr (9, [.int (nI N), .int (nI B), .int (nI D), .ref a1, .ref a2, .ref a3, .ref a4, .ref a5, .ref a6])), (a3, .inl (G 0, 10, .inl g26)), (sh, .inr (6, [.ref la, .ref si, .ref ce, .int u15, .int (nI u16), .ref fi, .ref se])), (la, .inl (G 0, 4, .inl fl)), (si, .inl (G 0, 4, .inl fz)), (ce, .inl (G 4, 4, .inr (.inr (.inr (.inr (fun ir => if ir < 4 then some (rc ir) else none)))))), (fi, .inl (G 0, 20, .inl u17)), (se, .inl (G 0, 20, .inl u18))] : va_W) ++ ((((List.range 4).map (fun iq => (rc iq, .inl (G 0, 40, .inl (F iq))))) : va_W) ++ []))) hP hD [0, 1, 2, 3, 4, 5, 6, 7, 8, 9, 10, 11, 12] (by decide +kernel) rfl
                      refine W.widen (k := 0) (n := 0) (Nat.le_of_ble_eq_true rfl) (Nat.le_of_ble_eq_true rfl) ?_
                      exact W.iret (v := nI u16) hx hb hr (fun t ht hW => ⟨⟨nI u16, (u15, (nI u16), u17, u18, g26, u15), rfl, ⟨hpost, (by clear hpost; have t_b5 := b5; have t_b10 := b10; have t_c11 := nltI c11; have t_c12 := leI c12; have t_hkk := hkk; have t_hnn := hnn; have t_hj22 := hj22; have t_n24 := n24; have t_hj29 := hj29; have t_n31 := n31; have tqz_ := qz12_; have tnb_ := nib7 tn2093_ tn2094_ tn2095_ tn2097_ tn2098_ tn2099_ tn2101_; have tqz_ := qz46_; have z4 : (-4 : Int32).toInt = -4 := (by decide); have z10 : (10 : Int32).toInt = 10 := qI_10; have hm9 := w14.1; have hI9 := rdI_cg (N := N) (B := B) (m := u16) w14.2.1 w14.2.2.1 u16 0 (by omega); have hO9 := rdO_cg (o := f3) (m := u16) w14.2.1 w14.2.2.1 u16 (Nat.le_refl _); rw [if_pos (by omega), nI_clamp (by omega), nI_clamp (by omega)]; unfold rdF; rw [← hm9, ← hI9]; rw [hall, if_neg (by omega), ← hO9]; rw [hinv, show j25 = u16 by omega])⟩, ⟨by rw [ht]; exact hP9, hD9⟩⟩, hS.F ht⟩) hS.2.2 dX10_read_174
                    · skip
                      have tn2102_ : nIT j25 := fun _ => nI_toInt (by first | omega | (have t := nleI c30; omega))
                      have n32 : j25 < u16 := by have t := nleI c30; rw [show (nI (j25)).toInt = ((j25 : Nat) : Int) from tn2102_ ()] at t; rw [show (nI (u16)).toInt = ((u16 : Nat) : Int) from tn2100_ ()] at t; omega
                      refine lv_aload_n hx hb dX10_read_122 rfl (lv_at hl 1 rfl) ?_
                      refine va_get (D := (dC, dI)) (ci := 10) (v := .ref wy) (C := RX10) (T := TX10) (N := 14) hx hb hg inG10 hown hK.1 hP 0 rfl rfl 1 (Nat.le_of_ble_eq_true rfl) (hg _ wt_303) (fun _ h9 => h9) rfl dX10_read_123 ?_
                      refine va_getN (D := (dC, dI)) (ci := 9) (v := .ref a3) (C := RX9) (T := TX9) (N := 9) hx hb hg inG9 hown hK.1 hP 1 rfl rfl 5 (Nat.le_of_ble_eq_true rfl) (hK.nest wn_78) (fun _ h9 => h9) rfl dX10_read_126 ?_
                      refine lv_aload_n hx hb dX10_read_129 rfl (lv_at hl 1 rfl) ?_
                      refine va_get (D := (dC, dI)) (ci := 10) (v := .ref sh) (C := RX10) (T := TX10) (N := 14) hx hb hg inG10 hown hK.1 hP 0 rfl rfl 11 (Nat.le_of_ble_eq_true rfl) (hg _ wt_313) (fun _ h9 => h9) rfl dX10_read_130 ?_
                      refine va_getN (D := (dC, dI)) (ci := 6) (v := .ref fi) (C := RX6) (T := TX6) (N := 7) hx hb hg inG6 hown hK.1 hP 3 rfl rfl 5 (Nat.le_of_ble_eq_true rfl) (hK.nest wn_284) (fun _ h9 => h9) rfl dX10_read_133 ?_
                      refine lv_iload hx hb dX10_read_136 (lv_at hl 0 rfl) ?_
                      refine va_iald hx hb hK.1 hP 7 0 rfl rfl (vp_in_nI (by first | omega | (have t_b5 := b5; have t_b10 := b10; have t_c11 := nltI c11; have t_c12 := leI c12; have t_hkk := hkk; have t_hnn := hnn; have t_hj22 := hj22; have t_n24 := n24; have t_hj29 := hj29; have t_n32 := n32; have tqz_ := qz12_; have tnb_ := nib7 tn2093_ tn2094_ tn2095_ tn2097_ tn2098_ tn2099_ tn2102_; omega)) (by decide)) dX10_read_138 ?_
                      refine lv_cg (y := u17 j25) (by rw [nI_clamp (by omega)]) ?_
                      refine lv_aload_n hx hb dX10_read_139 rfl (lv_at hl 1 rfl) ?_
                      refine va_get (D := (dC, dI)) (ci := 10) (v := .ref sh) (C := RX10) (T := TX10) (N := 14) hx hb hg inG10 hown hK.1 hP 0 rfl rfl 11 (Nat.le_of_ble_eq_true rfl) (hg _ wt_313) (fun _ h9 => h9) rfl dX10_read_140 ?_
                      refine va_getN (D := (dC, dI)) (ci := 6) (v := .ref se) (C := RX6) (T := TX6) (N := 7) hx hb hg inG6 hown hK.1 hP 3 rfl rfl 6 (Nat.le_of_ble_eq_true rfl) (hK.nest wn_286) (fun _ h9 => h9) rfl dX10_read_143 ?_
                      refine lv_iload hx hb dX10_read_146 (lv_at hl 0 rfl) ?_
                      refine va_iald hx hb hK.1 hP 8 0 rfl rfl (vp_in_nI (by first | omega | (have t_b5 := b5; have t_b10 := b10; have t_c11 := nltI c11; have t_c12 := leI c12; have t_hkk := hkk; have t_hnn := hnn; have t_hj22 := hj22; have t_n24 := n24; have t_hj29 := hj29; have t_n32 := n32; have tqz_ := qz12_; have tnb_ := nib7 tn2093_ tn2094_ tn2095_ tn2097_ tn2098_ tn2099_ tn2102_; omega)) (by decide)) dX10_read_148 ?_
                      refine lv_cg (y := u18 j25) (by rw [nI_clamp (by omega)]) ?_
                      have hq33 := hchk.1 j25 (by omega)
                      refine va_iast hx hb hK.1 hP hD hS 2 0 rfl rfl (vp_in_iff.mpr (by have t_b5 := b5; have t_b10 := b10; have t_c11 := nltI c11; have t_c12 := leI c12; have t_hkk := hkk; have t_hnn := hnn; have t_hj22 := hj22; have t_n24 := n24; have t_hj29 := hj29; have t_n32 := n32; have t_hq33 := hq33; have tqz_ := qz12_; have tnb_ := nib7 tn2093_ tn2094_ tn2095_ tn2097_ tn2098_ tn2099_ tn2102_; constructor <;> omega)) dX10_read_149 (fun H locs hP hD hS => ?_)
                      refine lv_iinc (v := nI (j25 + 1)) (lv' := [(5, .int (nI (j25 + 1))), (0, .ref h0), (1, .int (nI kk)), (2, .int lane), (3, .int x1), (4, .int (nI nn))]) hx hb dX10_read_150 hl (k := 0) rfl (by rw [show Int32.ofInt 1 = nI 1 from by decide]; exact nI_add _ _) (by decide) rfl (fun ls hl => ?_)
                      refine lv_goto (tgt := 110) hx hb dX10_read_153 rfl ?_
                      exact ih110_27 (j25 + 1) (by omega) (by omega) (upd g26 (u17 j25).toNatClampNeg (u18 j25)) _ _ (by rw [hinv]; rfl) hP hD hS ls (lv_sub hl [0, 1, 2, 3, 4, 5] rfl)
                exact loop110_27 (u16 + 1) 0 (by omega) (by omega) f3 _ _ rfl hP hD hS ls (lv_sub hl [0, 1, 2, 3, 4, 5] rfl)
              · skip
                have tn2103_ : nIT j19 := fun _ => nI_toInt (by first | omega | (have t := nleI c23; omega))
                have tn2104_ : nIT u16 := fun _ => nI_toInt (by omega)
                have n34 : j19 < u16 := by have t := nleI c23; rw [show (nI (j19)).toInt = ((j19 : Nat) : Int) from tn2103_ ()] at t; rw [show (nI (u16)).toInt = ((u16 : Nat) : Int) from tn2104_ ()] at t; omega
                refine lv_aload_n hx hb dX10_read_55 rfl (lv_at hl 1 rfl) ?_
                refine va_get (D := (dC, dI)) (ci := 10) (v := .ref wy) (C := RX10) (T := TX10) (N := 14) hx hb hg inG10 hown hK.1 hP 0 rfl rfl 1 (Nat.le_of_ble_eq_true rfl) (hg _ wt_303) (fun _ h9 => h9) rfl dX10_read_56 ?_
                refine lv_aload_n hx hb dX10_read_59 rfl (lv_at hl 1 rfl) ?_
                refine va_get (D := (dC, dI)) (ci := 10) (v := .ref sh) (C := RX10) (T := TX10) (N := 14) hx hb hg inG10 hown hK.1 hP 0 rfl rfl 11 (Nat.le_of_ble_eq_true rfl) (hg _ wt_313) (fun _ h9 => h9) rfl dX10_read_60 ?_
                refine va_getN (D := (dC, dI)) (ci := 6) (v := .ref fi) (C := RX6) (T := TX6) (N := 7) hx hb hg inG6 hown hK.1 hP 3 rfl rfl 5 (Nat.le_of_ble_eq_true rfl) (hK.nest wn_284) (fun _ h9 => h9) rfl dX10_read_63 ?_
                refine lv_iload hx hb dX10_read_66 (lv_at hl 0 rfl) ?_
                refine va_iald hx hb hK.1 hP 7 0 rfl rfl (vp_in_nI (by first | omega | (have t_b5 := b5; have t_b10 := b10; have t_c11 := nltI c11; have t_c12 := leI c12; have t_hkk := hkk; have t_hnn := hnn; have t_hj22 := hj22; have t_n34 := n34; have tqz_ := qz12_; have tnb_ := nib6 tn2093_ tn2094_ tn2095_ tn2097_ tn2098_ tn2103_; omega)) (by decide)) dX10_read_68 ?_
                refine lv_cg (y := u17 j19) (by rw [nI_clamp (by omega)]) ?_
                have hPc := hP.sub (ws' := [(wy, .inr (9, [.int (nI N), .int (nI B), .int (nI D), .ref a1, .ref a2, .ref a3, .ref a4, .ref a5, .ref a6]))]) [1] rfl
                refine va_calli (va_runVN (As := [.int (u17 j19)]) (rest := []) ⟨hx, hb, hml, hown, hg⟩ (c_X9_hasStretch l dC dI G _ wy a1 a2 a3 a4 a5 a6 N B D (u17 j19) hN_N hB_B hD_D) (kwVN hg hK mfX9_hasStretch wn_527 ⟨Nat.le_of_ble_eq_true rfl, Nat.le_of_ble_eq_true rfl⟩) (preVR hK hPc (ci := 9) (r := (RX9, TX9, 9)) rfl rfl) rfl rfl hl.1 rfl (lv_room (Nat.le_of_ble_eq_true rfl)) dX10_read_69 ⟨Nat.le_of_ble_eq_true rfl, Nat.le_of_ble_eq_true rfl⟩) hS (fun q h1 h2 => absurd h2 (Nat.not_le.mpr h1)) (fun q h => hA q (Nat.le_trans hS.1 h)) (fun r35 ur35 t H1 locs ht hvm w36 hB hz1 hk1 hS => ?_)
                have hP := keepR hP hk1
                obtain ⟨w36, w36x⟩ := w36
                try simp only [l_ii, show (0 : Int32).toInt = 0 from by decide] at w36
                try rw [show (nI (N)).toInt = ((N : Nat) : Int) from tn2093_ ()] at w36
                subst w36
                refine lv_if_eq (tgt := 95) hx hb dX10_read_72 rfl (fun c37 => ?_) (fun c37 => ?_)
                · skip
                  have b38 := if10_n c37
                  refine lv_bipush (v := (-20)) hx hb dX10_read_95 rfl ?_
                  refine lv_iload hx hb dX10_read_97 (lv_at hl 0 rfl) ?_
                  refine lv_isub hx hb dX10_read_99 ?_
                  have hpost : ((-20) - (nI j19) : Int32) = if ((0 ≤ (nI kk).toInt ∧ (nI kk).toInt < 4) ∧ (0 ≤ lane.toInt ∧ lane.toInt ≤ 2) ∧ 0 ≤ (nI nn).toInt ∧ (nI nn).toInt ≤ 20) then rdR N B (fun q8 : Nat => F (nI kk).toNatClampNeg (x1.toInt + 2 * (q8 : Int) + 0).toNat) (fun q8 : Nat => F (nI kk).toNatClampNeg (x1.toInt + 2 * (q8 : Int) + 1).toNat) (tpK (fl (nI kk).toNatClampNeg) lane (fz (nI kk).toNatClampNeg).toInt x1.toInt (nI nn).toNatClampNeg) else -1 := by
                    have t_b5 := b5
                    have t_b10 := b10
                    have t_c11 := nltI c11
                    have t_c12 := leI c12
                    have t_hkk := hkk
                    have t_hnn := hnn
                    have t_hj22 := hj22
                    have t_n34 := n34
                    have t_b38 := b38
                    have : (0 : Int32).toInt = 0 := qI_0
                    have : (20 : Int32).toInt = 20 := qI_20
                    have t_n0 : (nI N).toInt = (N : Int) := tn2093_ ()
                    have t_n1 : (nI B).toInt = (B : Int) := tn2094_ ()
                    have t_n2 : (nI D).toInt = (D : Int) := tn2095_ ()
                    have t_n3 : (nI kk).toInt = (kk : Int) := tn2097_ ()
                    have t_n4 : (nI nn).toInt = (nn : Int) := tn2098_ ()
                    have t_n5 : (nI j19).toInt = (j19 : Int) := tn2103_ ()
                    have z0 : (0 : Int32).toInt = 0 := qI_0
                    have z1 : (1 : Int32).toInt = 1 := qI_1
                    have z2 : (2 : Int32).toInt = 2 := qI_2
                    have z3 : (3 : Int32).toInt = 3 := qI_3
                    have z5 : (5 : Int32).toInt = 5 := qI_5
                    have z9 : (9 : Int32).toInt = 9 := qI_9
                    have z20 : (20 : Int32).toInt = 20 := qI_20
                    have z4 : (-4 : Int32).toInt = -4 := (by decide)
                    have z10 : (10 : Int32).toInt = 10 := qI_10
                    have hm9 := w14.1
                    have hI9 := rdI_cg (N := N) (B := B) (m := u16) w14.2.1 w14.2.2.1 u16 0 (by omega)
                    have hO9 := rdO_cg (o := f3) (m := u16) w14.2.1 w14.2.2.1 u16 (Nat.le_refl _)
                    rw [if_pos (by omega), nI_clamp (by omega), nI_clamp (by omega)]
                    unfold rdR
                    rw [← hm9, ← hI9]
                    have hj9 : rdI N B u17 u18 u16 0 = j19 := (by rw [← hinv.2]; exact rdI_no (by omega))
                    rw [hj9, if_pos (by omega)]
                  obtain ⟨hP9, hD9⟩ := va_sub2 (ws' := (([(h0, .inr (10, [.ref rd, .ref wy, .ref tr, .ref im, .ref kp, .ref od, .ref ch, .ref cr, .ref le, .ref mk, .ref tl, .ref sh, .int tf, .int rf])), (wy, .inr (9, [.int (nI N), .int (nI B), .int (nI D), .ref a1, .ref a2, .ref a3, .ref a4, .ref a5, .ref a6])), (a3, .inl (G 0, 10, .inl f3)), (sh, .inr (6, [.ref la, .ref si, .ref ce, .int u15, .int (nI u16), .ref fi, .ref se])), (la, .inl (G 0, 4, .inl fl)), (si, .inl (G 0, 4, .inl fz)), (ce, .inl (G 4, 4, .inr (.inr (.inr (.inr (fun ir => if ir < 4 then some (rc ir) else none)))))), (fi, .inl (G 0, 20, .inl u17)), (se, .inl (G 0, 20, .inl u18))] : va_W) ++ ((((List.range 4).map (fun iq => (rc iq, .inl (G 0, 40, .inl (F iq))))) : va_W) ++ []))) hP hD [0, 1, 2, 3, 4, 5, 6, 7, 8, 9, 10, 11, 12] (by decide +kernel) rfl
                  refine W.widen (k := 0) (n := 0) (Nat.le_of_ble_eq_true rfl) (Nat.le_of_ble_eq_true rfl) ?_
                  exact W.iret (v := (-20) - (nI j19)) hx hb hr (fun t ht hW => ⟨⟨(-20) - (nI j19), (u15, (nI u16), u17, u18, f3, rf), rfl, ⟨hpost, (by clear hpost; have t_b5 := b5; have t_b10 := b10; have t_c11 := nltI c11; have t_c12 := leI c12; have t_hkk := hkk; have t_hnn := hnn; have t_hj22 := hj22; have t_n34 := n34; have t_b38 := b38; have tqz_ := qz12_; have tnb_ := nib6 tn2093_ tn2094_ tn2095_ tn2097_ tn2098_ tn2103_; have tqz_ := qz46_; have z4 : (-4 : Int32).toInt = -4 := (by decide); have z10 : (10 : Int32).toInt = 10 := qI_10; have hm9 := w14.1; have hI9 := rdI_cg (N := N) (B := B) (m := u16) w14.2.1 w14.2.2.1 u16 0 (by omega); have hO9 := rdO_cg (o := f3) (m := u16) w14.2.1 w14.2.2.1 u16 (Nat.le_refl _); rw [if_pos (by omega), nI_clamp (by omega), nI_clamp (by omega)]; unfold rdF; rw [← hm9, ← hI9]; first | (have hj9 : rdI N B u17 u18 u16 0 = j19 := (by rw [← hinv.2]; exact rdI_no (by omega)); rw [hj9, if_pos (by omega)]; done) | (rw [hall, if_neg (by omega)]; rfl))⟩, ⟨by rw [ht]; exact hP9, hD9⟩⟩, hS.F ht⟩) hS.2.2 dX10_read_100
                · skip
                  have b39 := if10_p c37
                  refine lv_aload_n hx hb dX10_read_75 rfl (lv_at hl 1 rfl) ?_
                  refine va_get (D := (dC, dI)) (ci := 10) (v := .ref wy) (C := RX10) (T := TX10) (N := 14) hx hb hg inG10 hown hK.1 hP 0 rfl rfl 1 (Nat.le_of_ble_eq_true rfl) (hg _ wt_303) (fun _ h9 => h9) rfl dX10_read_76 ?_
                  refine lv_aload_n hx hb dX10_read_79 rfl (lv_at hl 1 rfl) ?_
                  refine va_get (D := (dC, dI)) (ci := 10) (v := .ref sh) (C := RX10) (T := TX10) (N := 14) hx hb hg inG10 hown hK.1 hP 0 rfl rfl 11 (Nat.le_of_ble_eq_true rfl) (hg _ wt_313) (fun _ h9 => h9) rfl dX10_read_80 ?_
                  refine va_getN (D := (dC, dI)) (ci := 6) (v := .ref se) (C := RX6) (T := TX6) (N := 7) hx hb hg inG6 hown hK.1 hP 3 rfl rfl 6 (Nat.le_of_ble_eq_true rfl) (hK.nest wn_286) (fun _ h9 => h9) rfl dX10_read_83 ?_
                  refine lv_iload hx hb dX10_read_86 (lv_at hl 0 rfl) ?_
                  refine va_iald hx hb hK.1 hP 8 0 rfl rfl (vp_in_nI (by first | omega | (have t_b5 := b5; have t_b10 := b10; have t_c11 := nltI c11; have t_c12 := leI c12; have t_hkk := hkk; have t_hnn := hnn; have t_hj22 := hj22; have t_n34 := n34; have t_b39 := b39; have tqz_ := qz12_; have tnb_ := nib6 tn2093_ tn2094_ tn2095_ tn2097_ tn2098_ tn2103_; omega)) (by decide)) dX10_read_88 ?_
                  refine lv_cg (y := u18 j19) (by rw [nI_clamp (by omega)]) ?_
                  have hPc := hP.sub (ws' := [(wy, .inr (9, [.int (nI N), .int (nI B), .int (nI D), .ref a1, .ref a2, .ref a3, .ref a4, .ref a5, .ref a6]))]) [1] rfl
                  refine va_calli (va_runVN (As := [.int (u18 j19)]) (rest := []) ⟨hx, hb, hml, hown, hg⟩ (c_X9_hasBearer l dC dI G _ wy a1 a2 a3 a4 a5 a6 N B D (u18 j19) hN_N hB_B hD_D) (kwVN hg hK mfX9_hasBearer wn_535 ⟨Nat.le_of_ble_eq_true rfl, Nat.le_of_ble_eq_true rfl⟩) (preVR hK hPc (ci := 9) (r := (RX9, TX9, 9)) rfl rfl) rfl rfl hl.1 rfl (lv_room (Nat.le_of_ble_eq_true rfl)) dX10_read_89 ⟨Nat.le_of_ble_eq_true rfl, Nat.le_of_ble_eq_true rfl⟩) hS (fun q h1 h2 => absurd h2 (Nat.not_le.mpr h1)) (fun q h => hA q (Nat.le_trans hS.1 h)) (fun r40 ur40 t H1 locs ht hvm w41 hB hz1 hk1 hS => ?_)
                  have hP := keepR hP hk1
                  obtain ⟨w41, w41x⟩ := w41
                  try simp only [l_ii, show (0 : Int32).toInt = 0 from by decide] at w41
                  try rw [show (nI (B)).toInt = ((B : Nat) : Int) from tn2094_ ()] at w41
                  subst w41
                  refine lv_if_ne (tgt := 101) hx hb dX10_read_92 rfl (fun c42 => ?_) (fun c42 => ?_)
                  · skip
                    have b43 := if10_p c42
                    refine lv_iinc (v := nI (j19 + 1)) (lv' := [(5, .int (nI (j19 + 1))), (0, .ref h0), (1, .int (nI kk)), (2, .int lane), (3, .int x1), (4, .int (nI nn))]) hx hb dX10_read_101 hl (k := 0) rfl (by rw [show Int32.ofInt 1 = nI 1 from by decide]; exact nI_add _ _) (by decide) rfl (fun ls hl => ?_)
                    refine lv_goto (tgt := 43) hx hb dX10_read_104 rfl ?_
                    exact ih43_20 (j19 + 1) (by omega) (by omega)  _ _ ⟨(fun q9 hq9 => by rcases Nat.lt_or_eq_of_le (Nat.le_of_lt_succ hq9) with h9 | h9; exact hinv.1 q9 h9; rw [h9]; have t_b5 := b5; have t_b10 := b10; have t_c11 := nltI c11; have t_c12 := leI c12; have t_hkk := hkk; have t_hnn := hnn; have t_hj22 := hj22; have t_n34 := n34; have t_b39 := b39; have t_b43 := b43; have tqz_ := qz12_; have tnb_ := nib6 tn2093_ tn2094_ tn2095_ tn2097_ tn2098_ tn2103_; exact ⟨by omega, by omega⟩), (by have t_b5 := b5; have t_b10 := b10; have t_c11 := nltI c11; have t_c12 := leI c12; have t_hkk := hkk; have t_hnn := hnn; have t_hj22 := hj22; have t_n34 := n34; have t_b39 := b39; have t_b43 := b43; have tqz_ := qz12_; have tnb_ := nib6 tn2093_ tn2094_ tn2095_ tn2097_ tn2098_ tn2103_; rw [← rdI_go (by omega) ⟨⟨by omega, by omega⟩, ⟨by omega, by omega⟩⟩]; exact hinv.2)⟩ hP hD hS ls (lv_sub hl [0, 1, 2, 3, 4, 5] rfl)
                  · skip
                    have b44 := if10_n c42
                    refine lv_bipush (v := (-20)) hx hb dX10_read_95 rfl ?_
                    refine lv_iload hx hb dX10_read_97 (lv_at hl 0 rfl) ?_
                    refine lv_isub hx hb dX10_read_99 ?_
                    have hpost : ((-20) - (nI j19) : Int32) = if ((0 ≤ (nI kk).toInt ∧ (nI kk).toInt < 4) ∧ (0 ≤ lane.toInt ∧ lane.toInt ≤ 2) ∧ 0 ≤ (nI nn).toInt ∧ (nI nn).toInt ≤ 20) then rdR N B (fun q8 : Nat => F (nI kk).toNatClampNeg (x1.toInt + 2 * (q8 : Int) + 0).toNat) (fun q8 : Nat => F (nI kk).toNatClampNeg (x1.toInt + 2 * (q8 : Int) + 1).toNat) (tpK (fl (nI kk).toNatClampNeg) lane (fz (nI kk).toNatClampNeg).toInt x1.toInt (nI nn).toNatClampNeg) else -1 := by
                      have t_b5 := b5
                      have t_b10 := b10
                      have t_c11 := nltI c11
                      have t_c12 := leI c12
                      have t_hkk := hkk
                      have t_hnn := hnn
                      have t_hj22 := hj22
                      have t_n34 := n34
                      have t_b39 := b39
                      have t_b44 := b44
                      have : (0 : Int32).toInt = 0 := qI_0
                      have : (20 : Int32).toInt = 20 := qI_20
                      have t_n0 : (nI N).toInt = (N : Int) := tn2093_ ()
                      have t_n1 : (nI B).toInt = (B : Int) := tn2094_ ()
                      have t_n2 : (nI D).toInt = (D : Int) := tn2095_ ()
                      have t_n3 : (nI kk).toInt = (kk : Int) := tn2097_ ()
                      have t_n4 : (nI nn).toInt = (nn : Int) := tn2098_ ()
                      have t_n5 : (nI j19).toInt = (j19 : Int) := tn2103_ ()
                      have z0 : (0 : Int32).toInt = 0 := qI_0
                      have z1 : (1 : Int32).toInt = 1 := qI_1
                      have z2 : (2 : Int32).toInt = 2 := qI_2
                      have z3 : (3 : Int32).toInt = 3 := qI_3
                      have z5 : (5 : Int32).toInt = 5 := qI_5
                      have z9 : (9 : Int32).toInt = 9 := qI_9
                      have z20 : (20 : Int32).toInt = 20 := qI_20
                      have z4 : (-4 : Int32).toInt = -4 := (by decide)
                      have z10 : (10 : Int32).toInt = 10 := qI_10
                      have hm9 := w14.1
                      have hI9 := rdI_cg (N := N) (B := B) (m := u16) w14.2.1 w14.2.2.1 u16 0 (by omega)
                      have hO9 := rdO_cg (o := f3) (m := u16) w14.2.1 w14.2.2.1 u16 (Nat.le_refl _)
                      rw [if_pos (by omega), nI_clamp (by omega), nI_clamp (by omega)]
                      unfold rdR
                      rw [← hm9, ← hI9]
                      have hj9 : rdI N B u17 u18 u16 0 = j19 := (by rw [← hinv.2]; exact rdI_no (by omega))
                      rw [hj9, if_pos (by omega)]
                    obtain ⟨hP9, hD9⟩ := va_sub2 (ws' := (([(h0, .inr (10, [.ref rd, .ref wy, .ref tr, .ref im, .ref kp, .ref od, .ref ch, .ref cr, .ref le, .ref mk, .ref tl, .ref sh, .int tf, .int rf])), (wy, .inr (9, [.int (nI N), .int (nI B), .int (nI D), .ref a1, .ref a2, .ref a3, .ref a4, .ref a5, .ref a6])), (a3, .inl (G 0, 10, .inl f3)), (sh, .inr (6, [.ref la, .ref si, .ref ce, .int u15, .int (nI u16), .ref fi, .ref se])), (la, .inl (G 0, 4, .inl fl)), (si, .inl (G 0, 4, .inl fz)), (ce, .inl (G 4, 4, .inr (.inr (.inr (.inr (fun ir => if ir < 4 then some (rc ir) else none)))))), (fi, .inl (G 0, 20, .inl u17)), (se, .inl (G 0, 20, .inl u18))] : va_W) ++ ((((List.range 4).map (fun iq => (rc iq, .inl (G 0, 40, .inl (F iq))))) : va_W) ++ []))) hP hD [0, 1, 2, 3, 4, 5, 6, 7, 8, 9, 10, 11, 12] (by decide +kernel) rfl
                    refine W.widen (k := 0) (n := 0) (Nat.le_of_ble_eq_true rfl) (Nat.le_of_ble_eq_true rfl) ?_
                    exact W.iret (v := (-20) - (nI j19)) hx hb hr (fun t ht hW => ⟨⟨(-20) - (nI j19), (u15, (nI u16), u17, u18, f3, rf), rfl, ⟨hpost, (by clear hpost; have t_b5 := b5; have t_b10 := b10; have t_c11 := nltI c11; have t_c12 := leI c12; have t_hkk := hkk; have t_hnn := hnn; have t_hj22 := hj22; have t_n34 := n34; have t_b39 := b39; have t_b44 := b44; have tqz_ := qz12_; have tnb_ := nib6 tn2093_ tn2094_ tn2095_ tn2097_ tn2098_ tn2103_; have tqz_ := qz46_; have z4 : (-4 : Int32).toInt = -4 := (by decide); have z10 : (10 : Int32).toInt = 10 := qI_10; have hm9 := w14.1; have hI9 := rdI_cg (N := N) (B := B) (m := u16) w14.2.1 w14.2.2.1 u16 0 (by omega); have hO9 := rdO_cg (o := f3) (m := u16) w14.2.1 w14.2.2.1 u16 (Nat.le_refl _); rw [if_pos (by omega), nI_clamp (by omega), nI_clamp (by omega)]; unfold rdF; rw [← hm9, ← hI9]; first | (have hj9 : rdI N B u17 u18 u16 0 = j19 := (by rw [← hinv.2]; exact rdI_no (by omega)); rw [hj9, if_pos (by omega)]; done) | (rw [hall, if_neg (by omega)]; rfl))⟩, ⟨by rw [ht]; exact hP9, hD9⟩⟩, hS.F ht⟩) hS.2.2 dX10_read_100
          exact loop43_20 (u16 + 1) 0 (by omega) (by omega)  _ _ ⟨(fun q9 h9 => absurd h9 (Nat.not_lt_zero _)), rfl⟩ hP hD hS ls (lv_sub hl [0, 1, 2, 3, 4, 5] rfl)
        · skip
          refine lv_iconst (v := (-1)) hx hb dX10_read_26 rfl ?_
          have hpost : ((-1) : Int32) = if ((0 ≤ k.toInt ∧ k.toInt < 4) ∧ (0 ≤ lane.toInt ∧ lane.toInt ≤ 2) ∧ 0 ≤ n.toInt ∧ n.toInt ≤ 20) then rdR N B (fun q8 : Nat => F k.toNatClampNeg (x1.toInt + 2 * (q8 : Int) + 0).toNat) (fun q8 : Nat => F k.toNatClampNeg (x1.toInt + 2 * (q8 : Int) + 1).toNat) (tpK (fl k.toNatClampNeg) lane (fz k.toNatClampNeg).toInt x1.toInt n.toNatClampNeg) else -1 := by
            have t_b5 := b5
            have t_b10 := b10
            have t_c11 := nltI c11
            have t_c12 := nleI c12
            have : (0 : Int32).toInt = 0 := qI_0
            have : (20 : Int32).toInt = 20 := qI_20
            have t_n0 : (nI N).toInt = (N : Int) := tn2093_ ()
            have t_n1 : (nI B).toInt = (B : Int) := tn2094_ ()
            have t_n2 : (nI D).toInt = (D : Int) := tn2095_ ()
            have z0 : (0 : Int32).toInt = 0 := qI_0
            have z1 : (1 : Int32).toInt = 1 := qI_1
            have z2 : (2 : Int32).toInt = 2 := qI_2
            have z3 : (3 : Int32).toInt = 3 := qI_3
            have z5 : (5 : Int32).toInt = 5 := qI_5
            have z9 : (9 : Int32).toInt = 9 := qI_9
            have z20 : (20 : Int32).toInt = 20 := qI_20
            have z4 : (-4 : Int32).toInt = -4 := (by decide)
            have z10 : (10 : Int32).toInt = 10 := qI_10
            rw [if_neg (by omega)]
          obtain ⟨hP9, hD9⟩ := va_sub2 (ws' := (([(h0, .inr (10, [.ref rd, .ref wy, .ref tr, .ref im, .ref kp, .ref od, .ref ch, .ref cr, .ref le, .ref mk, .ref tl, .ref sh, .int tf, .int rf])), (wy, .inr (9, [.int (nI N), .int (nI B), .int (nI D), .ref a1, .ref a2, .ref a3, .ref a4, .ref a5, .ref a6])), (a3, .inl (G 0, 10, .inl f3)), (sh, .inr (6, [.ref la, .ref si, .ref ce, .int x8, .int x9, .ref fi, .ref se])), (la, .inl (G 0, 4, .inl fl)), (si, .inl (G 0, 4, .inl fz)), (ce, .inl (G 4, 4, .inr (.inr (.inr (.inr (fun ir => if ir < 4 then some (rc ir) else none)))))), (fi, .inl (G 0, 20, .inl f1)), (se, .inl (G 0, 20, .inl f2))] : va_W) ++ ((((List.range 4).map (fun iq => (rc iq, .inl (G 0, 40, .inl (F iq))))) : va_W) ++ []))) hP hD [0, 1, 2, 3, 4, 5, 6, 7, 8, 9, 10, 11, 12] (by decide +kernel) rfl
          refine W.widen (k := 0) (n := 0) (Nat.le_of_ble_eq_true rfl) (Nat.le_of_ble_eq_true rfl) ?_
          exact W.iret (v := (-1)) hx hb hr (fun t ht hW => ⟨⟨(-1), (x8, x9, f1, f2, f3, rf), rfl, ⟨hpost, (by have t_b5 := b5; have t_b10 := b10; have t_c11 := nltI c11; have t_c12 := nleI c12; have tqz_ := qz12_; have tnb_ := nib3 tn2093_ tn2094_ tn2095_; have tqz_ := qz46_; have z4 : (-4 : Int32).toInt = -4 := (by decide); have z10 : (10 : Int32).toInt = 10 := qI_10; rw [if_neg (by omega)])⟩, ⟨by rw [ht]; exact hP9, hD9⟩⟩, hS.F ht⟩) hS.2.2 dX10_read_27

set_option maxHeartbeats 1000000 in
set_option maxRecDepth 100000 in
theorem c_X11_putsO (l : Launch) (dC : Nat → ClassId) (dI : Nat → Nat → Nat) (G : Nat → ClassId) (sz : Nat) (h0 st N B rp tp T cu lt od th be ln S ma M ah bh ik la lg ce : Nat) (i v vrs vrb vhs vca vxs vxb vfa vbr vba vsp vhe vtk vva vto : Int32) (fst : Nat → Int32) (hN : N ≤ 10) (hB : B ≤ 6) (hT : T ≤ 320) (hS0 : S ≤ 8) (hM : M ≤ 6) (hst : OKS fst) : Met l yX11_puts (Cond.code yX11_puts cX11_puts 3 (some .int) :: GT) ({ frames := 2, cells := 0, slots := 0, locals := 46 } : Room) (PcW [.ref h0, .int i, .int v] dC dI G [(h0, .inr (11, [.ref st, .int (nI N), .int (nI B), .ref rp, .int vrs, .int vrb, .int vhs, .int vca, .int vxs, .int vxb, .ref tp, .int (nI T), .int vfa, .int vbr, .int vba, .int vsp, .int vhe, .int vtk, .int vva, .ref cu, .ref lt, .ref od, .ref th, .ref be, .ref ln, .int (nI S), .ref ma, .int (nI M), .ref ah, .ref bh, .ref ik, .ref la, .ref lg, .ref ce, .int vto])), (st, .inl (G 0, 196, .inl fst))] sz) (va_Qi (fun (r : Int32) (u : (Nat → Int32)) => match u with | ost => (r = if ((0 ≤ i.toInt ∧ i.toInt < ((N : Nat) : Int)) ∧ (0 ≤ v.toInt ∧ v.toInt < ((B : Nat) : Int))) then fst (38 + i.toNatClampNeg) else -1) ∧ OKS ost ∧ ost = (if ((0 ≤ i.toInt ∧ i.toInt < ((N : Nat) : Int)) ∧ (0 ≤ v.toInt ∧ v.toInt < ((B : Nat) : Int))) then upd fst (38 + i.toNatClampNeg) v else fst)) (fun (u : (Nat → Int32)) (t : State) => match u with | ost => va_P (dC, dI) vwCl [(h0, .inr (11, [.ref st, .int (nI N), .int (nI B), .ref rp, .int vrs, .int vrb, .int vhs, .int vca, .int vxs, .int vxb, .ref tp, .int (nI T), .int vfa, .int vbr, .int vba, .int vsp, .int vhe, .int vtk, .int vva, .ref cu, .ref lt, .ref od, .ref th, .ref be, .ref ln, .int (nI S), .ref ma, .int (nI M), .ref ah, .ref bh, .ref ik, .ref la, .ref lg, .ref ce, .int vto])), (st, .inl (G 0, 196, .inl ost))] t.heap ∧ va_D (va_A [(h0, .inr (11, [.ref st, .int (nI N), .int (nI B), .ref rp, .int vrs, .int vrb, .int vhs, .int vca, .int vxs, .int vxb, .ref tp, .int (nI T), .int vfa, .int vbr, .int vba, .int vsp, .int vhe, .int vtk, .int vva, .ref cu, .ref lt, .ref od, .ref th, .ref be, .ref ln, .int (nI S), .ref ma, .int (nI M), .ref ah, .ref bh, .ref ik, .ref la, .ref lg, .ref ce, .int vto])), (st, .inl (G 0, 196, .inl fst))] sz) [(h0, .inr (11, [.ref st, .int (nI N), .int (nI B), .ref rp, .int vrs, .int vrb, .int vhs, .int vca, .int vxs, .int vxb, .ref tp, .int (nI T), .int vfa, .int vbr, .int vba, .int vsp, .int vhe, .int vtk, .int vva, .ref cu, .ref lt, .ref od, .ref th, .ref be, .ref ln, .int (nI S), .ref ma, .int (nI M), .ref ah, .ref bh, .ref ik, .ref la, .ref lg, .ref ce, .int vto])), (st, .inl (G 0, 196, .inl ost))]) (va_A [(h0, .inr (11, [.ref st, .int (nI N), .int (nI B), .ref rp, .int vrs, .int vrb, .int vhs, .int vca, .int vxs, .int vxb, .ref tp, .int (nI T), .int vfa, .int vbr, .int vba, .int vsp, .int vhe, .int vtk, .int vva, .ref cu, .ref lt, .ref od, .ref th, .ref be, .ref ln, .int (nI S), .ref ma, .int (nI M), .ref ah, .ref bh, .ref ik, .ref la, .ref lg, .ref ce, .int vto])), (st, .inl (G 0, 196, .inl fst))] sz)) 0 0 (va_A [(h0, .inr (11, [.ref st, .int (nI N), .int (nI B), .ref rp, .int vrs, .int vrb, .int vhs, .int vca, .int vxs, .int vxb, .ref tp, .int (nI T), .int vfa, .int vbr, .int vba, .int vsp, .int vhe, .int vtk, .int vva, .ref cu, .ref lt, .ref od, .ref th, .ref be, .ref ln, .int (nI S), .ref ma, .int (nI M), .ref ah, .ref bh, .ref ik, .ref la, .ref lg, .ref ce, .int vto])), (st, .inl (G 0, 196, .inl fst))] sz) := by
  have hB_ := hB
  have hM_ := hM
  have hT_ := hT
  have tn2105_ : nIT N := fun _ => nI_toInt (by omega)
  have tn2106_ : nIT B := fun _ => nI_toInt (by omega)
  have tn2107_ : nIT T := fun _ => nI_toInt (by omega)
  have tn2108_ : nIT S := fun _ => nI_toInt (by omega)
  have tn2109_ : nIT M := fun _ => nI_toInt (by omega)
  refine Met.ofW (cc := cX11_puts) (maxL := 3) (ret := (some .int)) (by decide) rfl ?_
  intro p e s m args below meth c s₁ Bd hml hv
  obtain ⟨rfl, hsz, hP, hK, hD0⟩ := hv
  have hx := Bd.exec
  have hb := Bd.bytes
  have hr := Bd.returns
  have hg : ∀ w ∈ GT, w.before ([.ref h0, .int i, .int v] : List Value).toArray s = true := fun w h => atoms_spec (ws := Cond.code yX11_puts cX11_puts 3 (some .int) :: GT) Bd.pre w (List.mem_cons_of_mem _ h)
  have hown : s.vm.findClass RX11 = some m.cls := findClass_of_methodNamed Bd.named
  have hlocks := Bd.notSynchronized
  subst hsz
  have hD := hD0.self (sz := s.heap.size)
  generalize hAe : va_A [(h0, .inr (11, [.ref st, .int (nI N), .int (nI B), .ref rp, .int vrs, .int vrb, .int vhs, .int vca, .int vxs, .int vxb, .ref tp, .int (nI T), .int vfa, .int vbr, .int vba, .int vsp, .int vhe, .int vtk, .int vva, .ref cu, .ref lt, .ref od, .ref th, .ref be, .ref ln, .int (nI S), .ref ma, .int (nI M), .ref ah, .ref bh, .ref ik, .ref la, .ref lg, .ref ce, .int vto])), (st, .inl (G 0, 196, .inl fst))] s.heap.size = A at hD ⊢
  have hA : ∀ q : Nat, s.heap.size ≤ q → A q := fun q h => by rw [← hAe]; exact Or.inr h
  have hS : va_S A s.heap s.heap [] := va_S.rf
  have hl := lv_entry ([.ref h0, .int i, .int v]) (n := 3) (Nat.le_of_ble_eq_true rfl)
  rw [lg_entry_eq]
  generalize (lg_sl ([.ref h0, .int i, .int v]) ++ List.replicate (3 - (lg_sl ([.ref h0, .int i, .int v])).length) Slot.unset).toArray = ls at hl ⊢
  have hl : lv_has ls 3 [(0, .ref h0), (1, .int i), (2, .int v)] := hl
  refine lv_aload_n hx hb dX11_puts_0 rfl (lv_at hl 0 rfl) ?_
  refine lv_aload_n hx hb dX11_puts_1 rfl (lv_at hl 0 rfl) ?_
  refine lv_iload_n hx hb dX11_puts_2 rfl (lv_at hl 1 rfl) ?_
  have hPc := hP.sub (ws' := [(h0, .inr (11, [.ref st, .int (nI N), .int (nI B), .ref rp, .int vrs, .int vrb, .int vhs, .int vca, .int vxs, .int vxb, .ref tp, .int (nI T), .int vfa, .int vbr, .int vba, .int vsp, .int vhe, .int vtk, .int vva, .ref cu, .ref lt, .ref od, .ref th, .ref be, .ref ln, .int (nI S), .ref ma, .int (nI M), .ref ah, .ref bh, .ref ik, .ref la, .ref lg, .ref ce, .int vto]))]) [0] rfl
  refine va_calli (va_runV (As := [.int i]) (rest := [.ref h0]) ⟨hx, hb, hml, hown, hg⟩ (c_X11_isStretch l dC dI G _ h0 st N B rp tp T cu lt od th be ln S ma M ah bh ik la lg ce i vrs vrb vhs vca vxs vxb vfa vbr vba vsp vhe vtk vva vto hN hB_ hT_ hS0 hM_) (kwV hg mfX11_isStretch wt_1052 ⟨Nat.le_of_ble_eq_true rfl, Nat.le_of_ble_eq_true rfl⟩) (preVR hK hPc (ci := 11) (r := (RX11, TX11, 35)) rfl rfl) rfl rfl hl.1 rfl (lv_room (Nat.le_of_ble_eq_true rfl)) dX11_puts_3 ⟨Nat.le_of_ble_eq_true rfl, Nat.le_of_ble_eq_true rfl⟩) hS (fun q h1 h2 => absurd h2 (Nat.not_le.mpr h1)) (fun q h => hA q (Nat.le_trans hS.1 h)) (fun r1 ur1 t H1 locs ht hvm w2 hB hz1 hk1 hS => ?_)
  have hP := keepR hP hk1
  obtain ⟨w2, w2x⟩ := w2
  try simp only [l_ii, show (0 : Int32).toInt = 0 from by decide] at w2
  try rw [show (nI (N)).toInt = ((N : Nat) : Int) from tn2105_ ()] at w2
  subst w2
  refine lv_if_eq (tgt := 21) hx hb dX11_puts_6 rfl (fun c3 => ?_) (fun c3 => ?_)
  · skip
    have b4 := if10_n c3
    refine lv_iconst (v := 0) hx hb dX11_puts_21 rfl ?_
    refine lv_bipush (v := 38) hx hb dX11_puts_22 rfl ?_
    refine lv_iload_n hx hb dX11_puts_24 rfl (lv_at hl 1 rfl) ?_
    refine lv_iadd hx hb dX11_puts_25 ?_
    refine lv_iload_n hx hb dX11_puts_26 rfl (lv_at hl 2 rfl) ?_
    obtain ⟨hPc, hDc, hFc⟩ := va_sub3 (ws' := [(h0, .inr (11, [.ref st, .int (nI N), .int (nI B), .ref rp, .int vrs, .int vrb, .int vhs, .int vca, .int vxs, .int vxb, .ref tp, .int (nI T), .int vfa, .int vbr, .int vba, .int vsp, .int vhe, .int vtk, .int vva, .ref cu, .ref lt, .ref od, .ref th, .ref be, .ref ln, .int (nI S), .ref ma, .int (nI M), .ref ah, .ref bh, .ref ik, .ref la, .ref lg, .ref ce, .int vto])), (st, .inl (G 0, 196, .inl fst))]) hP hD hS hA [0, 1] (by decide +kernel) rfl
    refine va_calli (va_runV (As := [.int 0, .int (38 + i), .int v]) (rest := []) ⟨hx, hb, hml, hown, hg⟩ (c_X11_sets0E l dC dI G _ h0 st N B rp tp T cu lt od th be ln S ma M ah bh ik la lg ce (38 + i) v vrs vrb vhs vca vxs vxb vfa vbr vba vsp vhe vtk vva vto fst hN hB_ hT_ hS0 hM_ hst) (kwV hg mfX11_sets wt_1070 ⟨Nat.le_of_ble_eq_true rfl, Nat.le_of_ble_eq_true rfl⟩) (preVW hK hPc hDc (ci := 11) (r := (RX11, TX11, 35)) rfl rfl) rfl rfl hl.1 rfl (lv_room (Nat.le_of_ble_eq_true rfl)) dX11_puts_27 ⟨Nat.le_of_ble_eq_true rfl, Nat.le_of_ble_eq_true rfl⟩) hS (fun q _ h => hFc q h) hFc (fun r5 ur5 t H1 locs ht hvm w6 hB hz1 hk1 hS => ?_)
    obtain ⟨u7, rfl⟩ : ∃ z, z = ur5 := ⟨_, rfl⟩
    obtain ⟨hP1, hD1⟩ := hB
    rw [ht] at hP1
    obtain ⟨hP, hD⟩ := va_join (wr := []) (w1 := [(h0, .inr (11, [.ref st, .int (nI N), .int (nI B), .ref rp, .int vrs, .int vrb, .int vhs, .int vca, .int vxs, .int vxb, .ref tp, .int (nI T), .int vfa, .int vbr, .int vba, .int vsp, .int vhe, .int vtk, .int vva, .ref cu, .ref lt, .ref od, .ref th, .ref be, .ref ln, .int (nI S), .ref ma, .int (nI M), .ref ah, .ref bh, .ref ik, .ref la, .ref lg, .ref ce, .int vto])), (st, .inl (G 0, 196, .inl u7))]) hP hD [0, 1] [] rfl rfl (by decide +kernel) (by decide +kernel) hk1 hFc hP1 hD1
    generalize H1 = H at hP hS ⊢
    obtain ⟨w6, w6x⟩ := w6
    have hpost : (r5 : Int32) = if ((0 ≤ i.toInt ∧ i.toInt < ((N : Nat) : Int)) ∧ (0 ≤ v.toInt ∧ v.toInt < ((B : Nat) : Int))) then fst (38 + i.toNatClampNeg) else -1 := by
      have t_b4 := b4
      have t_n0 : (nI N).toInt = (N : Int) := tn2105_ ()
      have t_n1 : (nI B).toInt = (B : Int) := tn2106_ ()
      have t_n2 : (nI T).toInt = (T : Int) := tn2107_ ()
      have t_n3 : (nI S).toInt = (S : Int) := tn2108_ ()
      have t_n4 : (nI M).toInt = (M : Int) := tn2109_ ()
      have z0 : (0 : Int32).toInt = 0 := qI_0
      have z1 : (1 : Int32).toInt = 1 := qI_1
      have z2 : (2 : Int32).toInt = 2 := qI_2
      have z3 : (3 : Int32).toInt = 3 := qI_3
      have z5 : (5 : Int32).toInt = 5 := qI_5
      have z9 : (9 : Int32).toInt = 9 := qI_9
      have z20 : (20 : Int32).toInt = 20 := qI_20
      have z4 : (-4 : Int32).toInt = -4 := (by decide)
      have z10 : (10 : Int32).toInt = 10 := qI_10
      rw [if_neg (by omega)]
      exact w6
    obtain ⟨hP9, hD9⟩ := va_sub2 (ws' := [(h0, .inr (11, [.ref st, .int (nI N), .int (nI B), .ref rp, .int vrs, .int vrb, .int vhs, .int vca, .int vxs, .int vxb, .ref tp, .int (nI T), .int vfa, .int vbr, .int vba, .int vsp, .int vhe, .int vtk, .int vva, .ref cu, .ref lt, .ref od, .ref th, .ref be, .ref ln, .int (nI S), .ref ma, .int (nI M), .ref ah, .ref bh, .ref ik, .ref la, .ref lg, .ref ce, .int vto])), (st, .inl (G 0, 196, .inl u7))]) hP hD [0, 1] (by decide +kernel) rfl
    refine W.widen (k := 0) (n := 0) (Nat.le_of_ble_eq_true rfl) (Nat.le_of_ble_eq_true rfl) ?_
    exact W.iret (v := r5) hx hb hr (fun t ht hW => ⟨⟨r5, u7, rfl, ⟨hpost, ⟨w6x.1, (by have t_b4 := b4; have tnb_ := nib5 tn2105_ tn2106_ tn2107_ tn2108_ tn2109_; have tqz_ := qz46_; have z4 : (-4 : Int32).toInt = -4 := (by decide); have z10 : (10 : Int32).toInt = 10 := qI_10; rw [if_neg (by omega)]; exact w6x.2)⟩⟩, ⟨by rw [ht]; exact hP9, hD9⟩⟩, hS.F ht⟩) hS.2.2 dX11_puts_30
  · skip
    have b8 := if10_p c3
    refine lv_aload_n hx hb dX11_puts_9 rfl (lv_at hl 0 rfl) ?_
    refine lv_iload_n hx hb dX11_puts_10 rfl (lv_at hl 2 rfl) ?_
    have hPc := hP.sub (ws' := [(h0, .inr (11, [.ref st, .int (nI N), .int (nI B), .ref rp, .int vrs, .int vrb, .int vhs, .int vca, .int vxs, .int vxb, .ref tp, .int (nI T), .int vfa, .int vbr, .int vba, .int vsp, .int vhe, .int vtk, .int vva, .ref cu, .ref lt, .ref od, .ref th, .ref be, .ref ln, .int (nI S), .ref ma, .int (nI M), .ref ah, .ref bh, .ref ik, .ref la, .ref lg, .ref ce, .int vto]))]) [0] rfl
    refine va_calli (va_runV (As := [.int v]) (rest := [.ref h0]) ⟨hx, hb, hml, hown, hg⟩ (c_X11_isBearer l dC dI G _ h0 st N B rp tp T cu lt od th be ln S ma M ah bh ik la lg ce v vrs vrb vhs vca vxs vxb vfa vbr vba vsp vhe vtk vva vto hN hB_ hT_ hS0 hM_) (kwV hg mfX11_isBearer wt_1061 ⟨Nat.le_of_ble_eq_true rfl, Nat.le_of_ble_eq_true rfl⟩) (preVR hK hPc (ci := 11) (r := (RX11, TX11, 35)) rfl rfl) rfl rfl hl.1 rfl (lv_room (Nat.le_of_ble_eq_true rfl)) dX11_puts_11 ⟨Nat.le_of_ble_eq_true rfl, Nat.le_of_ble_eq_true rfl⟩) hS (fun q h1 h2 => absurd h2 (Nat.not_le.mpr h1)) (fun q h => hA q (Nat.le_trans hS.1 h)) (fun r9 ur9 t H1 locs ht hvm w10 hB hz1 hk1 hS => ?_)
    have hP := keepR hP hk1
    obtain ⟨w10, w10x⟩ := w10
    try simp only [l_ii, show (0 : Int32).toInt = 0 from by decide] at w10
    try rw [show (nI (B)).toInt = ((B : Nat) : Int) from tn2106_ ()] at w10
    subst w10
    refine lv_if_eq (tgt := 21) hx hb dX11_puts_14 rfl (fun c11 => ?_) (fun c11 => ?_)
    · skip
      have b12 := if10_n c11
      refine lv_iconst (v := 0) hx hb dX11_puts_21 rfl ?_
      refine lv_bipush (v := 38) hx hb dX11_puts_22 rfl ?_
      refine lv_iload_n hx hb dX11_puts_24 rfl (lv_at hl 1 rfl) ?_
      refine lv_iadd hx hb dX11_puts_25 ?_
      refine lv_iload_n hx hb dX11_puts_26 rfl (lv_at hl 2 rfl) ?_
      obtain ⟨hPc, hDc, hFc⟩ := va_sub3 (ws' := [(h0, .inr (11, [.ref st, .int (nI N), .int (nI B), .ref rp, .int vrs, .int vrb, .int vhs, .int vca, .int vxs, .int vxb, .ref tp, .int (nI T), .int vfa, .int vbr, .int vba, .int vsp, .int vhe, .int vtk, .int vva, .ref cu, .ref lt, .ref od, .ref th, .ref be, .ref ln, .int (nI S), .ref ma, .int (nI M), .ref ah, .ref bh, .ref ik, .ref la, .ref lg, .ref ce, .int vto])), (st, .inl (G 0, 196, .inl fst))]) hP hD hS hA [0, 1] (by decide +kernel) rfl
      refine va_calli (va_runV (As := [.int 0, .int (38 + i), .int v]) (rest := []) ⟨hx, hb, hml, hown, hg⟩ (c_X11_sets0E l dC dI G _ h0 st N B rp tp T cu lt od th be ln S ma M ah bh ik la lg ce (38 + i) v vrs vrb vhs vca vxs vxb vfa vbr vba vsp vhe vtk vva vto fst hN hB_ hT_ hS0 hM_ hst) (kwV hg mfX11_sets wt_1070 ⟨Nat.le_of_ble_eq_true rfl, Nat.le_of_ble_eq_true rfl⟩) (preVW hK hPc hDc (ci := 11) (r := (RX11, TX11, 35)) rfl rfl) rfl rfl hl.1 rfl (lv_room (Nat.le_of_ble_eq_true rfl)) dX11_puts_27 ⟨Nat.le_of_ble_eq_true rfl, Nat.le_of_ble_eq_true rfl⟩) hS (fun q _ h => hFc q h) hFc (fun r13 ur13 t H1 locs ht hvm w14 hB hz1 hk1 hS => ?_)
      obtain ⟨u15, rfl⟩ : ∃ z, z = ur13 := ⟨_, rfl⟩
      obtain ⟨hP1, hD1⟩ := hB
      rw [ht] at hP1
      obtain ⟨hP, hD⟩ := va_join (wr := []) (w1 := [(h0, .inr (11, [.ref st, .int (nI N), .int (nI B), .ref rp, .int vrs, .int vrb, .int vhs, .int vca, .int vxs, .int vxb, .ref tp, .int (nI T), .int vfa, .int vbr, .int vba, .int vsp, .int vhe, .int vtk, .int vva, .ref cu, .ref lt, .ref od, .ref th, .ref be, .ref ln, .int (nI S), .ref ma, .int (nI M), .ref ah, .ref bh, .ref ik, .ref la, .ref lg, .ref ce, .int vto])), (st, .inl (G 0, 196, .inl u15))]) hP hD [0, 1] [] rfl rfl (by decide +kernel) (by decide +kernel) hk1 hFc hP1 hD1
      generalize H1 = H at hP hS ⊢
      obtain ⟨w14, w14x⟩ := w14
      have hpost : (r13 : Int32) = if ((0 ≤ i.toInt ∧ i.toInt < ((N : Nat) : Int)) ∧ (0 ≤ v.toInt ∧ v.toInt < ((B : Nat) : Int))) then fst (38 + i.toNatClampNeg) else -1 := by
        have t_b8 := b8
        have t_b12 := b12
        have t_n0 : (nI N).toInt = (N : Int) := tn2105_ ()
        have t_n1 : (nI B).toInt = (B : Int) := tn2106_ ()
        have t_n2 : (nI T).toInt = (T : Int) := tn2107_ ()
        have t_n3 : (nI S).toInt = (S : Int) := tn2108_ ()
        have t_n4 : (nI M).toInt = (M : Int) := tn2109_ ()
        have z0 : (0 : Int32).toInt = 0 := qI_0
        have z1 : (1 : Int32).toInt = 1 := qI_1
        have z2 : (2 : Int32).toInt = 2 := qI_2
        have z3 : (3 : Int32).toInt = 3 := qI_3
        have z5 : (5 : Int32).toInt = 5 := qI_5
        have z9 : (9 : Int32).toInt = 9 := qI_9
        have z20 : (20 : Int32).toInt = 20 := qI_20
        have z4 : (-4 : Int32).toInt = -4 := (by decide)
        have z10 : (10 : Int32).toInt = 10 := qI_10
        rw [if_neg (by omega)]
        exact w14
      obtain ⟨hP9, hD9⟩ := va_sub2 (ws' := [(h0, .inr (11, [.ref st, .int (nI N), .int (nI B), .ref rp, .int vrs, .int vrb, .int vhs, .int vca, .int vxs, .int vxb, .ref tp, .int (nI T), .int vfa, .int vbr, .int vba, .int vsp, .int vhe, .int vtk, .int vva, .ref cu, .ref lt, .ref od, .ref th, .ref be, .ref ln, .int (nI S), .ref ma, .int (nI M), .ref ah, .ref bh, .ref ik, .ref la, .ref lg, .ref ce, .int vto])), (st, .inl (G 0, 196, .inl u15))]) hP hD [0, 1] (by decide +kernel) rfl
      refine W.widen (k := 0) (n := 0) (Nat.le_of_ble_eq_true rfl) (Nat.le_of_ble_eq_true rfl) ?_
      exact W.iret (v := r13) hx hb hr (fun t ht hW => ⟨⟨r13, u15, rfl, ⟨hpost, ⟨w14x.1, (by have t_b8 := b8; have t_b12 := b12; have tnb_ := nib5 tn2105_ tn2106_ tn2107_ tn2108_ tn2109_; have tqz_ := qz46_; have z4 : (-4 : Int32).toInt = -4 := (by decide); have z10 : (10 : Int32).toInt = 10 := qI_10; rw [if_neg (by omega)]; exact w14x.2)⟩⟩, ⟨by rw [ht]; exact hP9, hD9⟩⟩, hS.F ht⟩) hS.2.2 dX11_puts_30
    · skip
      have b16 := if10_p c11
      obtain ⟨ii, hii, rfl⟩ : ∃ j : Nat, j < 10 ∧ i = nI j := by
        have t_b8 := b8
        have t_b16 := b16
        have t_n0 : (nI N).toInt = (N : Int) := tn2105_ ()
        have t_n1 : (nI B).toInt = (B : Int) := tn2106_ ()
        have t_n2 : (nI T).toInt = (T : Int) := tn2107_ ()
        have t_n3 : (nI S).toInt = (S : Int) := tn2108_ ()
        have t_n4 : (nI M).toInt = (M : Int) := tn2109_ ()
        exact i32_nat (by omega) (by omega)
      refine lv_iconst (v := 1) hx hb dX11_puts_17 rfl ?_
      refine lv_goto (tgt := 22) hx hb dX11_puts_18 rfl ?_
      refine lv_bipush (v := 38) hx hb dX11_puts_22 rfl ?_
      refine lv_iload_n hx hb dX11_puts_24 rfl (lv_at hl 1 rfl) ?_
      refine lv_iadd hx hb dX11_puts_25 ?_
      refine lv_cg (y := nI (38 + ii)) (by rw [show (38 : Int32) = nI 38 from rfl]; exact nI_add _ _) ?_
      refine lv_iload_n hx hb dX11_puts_26 rfl (lv_at hl 2 rfl) ?_
      obtain ⟨hPc, hDc, hFc⟩ := va_sub3 (ws' := [(h0, .inr (11, [.ref st, .int (nI N), .int (nI B), .ref rp, .int vrs, .int vrb, .int vhs, .int vca, .int vxs, .int vxb, .ref tp, .int (nI T), .int vfa, .int vbr, .int vba, .int vsp, .int vhe, .int vtk, .int vva, .ref cu, .ref lt, .ref od, .ref th, .ref be, .ref ln, .int (nI S), .ref ma, .int (nI M), .ref ah, .ref bh, .ref ik, .ref la, .ref lg, .ref ce, .int vto])), (st, .inl (G 0, 196, .inl fst))]) hP hD hS hA [0, 1] (by decide +kernel) rfl
      have tn2110_ : nIT ii := fun _ => nI_toInt (by first | omega | (have t_b8 := b8; have t_b16 := b16; have t_hii := hii; omega))
      refine va_calli (va_runV (As := [.int 1, .int (nI (38 + ii)), .int v]) (rest := []) ⟨hx, hb, hml, hown, hg⟩ (c_X11_sets1E l dC dI G _ h0 (38 + ii) st N B rp tp T cu lt od th be ln S ma M ah bh ik la lg ce v vrs vrb vhs vca vxs vxb vfa vbr vba vsp vhe vtk vva vto fst hN hB_ hT_ hS0 hM_ hst (by first | omega | (have t_b8 := b8; have t_b16 := b16; have t_hii := hii; have tnb_ := nib6 tn2105_ tn2106_ tn2107_ tn2108_ tn2109_ tn2110_; omega)) (okS_or (by have t_b8 := b8; have t_b16 := b16; have t_hii := hii; have tnb_ := nib6 tn2105_ tn2106_ tn2107_ tn2108_ tn2109_ tn2110_; omega) (by have t_b8 := b8; have t_b16 := b16; have t_hii := hii; have tnb_ := nib6 tn2105_ tn2106_ tn2107_ tn2108_ tn2109_ tn2110_; omega) (by have t_b8 := b8; have t_b16 := b16; have t_hii := hii; have tnb_ := nib6 tn2105_ tn2106_ tn2107_ tn2108_ tn2109_ tn2110_; omega) (by have t_b8 := b8; have t_b16 := b16; have t_hii := hii; have tnb_ := nib6 tn2105_ tn2106_ tn2107_ tn2108_ tn2109_ tn2110_; omega))) (kwV hg mfX11_sets wt_1070 ⟨Nat.le_of_ble_eq_true rfl, Nat.le_of_ble_eq_true rfl⟩) (preVW hK hPc hDc (ci := 11) (r := (RX11, TX11, 35)) rfl rfl) rfl rfl hl.1 rfl (lv_room (Nat.le_of_ble_eq_true rfl)) dX11_puts_27 ⟨Nat.le_of_ble_eq_true rfl, Nat.le_of_ble_eq_true rfl⟩) hS (fun q _ h => hFc q h) hFc (fun r17 ur17 t H1 locs ht hvm w18 hB hz1 hk1 hS => ?_)
      obtain ⟨u19, rfl⟩ : ∃ z, z = ur17 := ⟨_, rfl⟩
      obtain ⟨hP1, hD1⟩ := hB
      rw [ht] at hP1
      obtain ⟨hP, hD⟩ := va_join (wr := []) (w1 := [(h0, .inr (11, [.ref st, .int (nI N), .int (nI B), .ref rp, .int vrs, .int vrb, .int vhs, .int vca, .int vxs, .int vxb, .ref tp, .int (nI T), .int vfa, .int vbr, .int vba, .int vsp, .int vhe, .int vtk, .int vva, .ref cu, .ref lt, .ref od, .ref th, .ref be, .ref ln, .int (nI S), .ref ma, .int (nI M), .ref ah, .ref bh, .ref ik, .ref la, .ref lg, .ref ce, .int vto])), (st, .inl (G 0, 196, .inl u19))]) hP hD [0, 1] [] rfl rfl (by decide +kernel) (by decide +kernel) hk1 hFc hP1 hD1
      generalize H1 = H at hP hS ⊢
      obtain ⟨w18, w18x⟩ := w18
      have hpost : (r17 : Int32) = if ((0 ≤ (nI ii).toInt ∧ (nI ii).toInt < ((N : Nat) : Int)) ∧ (0 ≤ v.toInt ∧ v.toInt < ((B : Nat) : Int))) then fst (38 + (nI ii).toNatClampNeg) else -1 := by
        have t_b8 := b8
        have t_b16 := b16
        have t_hii := hii
        have t_n0 : (nI N).toInt = (N : Int) := tn2105_ ()
        have t_n1 : (nI B).toInt = (B : Int) := tn2106_ ()
        have t_n2 : (nI T).toInt = (T : Int) := tn2107_ ()
        have t_n3 : (nI S).toInt = (S : Int) := tn2108_ ()
        have t_n4 : (nI M).toInt = (M : Int) := tn2109_ ()
        have t_n5 : (nI ii).toInt = (ii : Int) := tn2110_ ()
        have z0 : (0 : Int32).toInt = 0 := qI_0
        have z1 : (1 : Int32).toInt = 1 := qI_1
        have z2 : (2 : Int32).toInt = 2 := qI_2
        have z3 : (3 : Int32).toInt = 3 := qI_3
        have z5 : (5 : Int32).toInt = 5 := qI_5
        have z9 : (9 : Int32).toInt = 9 := qI_9
        have z20 : (20 : Int32).toInt = 20 := qI_20
        have z4 : (-4 : Int32).toInt = -4 := (by decide)
        have z10 : (10 : Int32).toInt = 10 := qI_10
        rw [if_pos (by omega)]
        (try rw [nI_clamp (by omega)])
        exact w18
      obtain ⟨hP9, hD9⟩ := va_sub2 (ws' := [(h0, .inr (11, [.ref st, .int (nI N), .int (nI B), .ref rp, .int vrs, .int vrb, .int vhs, .int vca, .int vxs, .int vxb, .ref tp, .int (nI T), .int vfa, .int vbr, .int vba, .int vsp, .int vhe, .int vtk, .int vva, .ref cu, .ref lt, .ref od, .ref th, .ref be, .ref ln, .int (nI S), .ref ma, .int (nI M), .ref ah, .ref bh, .ref ik, .ref la, .ref lg, .ref ce, .int vto])), (st, .inl (G 0, 196, .inl u19))]) hP hD [0, 1] (by decide +kernel) rfl
      refine W.widen (k := 0) (n := 0) (Nat.le_of_ble_eq_true rfl) (Nat.le_of_ble_eq_true rfl) ?_
      exact W.iret (v := r17) hx hb hr (fun t ht hW => ⟨⟨r17, u19, rfl, ⟨hpost, ⟨w18x.1, (by have t_b8 := b8; have t_b16 := b16; have t_hii := hii; have tnb_ := nib6 tn2105_ tn2106_ tn2107_ tn2108_ tn2109_ tn2110_; have tqz_ := qz46_; have z4 : (-4 : Int32).toInt = -4 := (by decide); have z10 : (10 : Int32).toInt = 10 := qI_10; rw [if_pos (by omega)]; (try rw [nI_clamp (by omega)]); exact w18x.2)⟩⟩, ⟨by rw [ht]; exact hP9, hD9⟩⟩, hS.F ht⟩) hS.2.2 dX11_puts_30

set_option maxHeartbeats 1000000 in
set_option maxRecDepth 100000 in
theorem c_X11_putO (l : Launch) (dC : Nat → ClassId) (dI : Nat → Nat → Nat) (G : Nat → ClassId) (sz : Nat) (h0 st N B rp tp T cu lt od th be ln S ma M ah bh ik la lg ce : Nat) (i k vrs vrb vhs vca vxs vxb vfa vbr vba vsp vhe vtk vva vto : Int32) (fst : Nat → Int32) (hN : N ≤ 10) (hB : B ≤ 6) (hT : T ≤ 320) (hS0 : S ≤ 8) (hM : M ≤ 6) (hst : OKS fst) : Met l yX11_put (Cond.code yX11_put cX11_put 3 (some .int) :: GT) ({ frames := 3, cells := 0, slots := 0, locals := 68 } : Room) (PcW [.ref h0, .int i, .int k] dC dI G [(h0, .inr (11, [.ref st, .int (nI N), .int (nI B), .ref rp, .int vrs, .int vrb, .int vhs, .int vca, .int vxs, .int vxb, .ref tp, .int (nI T), .int vfa, .int vbr, .int vba, .int vsp, .int vhe, .int vtk, .int vva, .ref cu, .ref lt, .ref od, .ref th, .ref be, .ref ln, .int (nI S), .ref ma, .int (nI M), .ref ah, .ref bh, .ref ik, .ref la, .ref lg, .ref ce, .int vto])), (st, .inl (G 0, 196, .inl fst))] sz) (va_Qi (fun (r : Int32) (u : (Nat → Int32)) => match u with | ost => (r = if ((0 ≤ i.toInt ∧ i.toInt < ((N : Nat) : Int)) ∧ (0 ≤ k.toInt ∧ k.toInt < ((B : Nat) : Int))) then fst (38 + i.toNatClampNeg) else -1) ∧ OKS ost ∧ ost = (if ((0 ≤ i.toInt ∧ i.toInt < ((N : Nat) : Int)) ∧ (0 ≤ k.toInt ∧ k.toInt < ((B : Nat) : Int))) then upd fst (38 + i.toNatClampNeg) k else fst)) (fun (u : (Nat → Int32)) (t : State) => match u with | ost => va_P (dC, dI) vwCl [(h0, .inr (11, [.ref st, .int (nI N), .int (nI B), .ref rp, .int vrs, .int vrb, .int vhs, .int vca, .int vxs, .int vxb, .ref tp, .int (nI T), .int vfa, .int vbr, .int vba, .int vsp, .int vhe, .int vtk, .int vva, .ref cu, .ref lt, .ref od, .ref th, .ref be, .ref ln, .int (nI S), .ref ma, .int (nI M), .ref ah, .ref bh, .ref ik, .ref la, .ref lg, .ref ce, .int vto])), (st, .inl (G 0, 196, .inl ost))] t.heap ∧ va_D (va_A [(h0, .inr (11, [.ref st, .int (nI N), .int (nI B), .ref rp, .int vrs, .int vrb, .int vhs, .int vca, .int vxs, .int vxb, .ref tp, .int (nI T), .int vfa, .int vbr, .int vba, .int vsp, .int vhe, .int vtk, .int vva, .ref cu, .ref lt, .ref od, .ref th, .ref be, .ref ln, .int (nI S), .ref ma, .int (nI M), .ref ah, .ref bh, .ref ik, .ref la, .ref lg, .ref ce, .int vto])), (st, .inl (G 0, 196, .inl fst))] sz) [(h0, .inr (11, [.ref st, .int (nI N), .int (nI B), .ref rp, .int vrs, .int vrb, .int vhs, .int vca, .int vxs, .int vxb, .ref tp, .int (nI T), .int vfa, .int vbr, .int vba, .int vsp, .int vhe, .int vtk, .int vva, .ref cu, .ref lt, .ref od, .ref th, .ref be, .ref ln, .int (nI S), .ref ma, .int (nI M), .ref ah, .ref bh, .ref ik, .ref la, .ref lg, .ref ce, .int vto])), (st, .inl (G 0, 196, .inl ost))]) (va_A [(h0, .inr (11, [.ref st, .int (nI N), .int (nI B), .ref rp, .int vrs, .int vrb, .int vhs, .int vca, .int vxs, .int vxb, .ref tp, .int (nI T), .int vfa, .int vbr, .int vba, .int vsp, .int vhe, .int vtk, .int vva, .ref cu, .ref lt, .ref od, .ref th, .ref be, .ref ln, .int (nI S), .ref ma, .int (nI M), .ref ah, .ref bh, .ref ik, .ref la, .ref lg, .ref ce, .int vto])), (st, .inl (G 0, 196, .inl fst))] sz)) 0 0 (va_A [(h0, .inr (11, [.ref st, .int (nI N), .int (nI B), .ref rp, .int vrs, .int vrb, .int vhs, .int vca, .int vxs, .int vxb, .ref tp, .int (nI T), .int vfa, .int vbr, .int vba, .int vsp, .int vhe, .int vtk, .int vva, .ref cu, .ref lt, .ref od, .ref th, .ref be, .ref ln, .int (nI S), .ref ma, .int (nI M), .ref ah, .ref bh, .ref ik, .ref la, .ref lg, .ref ce, .int vto])), (st, .inl (G 0, 196, .inl fst))] sz) := by
  have hB_ := hB
  have hM_ := hM
  have hT_ := hT
  have tn2111_ : nIT N := fun _ => nI_toInt (by omega)
  have tn2112_ : nIT B := fun _ => nI_toInt (by omega)
  have tn2113_ : nIT T := fun _ => nI_toInt (by omega)
  have tn2114_ : nIT S := fun _ => nI_toInt (by omega)
  have tn2115_ : nIT M := fun _ => nI_toInt (by omega)
  refine Met.ofW (cc := cX11_put) (maxL := 3) (ret := (some .int)) (by decide) rfl ?_
  intro p e s m args below meth c s₁ Bd hml hv
  obtain ⟨rfl, hsz, hP, hK, hD0⟩ := hv
  have hx := Bd.exec
  have hb := Bd.bytes
  have hr := Bd.returns
  have hg : ∀ w ∈ GT, w.before ([.ref h0, .int i, .int k] : List Value).toArray s = true := fun w h => atoms_spec (ws := Cond.code yX11_put cX11_put 3 (some .int) :: GT) Bd.pre w (List.mem_cons_of_mem _ h)
  have hown : s.vm.findClass RX11 = some m.cls := findClass_of_methodNamed Bd.named
  have hlocks := Bd.notSynchronized
  subst hsz
  have hD := hD0.self (sz := s.heap.size)
  generalize hAe : va_A [(h0, .inr (11, [.ref st, .int (nI N), .int (nI B), .ref rp, .int vrs, .int vrb, .int vhs, .int vca, .int vxs, .int vxb, .ref tp, .int (nI T), .int vfa, .int vbr, .int vba, .int vsp, .int vhe, .int vtk, .int vva, .ref cu, .ref lt, .ref od, .ref th, .ref be, .ref ln, .int (nI S), .ref ma, .int (nI M), .ref ah, .ref bh, .ref ik, .ref la, .ref lg, .ref ce, .int vto])), (st, .inl (G 0, 196, .inl fst))] s.heap.size = A at hD ⊢
  have hA : ∀ q : Nat, s.heap.size ≤ q → A q := fun q h => by rw [← hAe]; exact Or.inr h
  have hS : va_S A s.heap s.heap [] := va_S.rf
  have hl := lv_entry ([.ref h0, .int i, .int k]) (n := 3) (Nat.le_of_ble_eq_true rfl)
  rw [lg_entry_eq]
  generalize (lg_sl ([.ref h0, .int i, .int k]) ++ List.replicate (3 - (lg_sl ([.ref h0, .int i, .int k])).length) Slot.unset).toArray = ls at hl ⊢
  have hl : lv_has ls 3 [(0, .ref h0), (1, .int i), (2, .int k)] := hl
  refine lv_aload_n hx hb dX11_put_0 rfl (lv_at hl 0 rfl) ?_
  refine lv_iload_n hx hb dX11_put_1 rfl (lv_at hl 1 rfl) ?_
  refine lv_iload_n hx hb dX11_put_2 rfl (lv_at hl 2 rfl) ?_
  obtain ⟨hPc, hDc, hFc⟩ := va_sub3 (ws' := [(h0, .inr (11, [.ref st, .int (nI N), .int (nI B), .ref rp, .int vrs, .int vrb, .int vhs, .int vca, .int vxs, .int vxb, .ref tp, .int (nI T), .int vfa, .int vbr, .int vba, .int vsp, .int vhe, .int vtk, .int vva, .ref cu, .ref lt, .ref od, .ref th, .ref be, .ref ln, .int (nI S), .ref ma, .int (nI M), .ref ah, .ref bh, .ref ik, .ref la, .ref lg, .ref ce, .int vto])), (st, .inl (G 0, 196, .inl fst))]) hP hD hS hA [0, 1] (by decide +kernel) rfl
  refine va_calli (va_runV (As := [.int i, .int k]) (rest := []) ⟨hx, hb, hml, hown, hg⟩ (c_X11_putsO l dC dI G _ h0 st N B rp tp T cu lt od th be ln S ma M ah bh ik la lg ce i k vrs vrb vhs vca vxs vxb vfa vbr vba vsp vhe vtk vva vto fst hN hB_ hT_ hS0 hM_ hst) (kwV hg mfX11_puts wt_1094 ⟨Nat.le_of_ble_eq_true rfl, Nat.le_of_ble_eq_true rfl⟩) (preVW hK hPc hDc (ci := 11) (r := (RX11, TX11, 35)) rfl rfl) rfl rfl hl.1 rfl (lv_room (Nat.le_of_ble_eq_true rfl)) dX11_put_3 ⟨Nat.le_of_ble_eq_true rfl, Nat.le_of_ble_eq_true rfl⟩) hS (fun q _ h => hFc q h) hFc (fun r1 ur1 t H1 locs ht hvm w2 hB hz1 hk1 hS => ?_)
  obtain ⟨u3, rfl⟩ : ∃ z, z = ur1 := ⟨_, rfl⟩
  obtain ⟨hP1, hD1⟩ := hB
  rw [ht] at hP1
  obtain ⟨hP, hD⟩ := va_join (wr := []) (w1 := [(h0, .inr (11, [.ref st, .int (nI N), .int (nI B), .ref rp, .int vrs, .int vrb, .int vhs, .int vca, .int vxs, .int vxb, .ref tp, .int (nI T), .int vfa, .int vbr, .int vba, .int vsp, .int vhe, .int vtk, .int vva, .ref cu, .ref lt, .ref od, .ref th, .ref be, .ref ln, .int (nI S), .ref ma, .int (nI M), .ref ah, .ref bh, .ref ik, .ref la, .ref lg, .ref ce, .int vto])), (st, .inl (G 0, 196, .inl u3))]) hP hD [0, 1] [] rfl rfl (by decide +kernel) (by decide +kernel) hk1 hFc hP1 hD1
  generalize H1 = H at hP hS ⊢
  obtain ⟨w2, w2x⟩ := w2
  have hpost : (r1 : Int32) = if ((0 ≤ i.toInt ∧ i.toInt < ((N : Nat) : Int)) ∧ (0 ≤ k.toInt ∧ k.toInt < ((B : Nat) : Int))) then fst (38 + i.toNatClampNeg) else -1 := by
    exact w2
  obtain ⟨hP9, hD9⟩ := va_sub2 (ws' := [(h0, .inr (11, [.ref st, .int (nI N), .int (nI B), .ref rp, .int vrs, .int vrb, .int vhs, .int vca, .int vxs, .int vxb, .ref tp, .int (nI T), .int vfa, .int vbr, .int vba, .int vsp, .int vhe, .int vtk, .int vva, .ref cu, .ref lt, .ref od, .ref th, .ref be, .ref ln, .int (nI S), .ref ma, .int (nI M), .ref ah, .ref bh, .ref ik, .ref la, .ref lg, .ref ce, .int vto])), (st, .inl (G 0, 196, .inl u3))]) hP hD [0, 1] (by decide +kernel) rfl
  refine W.widen (k := 0) (n := 0) (Nat.le_of_ble_eq_true rfl) (Nat.le_of_ble_eq_true rfl) ?_
  exact W.iret (v := r1) hx hb hr (fun t ht hW => ⟨⟨r1, u3, rfl, ⟨hpost, w2x⟩, ⟨by rw [ht]; exact hP9, hD9⟩⟩, hS.F ht⟩) hS.2.2 dX11_put_6


set_option maxHeartbeats 8000000 in
set_option maxRecDepth 100000 in
theorem c_X11_readO (l : Launch) (dC : Nat → ClassId) (dI : Nat → Nat → Nat) (G : Nat → ClassId) (sz : Nat) (h0 st N B rp tp T cu lt od th be ln S ma M ah bh ik la lg ce : Nat) (k lane x1 n vrs vrb vhs vca vxs vxb vfa vbr vba vsp vhe vtk vva vto : Int32) (fst : Nat → Int32) (fla : Nat → Int32) (flg : Nat → Int32) (fce : Nat → Int32) (hN : N ≤ 10) (hB : B ≤ 6) (hT : T ≤ 320) (hS0 : S ≤ 8) (hM : M ≤ 6) (hst : OKS fst) (hz : ∀ q : Nat, q < 4 → 0 ≤ (flg q).toInt ∧ (flg q).toInt ≤ 40) : Met l yX11_read (Cond.code yX11_read cX11_read 9 (some .int) :: GT) ({ frames := 3, cells := 0, slots := 0, locals := 68 } : Room) (PcW [.ref h0, .int k, .int lane, .int x1, .int n] dC dI G [(h0, .inr (11, [.ref st, .int (nI N), .int (nI B), .ref rp, .int vrs, .int vrb, .int vhs, .int vca, .int vxs, .int vxb, .ref tp, .int (nI T), .int vfa, .int vbr, .int vba, .int vsp, .int vhe, .int vtk, .int vva, .ref cu, .ref lt, .ref od, .ref th, .ref be, .ref ln, .int (nI S), .ref ma, .int (nI M), .ref ah, .ref bh, .ref ik, .ref la, .ref lg, .ref ce, .int vto])), (st, .inl (G 0, 196, .inl fst)), (la, .inl (G 0, 4, .inl fla)), (lg, .inl (G 0, 4, .inl flg)), (ce, .inl (G 0, 160, .inl fce))] sz) (va_Qi (fun (r : Int32) (u : (Nat → Int32) × Int32) => match u with | (ost, oto) => (r = if ((0 ≤ k.toInt ∧ k.toInt < 4) ∧ (0 ≤ lane.toInt ∧ lane.toInt ≤ 2) ∧ 0 ≤ n.toInt ∧ n.toInt ≤ 20) then rdR N B (fun q8 : Nat => fce (40 * k.toNatClampNeg + (x1.toInt + 2 * (q8 : Int) + 0).toNat)) (fun q8 : Nat => fce (40 * k.toNatClampNeg + (x1.toInt + 2 * (q8 : Int) + 1).toNat)) (tpK (fla k.toNatClampNeg) lane (flg k.toNatClampNeg).toInt x1.toInt n.toNatClampNeg) else -1) ∧ OKS ost ∧ NO3 fst ost ∧ ∀ x9 : Nat, x9 < 10 → ost (38 + x9) = (if ((0 ≤ k.toInt ∧ k.toInt < 4) ∧ (0 ≤ lane.toInt ∧ lane.toInt ≤ 2) ∧ 0 ≤ n.toInt ∧ n.toInt ≤ 20) then rdF N B (fun q8 : Nat => fce (40 * k.toNatClampNeg + (x1.toInt + 2 * (q8 : Int) + 0).toNat)) (fun q8 : Nat => fce (40 * k.toNatClampNeg + (x1.toInt + 2 * (q8 : Int) + 1).toNat)) (tpK (fla k.toNatClampNeg) lane (flg k.toNatClampNeg).toInt x1.toInt n.toNatClampNeg) (fun i9 => fst (38 + i9)) else (fun i9 => fst (38 + i9))) x9) (fun (u : (Nat → Int32) × Int32) (t : State) => match u with | (ost, oto) => va_P (dC, dI) vwCl [(h0, .inr (11, [.ref st, .int (nI N), .int (nI B), .ref rp, .int vrs, .int vrb, .int vhs, .int vca, .int vxs, .int vxb, .ref tp, .int (nI T), .int vfa, .int vbr, .int vba, .int vsp, .int vhe, .int vtk, .int vva, .ref cu, .ref lt, .ref od, .ref th, .ref be, .ref ln, .int (nI S), .ref ma, .int (nI M), .ref ah, .ref bh, .ref ik, .ref la, .ref lg, .ref ce, .int oto])), (st, .inl (G 0, 196, .inl ost)), (la, .inl (G 0, 4, .inl fla)), (lg, .inl (G 0, 4, .inl flg)), (ce, .inl (G 0, 160, .inl fce))] t.heap ∧ va_D (va_A [(h0, .inr (11, [.ref st, .int (nI N), .int (nI B), .ref rp, .int vrs, .int vrb, .int vhs, .int vca, .int vxs, .int vxb, .ref tp, .int (nI T), .int vfa, .int vbr, .int vba, .int vsp, .int vhe, .int vtk, .int vva, .ref cu, .ref lt, .ref od, .ref th, .ref be, .ref ln, .int (nI S), .ref ma, .int (nI M), .ref ah, .ref bh, .ref ik, .ref la, .ref lg, .ref ce, .int vto])), (st, .inl (G 0, 196, .inl fst)), (la, .inl (G 0, 4, .inl fla)), (lg, .inl (G 0, 4, .inl flg)), (ce, .inl (G 0, 160, .inl fce))] sz) [(h0, .inr (11, [.ref st, .int (nI N), .int (nI B), .ref rp, .int vrs, .int vrb, .int vhs, .int vca, .int vxs, .int vxb, .ref tp, .int (nI T), .int vfa, .int vbr, .int vba, .int vsp, .int vhe, .int vtk, .int vva, .ref cu, .ref lt, .ref od, .ref th, .ref be, .ref ln, .int (nI S), .ref ma, .int (nI M), .ref ah, .ref bh, .ref ik, .ref la, .ref lg, .ref ce, .int oto])), (st, .inl (G 0, 196, .inl ost)), (la, .inl (G 0, 4, .inl fla)), (lg, .inl (G 0, 4, .inl flg)), (ce, .inl (G 0, 160, .inl fce))]) (va_A [(h0, .inr (11, [.ref st, .int (nI N), .int (nI B), .ref rp, .int vrs, .int vrb, .int vhs, .int vca, .int vxs, .int vxb, .ref tp, .int (nI T), .int vfa, .int vbr, .int vba, .int vsp, .int vhe, .int vtk, .int vva, .ref cu, .ref lt, .ref od, .ref th, .ref be, .ref ln, .int (nI S), .ref ma, .int (nI M), .ref ah, .ref bh, .ref ik, .ref la, .ref lg, .ref ce, .int vto])), (st, .inl (G 0, 196, .inl fst)), (la, .inl (G 0, 4, .inl fla)), (lg, .inl (G 0, 4, .inl flg)), (ce, .inl (G 0, 160, .inl fce))] sz)) 0 0 (va_A [(h0, .inr (11, [.ref st, .int (nI N), .int (nI B), .ref rp, .int vrs, .int vrb, .int vhs, .int vca, .int vxs, .int vxb, .ref tp, .int (nI T), .int vfa, .int vbr, .int vba, .int vsp, .int vhe, .int vtk, .int vva, .ref cu, .ref lt, .ref od, .ref th, .ref be, .ref ln, .int (nI S), .ref ma, .int (nI M), .ref ah, .ref bh, .ref ik, .ref la, .ref lg, .ref ce, .int vto])), (st, .inl (G 0, 196, .inl fst)), (la, .inl (G 0, 4, .inl fla)), (lg, .inl (G 0, 4, .inl flg)), (ce, .inl (G 0, 160, .inl fce))] sz) := by
  have hB_ := hB
  have hM_ := hM
  have hT_ := hT
  have tn2126_ : nIT N := fun _ => nI_toInt (by omega)
  have tn2127_ : nIT B := fun _ => nI_toInt (by omega)
  have tn2128_ : nIT T := fun _ => nI_toInt (by omega)
  have tn2129_ : nIT S := fun _ => nI_toInt (by omega)
  have tn2130_ : nIT M := fun _ => nI_toInt (by omega)
  refine Met.ofW (cc := cX11_read) (maxL := 9) (ret := (some .int)) (by decide) rfl ?_
  intro p e s m args below meth c s₁ Bd hml hv
  obtain ⟨rfl, hsz, hP, hK, hD0⟩ := hv
  have hx := Bd.exec
  have hb := Bd.bytes
  have hr := Bd.returns
  have hg : ∀ w ∈ GT, w.before ([.ref h0, .int k, .int lane, .int x1, .int n] : List Value).toArray s = true := fun w h => atoms_spec (ws := Cond.code yX11_read cX11_read 9 (some .int) :: GT) Bd.pre w (List.mem_cons_of_mem _ h)
  have hown : s.vm.findClass RX11 = some m.cls := findClass_of_methodNamed Bd.named
  have hlocks := Bd.notSynchronized
  subst hsz
  have hD := hD0.self (sz := s.heap.size)
  generalize hAe : va_A [(h0, .inr (11, [.ref st, .int (nI N), .int (nI B), .ref rp, .int vrs, .int vrb, .int vhs, .int vca, .int vxs, .int vxb, .ref tp, .int (nI T), .int vfa, .int vbr, .int vba, .int vsp, .int vhe, .int vtk, .int vva, .ref cu, .ref lt, .ref od, .ref th, .ref be, .ref ln, .int (nI S), .ref ma, .int (nI M), .ref ah, .ref bh, .ref ik, .ref la, .ref lg, .ref ce, .int vto])), (st, .inl (G 0, 196, .inl fst)), (la, .inl (G 0, 4, .inl fla)), (lg, .inl (G 0, 4, .inl flg)), (ce, .inl (G 0, 160, .inl fce))] s.heap.size = A at hD ⊢
  have hA : ∀ q : Nat, s.heap.size ≤ q → A q := fun q h => by rw [← hAe]; exact Or.inr h
  have hS : va_S A s.heap s.heap [] := va_S.rf
  have hl := lv_entry ([.ref h0, .int k, .int lane, .int x1, .int n]) (n := 9) (Nat.le_of_ble_eq_true rfl)
  rw [lg_entry_eq]
  generalize (lg_sl ([.ref h0, .int k, .int lane, .int x1, .int n]) ++ List.replicate (9 - (lg_sl ([.ref h0, .int k, .int lane, .int x1, .int n])).length) Slot.unset).toArray = ls at hl ⊢
  have hl : lv_has ls 9 [(0, .ref h0), (1, .int k), (2, .int lane), (3, .int x1), (4, .int n)] := hl
  refine lv_iload_n hx hb dX11_read_0 rfl (lv_at hl 1 rfl) ?_
  refine lv_i2l (v := k.toInt64) hx hb dX11_read_1 rfl ?_
  refine lv_lconst (v := 0) hx hb dX11_read_2 (by decide) ?_
  refine lv_ldc2 (v := 3) hx hb hown (hg _ wt_1023) dX11_read_3 ?_
  have hPc := hP.sub (ws' := []) [] rfl
  refine va_calli (va_runS (As := [.long k.toInt64, .long 0, .long 3]) (rest := []) ⟨hx, hb, hml, hown, hg⟩ (c_X11_in l dC dI G _ k.toInt64 0 3) (kwS hg mfX11_in wt_992 ⟨Nat.le_of_ble_eq_true rfl, Nat.le_of_ble_eq_true rfl⟩) (preSR hK hPc) rfl rfl hl.1 rfl (lv_room (Nat.le_of_ble_eq_true rfl)) dX11_read_6 ⟨Nat.le_of_ble_eq_true rfl, Nat.le_of_ble_eq_true rfl⟩) hS (fun q h1 h2 => absurd h2 (Nat.not_le.mpr h1)) (fun q h => hA q (Nat.le_trans hS.1 h)) (fun r1 ur1 t H1 locs ht hvm w2 hB hz1 hk1 hS => ?_)
  have hP := keepR hP hk1
  obtain ⟨w2, w2x⟩ := w2
  try simp only [l_ii, show (0 : Int64).toInt = 0 from by decide, show (3 : Int64).toInt = 3 from by decide] at w2
  subst w2
  refine lv_if_eq (tgt := 37) hx hb dX11_read_9 rfl (fun c3 => ?_) (fun c3 => ?_)
  · skip
    have b4 := if10_n c3
    refine lv_iconst (v := (-1)) hx hb dX11_read_37 rfl ?_
    have hpost : ((-1) : Int32) = if ((0 ≤ k.toInt ∧ k.toInt < 4) ∧ (0 ≤ lane.toInt ∧ lane.toInt ≤ 2) ∧ 0 ≤ n.toInt ∧ n.toInt ≤ 20) then rdR N B (fun q8 : Nat => fce (40 * k.toNatClampNeg + (x1.toInt + 2 * (q8 : Int) + 0).toNat)) (fun q8 : Nat => fce (40 * k.toNatClampNeg + (x1.toInt + 2 * (q8 : Int) + 1).toNat)) (tpK (fla k.toNatClampNeg) lane (flg k.toNatClampNeg).toInt x1.toInt n.toNatClampNeg) else -1 := by
      have t_b4 := b4
      have t_n0 : (nI N).toInt = (N : Int) := tn2126_ ()
      have t_n1 : (nI B).toInt = (B : Int) := tn2127_ ()
      have t_n2 : (nI T).toInt = (T : Int) := tn2128_ ()
      have t_n3 : (nI S).toInt = (S : Int) := tn2129_ ()
      have t_n4 : (nI M).toInt = (M : Int) := tn2130_ ()
      have z0 : (0 : Int32).toInt = 0 := qI_0
      have z1 : (1 : Int32).toInt = 1 := qI_1
      have z2 : (2 : Int32).toInt = 2 := qI_2
      have z3 : (3 : Int32).toInt = 3 := qI_3
      have z5 : (5 : Int32).toInt = 5 := qI_5
      have z9 : (9 : Int32).toInt = 9 := qI_9
      have z20 : (20 : Int32).toInt = 20 := qI_20
      have z4 : (-4 : Int32).toInt = -4 := (by decide)
      have z10 : (10 : Int32).toInt = 10 := qI_10
      rw [if_neg (by omega)]
    obtain ⟨hP9, hD9⟩ := va_sub2 (ws' := [(h0, .inr (11, [.ref st, .int (nI N), .int (nI B), .ref rp, .int vrs, .int vrb, .int vhs, .int vca, .int vxs, .int vxb, .ref tp, .int (nI T), .int vfa, .int vbr, .int vba, .int vsp, .int vhe, .int vtk, .int vva, .ref cu, .ref lt, .ref od, .ref th, .ref be, .ref ln, .int (nI S), .ref ma, .int (nI M), .ref ah, .ref bh, .ref ik, .ref la, .ref lg, .ref ce, .int vto])), (st, .inl (G 0, 196, .inl fst)), (la, .inl (G 0, 4, .inl fla)), (lg, .inl (G 0, 4, .inl flg)), (ce, .inl (G 0, 160, .inl fce))]) hP hD [0, 1, 2, 3, 4] (by decide +kernel) rfl
    refine W.widen (k := 0) (n := 0) (Nat.le_of_ble_eq_true rfl) (Nat.le_of_ble_eq_true rfl) ?_
    exact W.iret (v := (-1)) hx hb hr (fun t ht hW => ⟨⟨(-1), (fst, vto), rfl, ⟨hpost, ⟨hst, NO.rf.n3, (by have t_b4 := b4; have tnb_ := nib5 tn2126_ tn2127_ tn2128_ tn2129_ tn2130_; have tqz_ := qz46_; have z4 : (-4 : Int32).toInt = -4 := (by decide); have z10 : (10 : Int32).toInt = 10 := qI_10; intro x9 h9; rw [if_neg (by omega)])⟩⟩, ⟨by rw [ht]; exact hP9, hD9⟩⟩, hS.F ht⟩) hS.2.2 dX11_read_38
  · skip
    have b5 := if10_p c3
    refine lv_iload_n hx hb dX11_read_12 rfl (lv_at hl 2 rfl) ?_
    refine lv_i2l (v := lane.toInt64) hx hb dX11_read_13 rfl ?_
    refine lv_lconst (v := 0) hx hb dX11_read_14 (by decide) ?_
    refine lv_ldc2 (v := 2) hx hb hown (hg _ wt_1056) dX11_read_15 ?_
    have hPc := hP.sub (ws' := []) [] rfl
    refine va_calli (va_runS (As := [.long lane.toInt64, .long 0, .long 2]) (rest := []) ⟨hx, hb, hml, hown, hg⟩ (c_X11_in l dC dI G _ lane.toInt64 0 2) (kwS hg mfX11_in wt_992 ⟨Nat.le_of_ble_eq_true rfl, Nat.le_of_ble_eq_true rfl⟩) (preSR hK hPc) rfl rfl hl.1 rfl (lv_room (Nat.le_of_ble_eq_true rfl)) dX11_read_18 ⟨Nat.le_of_ble_eq_true rfl, Nat.le_of_ble_eq_true rfl⟩) hS (fun q h1 h2 => absurd h2 (Nat.not_le.mpr h1)) (fun q h => hA q (Nat.le_trans hS.1 h)) (fun r6 ur6 t H1 locs ht hvm w7 hB hz1 hk1 hS => ?_)
    have hP := keepR hP hk1
    obtain ⟨w7, w7x⟩ := w7
    try simp only [l_ii, show (0 : Int64).toInt = 0 from by decide, show (2 : Int64).toInt = 2 from by decide] at w7
    subst w7
    refine lv_if_eq (tgt := 37) hx hb dX11_read_21 rfl (fun c8 => ?_) (fun c8 => ?_)
    · skip
      have b9 := if10_n c8
      refine lv_iconst (v := (-1)) hx hb dX11_read_37 rfl ?_
      have hpost : ((-1) : Int32) = if ((0 ≤ k.toInt ∧ k.toInt < 4) ∧ (0 ≤ lane.toInt ∧ lane.toInt ≤ 2) ∧ 0 ≤ n.toInt ∧ n.toInt ≤ 20) then rdR N B (fun q8 : Nat => fce (40 * k.toNatClampNeg + (x1.toInt + 2 * (q8 : Int) + 0).toNat)) (fun q8 : Nat => fce (40 * k.toNatClampNeg + (x1.toInt + 2 * (q8 : Int) + 1).toNat)) (tpK (fla k.toNatClampNeg) lane (flg k.toNatClampNeg).toInt x1.toInt n.toNatClampNeg) else -1 := by
        have t_b5 := b5
        have t_b9 := b9
        have t_n0 : (nI N).toInt = (N : Int) := tn2126_ ()
        have t_n1 : (nI B).toInt = (B : Int) := tn2127_ ()
        have t_n2 : (nI T).toInt = (T : Int) := tn2128_ ()
        have t_n3 : (nI S).toInt = (S : Int) := tn2129_ ()
        have t_n4 : (nI M).toInt = (M : Int) := tn2130_ ()
        have z0 : (0 : Int32).toInt = 0 := qI_0
        have z1 : (1 : Int32).toInt = 1 := qI_1
        have z2 : (2 : Int32).toInt = 2 := qI_2
        have z3 : (3 : Int32).toInt = 3 := qI_3
        have z5 : (5 : Int32).toInt = 5 := qI_5
        have z9 : (9 : Int32).toInt = 9 := qI_9
        have z20 : (20 : Int32).toInt = 20 := qI_20
        have z4 : (-4 : Int32).toInt = -4 := (by decide)
        have z10 : (10 : Int32).toInt = 10 := qI_10
        rw [if_neg (by omega)]
      obtain ⟨hP9, hD9⟩ := va_sub2 (ws' := [(h0, .inr (11, [.ref st, .int (nI N), .int (nI B), .ref rp, .int vrs, .int vrb, .int vhs, .int vca, .int vxs, .int vxb, .ref tp, .int (nI T), .int vfa, .int vbr, .int vba, .int vsp, .int vhe, .int vtk, .int vva, .ref cu, .ref lt, .ref od, .ref th, .ref be, .ref ln, .int (nI S), .ref ma, .int (nI M), .ref ah, .ref bh, .ref ik, .ref la, .ref lg, .ref ce, .int vto])), (st, .inl (G 0, 196, .inl fst)), (la, .inl (G 0, 4, .inl fla)), (lg, .inl (G 0, 4, .inl flg)), (ce, .inl (G 0, 160, .inl fce))]) hP hD [0, 1, 2, 3, 4] (by decide +kernel) rfl
      refine W.widen (k := 0) (n := 0) (Nat.le_of_ble_eq_true rfl) (Nat.le_of_ble_eq_true rfl) ?_
      exact W.iret (v := (-1)) hx hb hr (fun t ht hW => ⟨⟨(-1), (fst, vto), rfl, ⟨hpost, ⟨hst, NO.rf.n3, (by have t_b5 := b5; have t_b9 := b9; have tnb_ := nib5 tn2126_ tn2127_ tn2128_ tn2129_ tn2130_; have tqz_ := qz46_; have z4 : (-4 : Int32).toInt = -4 := (by decide); have z10 : (10 : Int32).toInt = 10 := qI_10; intro x9 h9; rw [if_neg (by omega)])⟩⟩, ⟨by rw [ht]; exact hP9, hD9⟩⟩, hS.F ht⟩) hS.2.2 dX11_read_38
    · skip
      have b10 := if10_p c8
      refine lv_iload hx hb dX11_read_24 (lv_at hl 4 rfl) ?_
      refine lv_i2l (v := n.toInt64) hx hb dX11_read_26 rfl ?_
      refine lv_lconst (v := 0) hx hb dX11_read_27 (by decide) ?_
      refine lv_ldc2 (v := 20) hx hb hown (hg _ wt_1127) dX11_read_28 ?_
      have hPc := hP.sub (ws' := []) [] rfl
      refine va_calli (va_runS (As := [.long n.toInt64, .long 0, .long 20]) (rest := []) ⟨hx, hb, hml, hown, hg⟩ (c_X11_in l dC dI G _ n.toInt64 0 20) (kwS hg mfX11_in wt_992 ⟨Nat.le_of_ble_eq_true rfl, Nat.le_of_ble_eq_true rfl⟩) (preSR hK hPc) rfl rfl hl.1 rfl (lv_room (Nat.le_of_ble_eq_true rfl)) dX11_read_31 ⟨Nat.le_of_ble_eq_true rfl, Nat.le_of_ble_eq_true rfl⟩) hS (fun q h1 h2 => absurd h2 (Nat.not_le.mpr h1)) (fun q h => hA q (Nat.le_trans hS.1 h)) (fun r11 ur11 t H1 locs ht hvm w12 hB hz1 hk1 hS => ?_)
      have hP := keepR hP hk1
      obtain ⟨w12, w12x⟩ := w12
      try simp only [l_ii, show (0 : Int64).toInt = 0 from by decide, show (20 : Int64).toInt = 20 from by decide] at w12
      subst w12
      refine lv_if_ne (tgt := 39) hx hb dX11_read_34 rfl (fun c13 => ?_) (fun c13 => ?_)
      · skip
        have b14 := if10_p c13
        obtain ⟨kk, hkk, rfl⟩ : ∃ j : Nat, j < 4 ∧ k = nI j := by
          have t_b5 := b5
          have t_b10 := b10
          have t_b14 := b14
          have t_n0 : (nI N).toInt = (N : Int) := tn2126_ ()
          have t_n1 : (nI B).toInt = (B : Int) := tn2127_ ()
          have t_n2 : (nI T).toInt = (T : Int) := tn2128_ ()
          have t_n3 : (nI S).toInt = (S : Int) := tn2129_ ()
          have t_n4 : (nI M).toInt = (M : Int) := tn2130_ ()
          exact i32_nat (by omega) (by omega)
        obtain ⟨nn, hnn, rfl⟩ : ∃ j : Nat, j < 21 ∧ n = nI j := by
          have t_b5 := b5
          have t_b10 := b10
          have t_b14 := b14
          have t_hkk := hkk
          have t_n0 : (nI N).toInt = (N : Int) := tn2126_ ()
          have t_n1 : (nI B).toInt = (B : Int) := tn2127_ ()
          have t_n2 : (nI T).toInt = (T : Int) := tn2128_ ()
          have t_n3 : (nI S).toInt = (S : Int) := tn2129_ ()
          have t_n4 : (nI M).toInt = (M : Int) := tn2130_ ()
          have tn2131_ : nIT kk := fun _ => nI_toInt (by omega)
          have t_n5 : (nI kk).toInt = (kk : Int) := tn2131_ ()
          exact i32_nat (by omega) (by omega)
        refine lv_aload_n hx hb dX11_read_39 rfl (lv_at hl 0 rfl) ?_
        refine lv_iconst (v := 0) hx hb dX11_read_40 rfl ?_
        refine lv_sipush (v := 147) hx hb dX11_read_41 rfl ?_
        obtain ⟨hPc, hDc, hFc⟩ := va_sub3 (ws' := [(h0, .inr (11, [.ref st, .int (nI N), .int (nI B), .ref rp, .int vrs, .int vrb, .int vhs, .int vca, .int vxs, .int vxb, .ref tp, .int (nI T), .int vfa, .int vbr, .int vba, .int vsp, .int vhe, .int vtk, .int vva, .ref cu, .ref lt, .ref od, .ref th, .ref be, .ref ln, .int (nI S), .ref ma, .int (nI M), .ref ah, .ref bh, .ref ik, .ref la, .ref lg, .ref ce, .int vto])), (st, .inl (G 0, 196, .inl fst))]) hP hD hS hA [0, 1] (by decide +kernel) rfl
        have tn2132_ : nIT kk := fun _ => nI_toInt (by first | omega | (have t_b5 := b5; have t_b10 := b10; have t_b14 := b14; have t_hkk := hkk; have t_hnn := hnn; omega))
        have tn2133_ : nIT nn := fun _ => nI_toInt (by first | omega | (have t_b5 := b5; have t_b10 := b10; have t_b14 := b14; have t_hkk := hkk; have t_hnn := hnn; omega))
        refine va_callv (va_runV (As := [.int 0, .int 147]) (rest := []) ⟨hx, hb, hml, hown, hg⟩ (c_X11_copiesW l dC dI G _ h0 0 147 st N B rp tp T cu lt od th be ln S ma M ah bh ik la lg ce vrs vrb vhs vca vxs vxb vfa vbr vba vsp vhe vtk vva vto fst hN hB_ hT_ hS0 hM_ hst (by first | omega | (have t_b5 := b5; have t_b10 := b10; have t_b14 := b14; have t_hkk := hkk; have t_hnn := hnn; have tnb_ := nib7 tn2126_ tn2127_ tn2128_ tn2129_ tn2130_ tn2132_ tn2133_; omega)) (by first | omega | (have t_b5 := b5; have t_b10 := b10; have t_b14 := b14; have t_hkk := hkk; have t_hnn := hnn; have tnb_ := nib7 tn2126_ tn2127_ tn2128_ tn2129_ tn2130_ tn2132_ tn2133_; omega)) (by first | omega | (have t_b5 := b5; have t_b10 := b10; have t_b14 := b14; have t_hkk := hkk; have t_hnn := hnn; have tnb_ := nib7 tn2126_ tn2127_ tn2128_ tn2129_ tn2130_ tn2132_ tn2133_; omega))) (kwV hg mfX11_copies wt_1248 ⟨Nat.le_of_ble_eq_true rfl, Nat.le_of_ble_eq_true rfl⟩) (preVW hK hPc hDc (ci := 11) (r := (RX11, TX11, 35)) rfl rfl) rfl rfl hl.1 rfl (lv_room (Nat.le_of_ble_eq_true rfl)) dX11_read_44 ⟨Nat.le_of_ble_eq_true rfl, Nat.le_of_ble_eq_true rfl⟩) hS (fun q _ h => hFc q h) hFc (fun ur15 t H1 locs ht hvm w16 hB hz1 hk1 hS => ?_)
        obtain ⟨u17, rfl⟩ : ∃ z, z = ur15 := ⟨_, rfl⟩
        obtain ⟨hP1, hD1⟩ := hB
        rw [ht] at hP1
        obtain ⟨hP, hD⟩ := va_join (wr := [(la, .inl (G 0, 4, .inl fla)), (lg, .inl (G 0, 4, .inl flg)), (ce, .inl (G 0, 160, .inl fce))]) (w1 := [(h0, .inr (11, [.ref st, .int (nI N), .int (nI B), .ref rp, .int vrs, .int vrb, .int vhs, .int vca, .int vxs, .int vxb, .ref tp, .int (nI T), .int vfa, .int vbr, .int vba, .int vsp, .int vhe, .int vtk, .int vva, .ref cu, .ref lt, .ref od, .ref th, .ref be, .ref ln, .int (nI S), .ref ma, .int (nI M), .ref ah, .ref bh, .ref ik, .ref la, .ref lg, .ref ce, .int vto])), (st, .inl (G 0, 196, .inl u17))]) hP hD [0, 1] [2, 3, 4] rfl rfl (by decide +kernel) (by decide +kernel) hk1 hFc hP1 hD1
        have w16 : OKS u17 ∧ u17 = cpj 0 147 49 fst := w16
        generalize H1 = H at hP hS ⊢
        refine lv_iconst (v := 0) hx hb dX11_read_47 rfl ?_
        refine lv_istore (lv' := [(5, .int 0), (0, .ref h0), (1, .int (nI kk)), (2, .int lane), (3, .int x1), (4, .int (nI nn))]) hx hb dX11_read_48 hl (by decide) rfl (fun ls hl => ?_)
        refine lv_iconst (v := 0) hx hb dX11_read_50 rfl ?_
        refine lv_istore (lv' := [(6, .int 0), (5, .int 0), (0, .ref h0), (1, .int (nI kk)), (2, .int lane), (3, .int x1), (4, .int (nI nn))]) hx hb dX11_read_51 hl (by decide) rfl (fun ls hl => ?_)
        refine lv_iconst (v := 0) hx hb dX11_read_53 rfl ?_
        refine lv_istore (lv' := [(7, .int 0), (6, .int 0), (5, .int 0), (0, .ref h0), (1, .int (nI kk)), (2, .int lane), (3, .int x1), (4, .int (nI nn))]) hx hb dX11_read_54 hl (by decide) rfl (fun ls hl => ?_)
        have loop56_22 : ∀ (nf j18 : Nat), (2 * nn) + 1 ≤ j18 + nf → j18 ≤ (2 * nn) → ∀ (y19 : Int32) (y20 : Int32) (g21 : Nat → Int32) (H : Heap) (locs : List Loc), ((y20.toInt = 0 ∧ y19 = nI (j18 / 2) ∧ (j18 = 0 ∨ (fla kk = lane ∧ 0 ≤ x1.toInt ∧ x1.toInt + (j18 : Int) ≤ (flg kk).toInt)) ∧ (∀ q9 : Nat, q9 < (j18 / 2) → (0 ≤ ((fun q8 : Nat => fce (40 * kk + (x1.toInt + 2 * (q8 : Int) + 0).toNat)) q9).toInt ∧ ((fun q8 : Nat => fce (40 * kk + (x1.toInt + 2 * (q8 : Int) + 0).toNat)) q9).toInt < ((N : Nat) : Int)) ∧ (0 ≤ ((fun q8 : Nat => fce (40 * kk + (x1.toInt + 2 * (q8 : Int) + 1).toNat)) q9).toInt ∧ ((fun q8 : Nat => fce (40 * kk + (x1.toInt + 2 * (q8 : Int) + 1).toNat)) q9).toInt < ((B : Nat) : Int))) ∧ OKS g21 ∧ RDJ fst g21 (fun q8 : Nat => fce (40 * kk + (x1.toInt + 2 * (q8 : Int) + 0).toNat)) (fun q8 : Nat => fce (40 * kk + (x1.toInt + 2 * (q8 : Int) + 1).toNat)) (j18 / 2)) ∨ (y20.toInt ≠ 0 ∧ y19 = nI (tpK (fla kk) lane (flg kk).toInt x1.toInt nn) ∧ (tpK (fla kk) lane (flg kk).toInt x1.toInt nn) ≤ 20 ∧ (∀ q9 : Nat, q9 < (tpK (fla kk) lane (flg kk).toInt x1.toInt nn) → (0 ≤ ((fun q8 : Nat => fce (40 * kk + (x1.toInt + 2 * (q8 : Int) + 0).toNat)) q9).toInt ∧ ((fun q8 : Nat => fce (40 * kk + (x1.toInt + 2 * (q8 : Int) + 0).toNat)) q9).toInt < ((N : Nat) : Int)) ∧ (0 ≤ ((fun q8 : Nat => fce (40 * kk + (x1.toInt + 2 * (q8 : Int) + 1).toNat)) q9).toInt ∧ ((fun q8 : Nat => fce (40 * kk + (x1.toInt + 2 * (q8 : Int) + 1).toNat)) q9).toInt < ((B : Nat) : Int))) ∧ OKS g21 ∧ RDJ fst g21 (fun q8 : Nat => fce (40 * kk + (x1.toInt + 2 * (q8 : Int) + 0).toNat)) (fun q8 : Nat => fce (40 * kk + (x1.toInt + 2 * (q8 : Int) + 1).toNat)) (tpK (fla kk) lane (flg kk).toInt x1.toInt nn))) → va_P (dC, dI) vwCl [(la, .inl (G 0, 4, .inl fla)), (lg, .inl (G 0, 4, .inl flg)), (ce, .inl (G 0, 160, .inl fce)), (h0, .inr (11, [.ref st, .int (nI N), .int (nI B), .ref rp, .int vrs, .int vrb, .int vhs, .int vca, .int vxs, .int vxb, .ref tp, .int (nI T), .int vfa, .int vbr, .int vba, .int vsp, .int vhe, .int vtk, .int vva, .ref cu, .ref lt, .ref od, .ref th, .ref be, .ref ln, .int (nI S), .ref ma, .int (nI M), .ref ah, .ref bh, .ref ik, .ref la, .ref lg, .ref ce, .int vto])), (st, .inl (G 0, 196, .inl g21))] H → va_D A [(la, .inl (G 0, 4, .inl fla)), (lg, .inl (G 0, 4, .inl flg)), (ce, .inl (G 0, 160, .inl fce)), (h0, .inr (11, [.ref st, .int (nI N), .int (nI B), .ref rp, .int vrs, .int vrb, .int vhs, .int vca, .int vxs, .int vxb, .ref tp, .int (nI T), .int vfa, .int vbr, .int vba, .int vsp, .int vhe, .int vtk, .int vva, .ref cu, .ref lt, .ref od, .ref th, .ref be, .ref ln, .int (nI S), .ref ma, .int (nI M), .ref ah, .ref bh, .ref ik, .ref la, .ref lg, .ref ce, .int vto])), (st, .inl (G 0, 196, .inl g21))] → va_S A s.heap H locs → ∀ (ls : Array Slot), lv_has ls 9 [(7, .int (nI j18)), (6, .int y19), (5, .int y20), (0, .ref h0), (1, .int (nI kk)), (2, .int lane), (3, .int x1), (4, .int (nI nn))] → W p l e (headSpec (Cond.code yX11_read cX11_read 9 (some .int) :: GT) ({ frames := 3, cells := 0, slots := 0, locals := 68 } : Room)).room s m ([.ref h0, .int (nI kk), .int lane, .int x1, .int (nI nn)] : List Value).toArray below meth c H locs 0 0 (MQ below (va_Qi (fun (r : Int32) (u : (Nat → Int32) × Int32) => match u with | (ost, oto) => (r = if ((0 ≤ (nI kk).toInt ∧ (nI kk).toInt < 4) ∧ (0 ≤ lane.toInt ∧ lane.toInt ≤ 2) ∧ 0 ≤ (nI nn).toInt ∧ (nI nn).toInt ≤ 20) then rdR N B (fun q8 : Nat => fce (40 * (nI kk).toNatClampNeg + (x1.toInt + 2 * (q8 : Int) + 0).toNat)) (fun q8 : Nat => fce (40 * (nI kk).toNatClampNeg + (x1.toInt + 2 * (q8 : Int) + 1).toNat)) (tpK (fla (nI kk).toNatClampNeg) lane (flg (nI kk).toNatClampNeg).toInt x1.toInt (nI nn).toNatClampNeg) else -1) ∧ OKS ost ∧ NO3 fst ost ∧ ∀ x9 : Nat, x9 < 10 → ost (38 + x9) = (if ((0 ≤ (nI kk).toInt ∧ (nI kk).toInt < 4) ∧ (0 ≤ lane.toInt ∧ lane.toInt ≤ 2) ∧ 0 ≤ (nI nn).toInt ∧ (nI nn).toInt ≤ 20) then rdF N B (fun q8 : Nat => fce (40 * (nI kk).toNatClampNeg + (x1.toInt + 2 * (q8 : Int) + 0).toNat)) (fun q8 : Nat => fce (40 * (nI kk).toNatClampNeg + (x1.toInt + 2 * (q8 : Int) + 1).toNat)) (tpK (fla (nI kk).toNatClampNeg) lane (flg (nI kk).toNatClampNeg).toInt x1.toInt (nI nn).toNatClampNeg) (fun i9 => fst (38 + i9)) else (fun i9 => fst (38 + i9))) x9) (fun (u : (Nat → Int32) × Int32) (t : State) => match u with | (ost, oto) => va_P (dC, dI) vwCl [(h0, .inr (11, [.ref st, .int (nI N), .int (nI B), .ref rp, .int vrs, .int vrb, .int vhs, .int vca, .int vxs, .int vxb, .ref tp, .int (nI T), .int vfa, .int vbr, .int vba, .int vsp, .int vhe, .int vtk, .int vva, .ref cu, .ref lt, .ref od, .ref th, .ref be, .ref ln, .int (nI S), .ref ma, .int (nI M), .ref ah, .ref bh, .ref ik, .ref la, .ref lg, .ref ce, .int oto])), (st, .inl (G 0, 196, .inl ost)), (la, .inl (G 0, 4, .inl fla)), (lg, .inl (G 0, 4, .inl flg)), (ce, .inl (G 0, 160, .inl fce))] t.heap ∧ va_D A [(h0, .inr (11, [.ref st, .int (nI N), .int (nI B), .ref rp, .int vrs, .int vrb, .int vhs, .int vca, .int vxs, .int vxb, .ref tp, .int (nI T), .int vfa, .int vbr, .int vba, .int vsp, .int vhe, .int vtk, .int vva, .ref cu, .ref lt, .ref od, .ref th, .ref be, .ref ln, .int (nI S), .ref ma, .int (nI M), .ref ah, .ref bh, .ref ik, .ref la, .ref lg, .ref ce, .int oto])), (st, .inl (G 0, 196, .inl ost)), (la, .inl (G 0, 4, .inl fla)), (lg, .inl (G 0, 4, .inl flg)), (ce, .inl (G 0, 160, .inl fce))]) A) ([.ref h0, .int (nI kk), .int lane, .int x1, .int (nI nn)] : List Value).toArray s 0 0 A) (F0 m 56 ls []) := by
          intro nf
          induction nf with
          | zero => intro j18 h1 h2; exact absurd h1 (by omega)
          | succ nf ih56_22 =>
            intro j18 hn23 hj24 y19 y20 g21 H locs hinv hP hD hS ls hl
            refine lv_iload hx hb dX11_read_56 (lv_at hl 0 rfl) ?_
            refine lv_iconst (v := 2) hx hb dX11_read_58 rfl ?_
            refine lv_iload hx hb dX11_read_59 (lv_at hl 7 rfl) ?_
            refine lv_imul hx hb dX11_read_61 ?_
            refine lv_cg (y := nI (2 * nn)) (by rw [show (2 : Int32) = nI 2 from rfl]; exact pk_mul _ _) ?_
            refine lv_icmp_ge (tgt := 198) hx hb dX11_read_62 rfl (fun c25 => ?_) (fun c25 => ?_)
            · skip
              have tn2134_ : nIT j18 := fun _ => nI_toInt (by first | omega | (have t := leI c25; omega))
              have tn2135_ : nIT (2 * nn) := fun _ => nI_toInt (by omega)
              have n26 : (2 * nn) ≤ j18 := by have t := leI c25; rw [show (nI (j18)).toInt = ((j18 : Nat) : Int) from tn2134_ ()] at t; rw [show (nI (2 * nn)).toInt = ((2 * nn : Nat) : Int) from tn2135_ ()] at t; omega
              have hend : y19 = nI (tpK (fla kk) lane (flg kk).toInt x1.toInt nn) ∧ (tpK (fla kk) lane (flg kk).toInt x1.toInt nn) ≤ 20 ∧ (∀ q9 : Nat, q9 < (tpK (fla kk) lane (flg kk).toInt x1.toInt nn) → (0 ≤ ((fun q8 : Nat => fce (40 * kk + (x1.toInt + 2 * (q8 : Int) + 0).toNat)) q9).toInt ∧ ((fun q8 : Nat => fce (40 * kk + (x1.toInt + 2 * (q8 : Int) + 0).toNat)) q9).toInt < ((N : Nat) : Int)) ∧ (0 ≤ ((fun q8 : Nat => fce (40 * kk + (x1.toInt + 2 * (q8 : Int) + 1).toNat)) q9).toInt ∧ ((fun q8 : Nat => fce (40 * kk + (x1.toInt + 2 * (q8 : Int) + 1).toNat)) q9).toInt < ((B : Nat) : Int))) ∧ OKS g21 ∧ RDJ fst g21 (fun q8 : Nat => fce (40 * kk + (x1.toInt + 2 * (q8 : Int) + 0).toNat)) (fun q8 : Nat => fce (40 * kk + (x1.toInt + 2 * (q8 : Int) + 1).toNat)) (tpK (fla kk) lane (flg kk).toInt x1.toInt nn) := (by
                rcases hinv with g9 | g9
                · have hm : (tpK (fla kk) lane (flg kk).toInt x1.toInt nn) = j18 / 2 := (by have t_b5 := b5; have t_b10 := b10; have t_b14 := b14; have t_hkk := hkk; have t_hnn := hnn; have t_hj24 := hj24; have t_n26 := n26; have t_n0 : (nI N).toInt = (N : Int) := nI_toInt (by omega); have t_n1 : (nI B).toInt = (B : Int) := nI_toInt (by omega); have t_n2 : (nI T).toInt = (T : Int) := nI_toInt (by omega); have t_n3 : (nI S).toInt = (S : Int) := nI_toInt (by omega); have t_n4 : (nI M).toInt = (M : Int) := nI_toInt (by omega); have t_n5 : (nI kk).toInt = (kk : Int) := nI_toInt (by omega); have t_n6 : (nI nn).toInt = (nn : Int) := nI_toInt (by omega); have t_n7 : (nI j18).toInt = (j18 : Int) := nI_toInt (by omega); have tqz_ := qz46_; have z4 : (-4 : Int32).toInt = -4 := (by decide); have z10 : (10 : Int32).toInt = 10 := qI_10; have hLr := g9.2.2.1; have g7 := g9.1; first | (exfalso; omega) | (unfold tpK; split; (exact tpM_eq (by omega) (fun q9 h9 => by rcases hLr with g8 | g8; omega; exact ⟨by omega, by omega⟩) (fun h9 => absurd h9 (by omega))); (rcases hLr with g8 | g8; omega; exact absurd g8.1 (by first | with_reducible assumption | assumption))))
                  rw [hm]; exact ⟨g9.2.1, (by have t_b5 := b5; have t_b10 := b10; have t_b14 := b14; have t_hkk := hkk; have t_hnn := hnn; have t_hj24 := hj24; have t_n26 := n26; have tnb_ := nib8 tn2126_ tn2127_ tn2128_ tn2129_ tn2130_ tn2132_ tn2133_ tn2134_; have tqz_ := qz46_; have z4 : (-4 : Int32).toInt = -4 := (by decide); have z10 : (10 : Int32).toInt = 10 := qI_10; omega), g9.2.2.2.1, g9.2.2.2.2.1, g9.2.2.2.2.2⟩
                · exact g9.2)
              refine lv_aload_n hx hb dX11_read_198 rfl (lv_at hl 3 rfl) ?_
              refine lv_iload hx hb dX11_read_199 (lv_at hl 2 rfl) ?_
              refine va_put (D := (dC, dI)) (ci := 11) (v := .int y20) (ty := .int) (C := RX11) (T := TX11) (N := 35) hx hb hg inG11 tyX11 tyX11_ok nmX11 hown hK.1 hP hD hS 3 rfl rfl 34 (Nat.le_of_ble_eq_true rfl) (hg _ wt_912) (fun _ h9 => h9) rfl (by decide +kernel) rfl rfl (Nat.le_of_ble_eq_true rfl) dX11_read_201 (fun H locs hP hD hS => ?_)
              refine lv_iload hx hb dX11_read_204 (lv_at hl 1 rfl) ?_
              have hpost : (y19 : Int32) = if ((0 ≤ (nI kk).toInt ∧ (nI kk).toInt < 4) ∧ (0 ≤ lane.toInt ∧ lane.toInt ≤ 2) ∧ 0 ≤ (nI nn).toInt ∧ (nI nn).toInt ≤ 20) then rdR N B (fun q8 : Nat => fce (40 * (nI kk).toNatClampNeg + (x1.toInt + 2 * (q8 : Int) + 0).toNat)) (fun q8 : Nat => fce (40 * (nI kk).toNatClampNeg + (x1.toInt + 2 * (q8 : Int) + 1).toNat)) (tpK (fla (nI kk).toNatClampNeg) lane (flg (nI kk).toNatClampNeg).toInt x1.toInt (nI nn).toNatClampNeg) else -1 := by
                have t_b5 := b5
                have t_b10 := b10
                have t_b14 := b14
                have t_hkk := hkk
                have t_hnn := hnn
                have t_hj24 := hj24
                have t_n26 := n26
                have t_n0 : (nI N).toInt = (N : Int) := tn2126_ ()
                have t_n1 : (nI B).toInt = (B : Int) := tn2127_ ()
                have t_n2 : (nI T).toInt = (T : Int) := tn2128_ ()
                have t_n3 : (nI S).toInt = (S : Int) := tn2129_ ()
                have t_n4 : (nI M).toInt = (M : Int) := tn2130_ ()
                have t_n5 : (nI kk).toInt = (kk : Int) := tn2132_ ()
                have t_n6 : (nI nn).toInt = (nn : Int) := tn2133_ ()
                have t_n7 : (nI j18).toInt = (j18 : Int) := tn2134_ ()
                have z0 : (0 : Int32).toInt = 0 := qI_0
                have z1 : (1 : Int32).toInt = 1 := qI_1
                have z2 : (2 : Int32).toInt = 2 := qI_2
                have z3 : (3 : Int32).toInt = 3 := qI_3
                have z5 : (5 : Int32).toInt = 5 := qI_5
                have z9 : (9 : Int32).toInt = 9 := qI_9
                have z20 : (20 : Int32).toInt = 20 := qI_20
                have z4 : (-4 : Int32).toInt = -4 := (by decide)
                have z10 : (10 : Int32).toInt = 10 := qI_10
                rw [if_pos (by omega), nI_clamp (by omega), nI_clamp (by omega)]
                unfold rdR
                rw [rdI_eq (Nat.le_refl _) hend.2.2.1 (fun h9 => absurd h9 (Nat.lt_irrefl _)), if_neg (Nat.lt_irrefl _)]
                exact hend.1
              obtain ⟨hP9, hD9⟩ := va_sub2 (ws' := [(h0, .inr (11, [.ref st, .int (nI N), .int (nI B), .ref rp, .int vrs, .int vrb, .int vhs, .int vca, .int vxs, .int vxb, .ref tp, .int (nI T), .int vfa, .int vbr, .int vba, .int vsp, .int vhe, .int vtk, .int vva, .ref cu, .ref lt, .ref od, .ref th, .ref be, .ref ln, .int (nI S), .ref ma, .int (nI M), .ref ah, .ref bh, .ref ik, .ref la, .ref lg, .ref ce, .int y20])), (st, .inl (G 0, 196, .inl g21)), (la, .inl (G 0, 4, .inl fla)), (lg, .inl (G 0, 4, .inl flg)), (ce, .inl (G 0, 160, .inl fce))]) hP hD [3, 4, 0, 1, 2] (by decide +kernel) rfl
              refine W.widen (k := 0) (n := 0) (Nat.le_of_ble_eq_true rfl) (Nat.le_of_ble_eq_true rfl) ?_
              exact W.iret (v := y19) hx hb hr (fun t ht hW => ⟨⟨y19, (g21, y20), rfl, ⟨hpost, (by clear hpost; have t_b5 := b5; have t_b10 := b10; have t_b14 := b14; have t_hkk := hkk; have t_hnn := hnn; have t_hj24 := hj24; have t_n26 := n26; have tnb_ := nib8 tn2126_ tn2127_ tn2128_ tn2129_ tn2130_ tn2132_ tn2133_ tn2134_; have tqz_ := qz46_; have z4 : (-4 : Int32).toInt = -4 := (by decide); have z10 : (10 : Int32).toInt = 10 := qI_10; refine ⟨hend.2.2.2.1, hend.2.2.2.2.1, (fun x9 h9 => by rw [if_pos (by omega), nI_clamp (by omega), nI_clamp (by omega)]; unfold rdF; rw [rdI_eq (Nat.le_refl _) hend.2.2.1 (fun h8 => absurd h8 (Nat.lt_irrefl _)), if_neg (Nat.lt_irrefl _)]; exact hend.2.2.2.2.2.1 x9 h9)⟩)⟩, ⟨by rw [ht]; exact hP9, hD9⟩⟩, hS.F ht⟩) hS.2.2 dX11_read_206
            · skip
              have tn2136_ : nIT j18 := fun _ => nI_toInt (by first | omega | (have t := nleI c25; omega))
              have tn2137_ : nIT (2 * nn) := fun _ => nI_toInt (by omega)
              have n27 : j18 < (2 * nn) := by have t := nleI c25; rw [show (nI (j18)).toInt = ((j18 : Nat) : Int) from tn2136_ ()] at t; rw [show (nI (2 * nn)).toInt = ((2 * nn : Nat) : Int) from tn2137_ ()] at t; omega
              refine lv_iload hx hb dX11_read_65 (lv_at hl 2 rfl) ?_
              refine lv_if_ne (tgt := 198) hx hb dX11_read_67 rfl (fun c28 => ?_) (fun c28 => ?_)
              · skip
                have hend : y19 = nI (tpK (fla kk) lane (flg kk).toInt x1.toInt nn) ∧ (tpK (fla kk) lane (flg kk).toInt x1.toInt nn) ≤ 20 ∧ (∀ q9 : Nat, q9 < (tpK (fla kk) lane (flg kk).toInt x1.toInt nn) → (0 ≤ ((fun q8 : Nat => fce (40 * kk + (x1.toInt + 2 * (q8 : Int) + 0).toNat)) q9).toInt ∧ ((fun q8 : Nat => fce (40 * kk + (x1.toInt + 2 * (q8 : Int) + 0).toNat)) q9).toInt < ((N : Nat) : Int)) ∧ (0 ≤ ((fun q8 : Nat => fce (40 * kk + (x1.toInt + 2 * (q8 : Int) + 1).toNat)) q9).toInt ∧ ((fun q8 : Nat => fce (40 * kk + (x1.toInt + 2 * (q8 : Int) + 1).toNat)) q9).toInt < ((B : Nat) : Int))) ∧ OKS g21 ∧ RDJ fst g21 (fun q8 : Nat => fce (40 * kk + (x1.toInt + 2 * (q8 : Int) + 0).toNat)) (fun q8 : Nat => fce (40 * kk + (x1.toInt + 2 * (q8 : Int) + 1).toNat)) (tpK (fla kk) lane (flg kk).toInt x1.toInt nn) := (by
                  rcases hinv with g9 | g9
                  · have hm : (tpK (fla kk) lane (flg kk).toInt x1.toInt nn) = j18 / 2 := (by have t_b5 := b5; have t_b10 := b10; have t_b14 := b14; have t_hkk := hkk; have t_hnn := hnn; have t_hj24 := hj24; have t_n27 := n27; have t_c28 := neI c28; have : (0 : Int32).toInt = 0 := qI_0; have t_n0 : (nI N).toInt = (N : Int) := nI_toInt (by omega); have t_n1 : (nI B).toInt = (B : Int) := nI_toInt (by omega); have t_n2 : (nI T).toInt = (T : Int) := nI_toInt (by omega); have t_n3 : (nI S).toInt = (S : Int) := nI_toInt (by omega); have t_n4 : (nI M).toInt = (M : Int) := nI_toInt (by omega); have t_n5 : (nI kk).toInt = (kk : Int) := nI_toInt (by omega); have t_n6 : (nI nn).toInt = (nn : Int) := nI_toInt (by omega); have t_n7 : (nI j18).toInt = (j18 : Int) := nI_toInt (by omega); have tqz_ := qz46_; have z4 : (-4 : Int32).toInt = -4 := (by decide); have z10 : (10 : Int32).toInt = 10 := qI_10; have hLr := g9.2.2.1; have g7 := g9.1; first | (exfalso; omega) | (unfold tpK; split; (exact tpM_eq (by omega) (fun q9 h9 => by rcases hLr with g8 | g8; omega; exact ⟨by omega, by omega⟩) (fun h9 => absurd h9 (by omega))); (rcases hLr with g8 | g8; omega; exact absurd g8.1 (by first | with_reducible assumption | assumption))))
                    rw [hm]; exact ⟨g9.2.1, (by have t_b5 := b5; have t_b10 := b10; have t_b14 := b14; have t_hkk := hkk; have t_hnn := hnn; have t_hj24 := hj24; have t_n27 := n27; have t_c28 := neI c28; have : (0 : Int32).toInt = 0 := qI_0; have tnb_ := nib8 tn2126_ tn2127_ tn2128_ tn2129_ tn2130_ tn2132_ tn2133_ tn2136_; have tqz_ := qz46_; have z4 : (-4 : Int32).toInt = -4 := (by decide); have z10 : (10 : Int32).toInt = 10 := qI_10; omega), g9.2.2.2.1, g9.2.2.2.2.1, g9.2.2.2.2.2⟩
                  · exact g9.2)
                refine lv_aload_n hx hb dX11_read_198 rfl (lv_at hl 3 rfl) ?_
                refine lv_iload hx hb dX11_read_199 (lv_at hl 2 rfl) ?_
                refine va_put (D := (dC, dI)) (ci := 11) (v := .int y20) (ty := .int) (C := RX11) (T := TX11) (N := 35) hx hb hg inG11 tyX11 tyX11_ok nmX11 hown hK.1 hP hD hS 3 rfl rfl 34 (Nat.le_of_ble_eq_true rfl) (hg _ wt_912) (fun _ h9 => h9) rfl (by decide +kernel) rfl rfl (Nat.le_of_ble_eq_true rfl) dX11_read_201 (fun H locs hP hD hS => ?_)
                refine lv_iload hx hb dX11_read_204 (lv_at hl 1 rfl) ?_
                have hpost : (y19 : Int32) = if ((0 ≤ (nI kk).toInt ∧ (nI kk).toInt < 4) ∧ (0 ≤ lane.toInt ∧ lane.toInt ≤ 2) ∧ 0 ≤ (nI nn).toInt ∧ (nI nn).toInt ≤ 20) then rdR N B (fun q8 : Nat => fce (40 * (nI kk).toNatClampNeg + (x1.toInt + 2 * (q8 : Int) + 0).toNat)) (fun q8 : Nat => fce (40 * (nI kk).toNatClampNeg + (x1.toInt + 2 * (q8 : Int) + 1).toNat)) (tpK (fla (nI kk).toNatClampNeg) lane (flg (nI kk).toNatClampNeg).toInt x1.toInt (nI nn).toNatClampNeg) else -1 := by
                  have t_b5 := b5
                  have t_b10 := b10
                  have t_b14 := b14
                  have t_hkk := hkk
                  have t_hnn := hnn
                  have t_hj24 := hj24
                  have t_n27 := n27
                  have t_c28 := neI c28
                  have : (0 : Int32).toInt = 0 := qI_0
                  have t_n0 : (nI N).toInt = (N : Int) := tn2126_ ()
                  have t_n1 : (nI B).toInt = (B : Int) := tn2127_ ()
                  have t_n2 : (nI T).toInt = (T : Int) := tn2128_ ()
                  have t_n3 : (nI S).toInt = (S : Int) := tn2129_ ()
                  have t_n4 : (nI M).toInt = (M : Int) := tn2130_ ()
                  have t_n5 : (nI kk).toInt = (kk : Int) := tn2132_ ()
                  have t_n6 : (nI nn).toInt = (nn : Int) := tn2133_ ()
                  have t_n7 : (nI j18).toInt = (j18 : Int) := tn2136_ ()
                  have z0 : (0 : Int32).toInt = 0 := qI_0
                  have z1 : (1 : Int32).toInt = 1 := qI_1
                  have z2 : (2 : Int32).toInt = 2 := qI_2
                  have z3 : (3 : Int32).toInt = 3 := qI_3
                  have z5 : (5 : Int32).toInt = 5 := qI_5
                  have z9 : (9 : Int32).toInt = 9 := qI_9
                  have z20 : (20 : Int32).toInt = 20 := qI_20
                  have z4 : (-4 : Int32).toInt = -4 := (by decide)
                  have z10 : (10 : Int32).toInt = 10 := qI_10
                  rw [if_pos (by omega), nI_clamp (by omega), nI_clamp (by omega)]
                  unfold rdR
                  rw [rdI_eq (Nat.le_refl _) hend.2.2.1 (fun h9 => absurd h9 (Nat.lt_irrefl _)), if_neg (Nat.lt_irrefl _)]
                  exact hend.1
                obtain ⟨hP9, hD9⟩ := va_sub2 (ws' := [(h0, .inr (11, [.ref st, .int (nI N), .int (nI B), .ref rp, .int vrs, .int vrb, .int vhs, .int vca, .int vxs, .int vxb, .ref tp, .int (nI T), .int vfa, .int vbr, .int vba, .int vsp, .int vhe, .int vtk, .int vva, .ref cu, .ref lt, .ref od, .ref th, .ref be, .ref ln, .int (nI S), .ref ma, .int (nI M), .ref ah, .ref bh, .ref ik, .ref la, .ref lg, .ref ce, .int y20])), (st, .inl (G 0, 196, .inl g21)), (la, .inl (G 0, 4, .inl fla)), (lg, .inl (G 0, 4, .inl flg)), (ce, .inl (G 0, 160, .inl fce))]) hP hD [3, 4, 0, 1, 2] (by decide +kernel) rfl
                refine W.widen (k := 0) (n := 0) (Nat.le_of_ble_eq_true rfl) (Nat.le_of_ble_eq_true rfl) ?_
                exact W.iret (v := y19) hx hb hr (fun t ht hW => ⟨⟨y19, (g21, y20), rfl, ⟨hpost, (by clear hpost; have t_b5 := b5; have t_b10 := b10; have t_b14 := b14; have t_hkk := hkk; have t_hnn := hnn; have t_hj24 := hj24; have t_n27 := n27; have t_c28 := neI c28; have : (0 : Int32).toInt = 0 := qI_0; have tnb_ := nib8 tn2126_ tn2127_ tn2128_ tn2129_ tn2130_ tn2132_ tn2133_ tn2136_; have tqz_ := qz46_; have z4 : (-4 : Int32).toInt = -4 := (by decide); have z10 : (10 : Int32).toInt = 10 := qI_10; refine ⟨hend.2.2.2.1, hend.2.2.2.2.1, (fun x9 h9 => by rw [if_pos (by omega), nI_clamp (by omega), nI_clamp (by omega)]; unfold rdF; rw [rdI_eq (Nat.le_refl _) hend.2.2.1 (fun h8 => absurd h8 (Nat.lt_irrefl _)), if_neg (Nat.lt_irrefl _)]; exact hend.2.2.2.2.2.1 x9 h9)⟩)⟩, ⟨by rw [ht]; exact hP9, hD9⟩⟩, hS.F ht⟩) hS.2.2 dX11_read_206
              · skip
                have hL := hinv.resolve_right (fun h9 => h9.1 (by have t9 := congrArg Int32.toInt (by assumption : y20 = 0); rw [t9]; rfl))
                have hLr := hL.2.2.1
                refine lv_aload_n hx hb dX11_read_70 rfl (lv_at hl 3 rfl) ?_
                refine va_get (D := (dC, dI)) (ci := 11) (v := .ref la) (C := RX11) (T := TX11) (N := 35) hx hb hg inG11 hown hK.1 hP 3 rfl rfl 31 (Nat.le_of_ble_eq_true rfl) (hg _ wt_909) (fun _ h9 => h9) rfl dX11_read_71 ?_
                refine lv_iload_n hx hb dX11_read_74 rfl (lv_at hl 4 rfl) ?_
                refine va_iald hx hb hK.1 hP 0 0 rfl rfl (vp_in_nI (by first | omega | (have t_b5 := b5; have t_b10 := b10; have t_b14 := b14; have t_hkk := hkk; have t_hnn := hnn; have t_hj24 := hj24; have t_n27 := n27; have t_c28 := eqI c28; have : (0 : Int32).toInt = 0 := qI_0; have tnb_ := nib8 tn2126_ tn2127_ tn2128_ tn2129_ tn2130_ tn2132_ tn2133_ tn2136_; omega)) (by decide)) dX11_read_75 ?_
                refine lv_cg (y := fla kk) (by rw [nI_clamp (by omega)]) ?_
                refine lv_bipush (v := (-4)) hx hb dX11_read_76 rfl ?_
                refine lv_icmp_ne (tgt := 85) hx hb dX11_read_78 rfl (fun c29 => ?_) (fun c29 => ?_)
                · skip
                  refine lv_aload_n hx hb dX11_read_85 rfl (lv_at hl 3 rfl) ?_
                  refine va_get (D := (dC, dI)) (ci := 11) (v := .ref la) (C := RX11) (T := TX11) (N := 35) hx hb hg inG11 hown hK.1 hP 3 rfl rfl 31 (Nat.le_of_ble_eq_true rfl) (hg _ wt_909) (fun _ h9 => h9) rfl dX11_read_86 ?_
                  refine lv_iload_n hx hb dX11_read_89 rfl (lv_at hl 4 rfl) ?_
                  refine va_iald hx hb hK.1 hP 0 0 rfl rfl (vp_in_nI (by first | omega | (have t_b5 := b5; have t_b10 := b10; have t_b14 := b14; have t_hkk := hkk; have t_hnn := hnn; have t_hj24 := hj24; have t_n27 := n27; have t_c28 := eqI c28; have t_c29 := neI c29; have tqz_ := qz8_; have tnb_ := nib8 tn2126_ tn2127_ tn2128_ tn2129_ tn2130_ tn2132_ tn2133_ tn2136_; omega)) (by decide)) dX11_read_90 ?_
                  refine lv_cg (y := fla kk) (by rw [nI_clamp (by omega)]) ?_
                  refine lv_iload_n hx hb dX11_read_91 rfl (lv_at hl 5 rfl) ?_
                  refine lv_icmp_eq (tgt := 99) hx hb dX11_read_92 rfl (fun c30 => ?_) (fun c30 => ?_)
                  · skip
                    have hzk := hz kk (by omega)
                    have e9 := im1 (x := flg kk) hzk.1 hzk.2
                    have e8 := add64 x1 (nI j18)
                    refine lv_iload_n hx hb dX11_read_99 rfl (lv_at hl 6 rfl) ?_
                    refine lv_i2l (v := x1.toInt64) hx hb dX11_read_100 rfl ?_
                    refine lv_iload hx hb dX11_read_101 (lv_at hl 0 rfl) ?_
                    refine lv_i2l (v := (nI j18).toInt64) hx hb dX11_read_103 rfl ?_
                    refine lv_ladd hx hb dX11_read_104 ?_
                    refine lv_lconst (v := 0) hx hb dX11_read_105 (by decide) ?_
                    refine lv_aload_n hx hb dX11_read_106 rfl (lv_at hl 3 rfl) ?_
                    refine va_get (D := (dC, dI)) (ci := 11) (v := .ref lg) (C := RX11) (T := TX11) (N := 35) hx hb hg inG11 hown hK.1 hP 3 rfl rfl 32 (Nat.le_of_ble_eq_true rfl) (hg _ wt_910) (fun _ h9 => h9) rfl dX11_read_107 ?_
                    refine lv_iload_n hx hb dX11_read_110 rfl (lv_at hl 4 rfl) ?_
                    refine va_iald hx hb hK.1 hP 1 0 rfl rfl (vp_in_nI (by first | omega | (have t_b5 := b5; have t_b10 := b10; have t_b14 := b14; have t_hkk := hkk; have t_hnn := hnn; have t_hj24 := hj24; have t_n27 := n27; have t_c28 := eqI c28; have t_c29 := neI c29; have t_c30 := eqI c30; have tqz_ := qz8_; have tnb_ := nib8 tn2126_ tn2127_ tn2128_ tn2129_ tn2130_ tn2132_ tn2133_ tn2136_; omega)) (by decide)) dX11_read_111 ?_
                    refine lv_cg (y := flg kk) (by rw [nI_clamp (by omega)]) ?_
                    refine lv_iconst (v := 1) hx hb dX11_read_112 rfl ?_
                    refine lv_isub hx hb dX11_read_113 ?_
                    refine lv_i2l (v := ((flg kk) - 1).toInt64) hx hb dX11_read_114 rfl ?_
                    have hPc := hP.sub (ws' := []) [] rfl
                    refine va_calli (va_runS (As := [.long (x1.toInt64 + ((nI j18).toInt64)), .long 0, .long (((flg kk) - 1).toInt64)]) (rest := []) ⟨hx, hb, hml, hown, hg⟩ (c_X11_in l dC dI G _ (x1.toInt64 + ((nI j18).toInt64)) 0 (((flg kk) - 1).toInt64)) (kwS hg mfX11_in wt_992 ⟨Nat.le_of_ble_eq_true rfl, Nat.le_of_ble_eq_true rfl⟩) (preSR hK hPc) rfl rfl hl.1 rfl (lv_room (Nat.le_of_ble_eq_true rfl)) dX11_read_115 ⟨Nat.le_of_ble_eq_true rfl, Nat.le_of_ble_eq_true rfl⟩) hS (fun q h1 h2 => absurd h2 (Nat.not_le.mpr h1)) (fun q h => hA q (Nat.le_trans hS.1 h)) (fun r31 ur31 t H1 locs ht hvm w32 hB hz1 hk1 hS => ?_)
                    have hP := keepR hP hk1
                    obtain ⟨w32, w32x⟩ := w32
                    try simp only [l_ii, show (0 : Int64).toInt = 0 from by decide] at w32
                    subst w32
                    refine lv_if_ne (tgt := 125) hx hb dX11_read_118 rfl (fun c33 => ?_) (fun c33 => ?_)
                    · skip
                      have b34 := if10_p c33
                      refine lv_iconst (v := 0) hx hb dX11_read_125 rfl ?_
                      refine lv_istore (lv' := [(5, .int 0), (7, .int (nI j18)), (6, .int y19), (0, .ref h0), (1, .int (nI kk)), (2, .int lane), (3, .int x1), (4, .int (nI nn))]) hx hb dX11_read_126 hl (by decide) rfl (fun ls hl => ?_)
                      refine lv_iload hx hb dX11_read_128 (lv_at hl 0 rfl) ?_
                      refine lv_if_ne (tgt := 192) hx hb dX11_read_130 rfl (fun c35 => ?_) (fun c35 => ?_)
                      · skip
                        exact absurd c35 (by decide)
                      · skip
                        refine lv_iload hx hb dX11_read_133 (lv_at hl 1 rfl) ?_
                        refine lv_iconst (v := 2) hx hb dX11_read_135 rfl ?_
                        refine lv_irem hx hb dX11_read_136 (by decide) ?_
                        refine lv_cg (y := nI (j18 % 2)) (by rw [show (2 : Int32) = nI 2 from rfl]; exact pk_rem (by omega) (by omega) (by omega)) ?_
                        refine lv_iconst (v := 1) hx hb dX11_read_137 rfl ?_
                        refine lv_icmp_ne (tgt := 192) hx hb dX11_read_138 rfl (fun c36 => ?_) (fun c36 => ?_)
                        · skip
                          have tn2138_ : nIT (j18 % 2) := fun _ => nI_toInt (by first | omega | (have t := neI c36; omega))
                          have n37 : (j18 % 2) ≠ 1 := by have t := neI c36; rw [show (nI (j18 % 2)).toInt = ((j18 % 2 : Nat) : Int) from tn2138_ ()] at t; have : (1 : Int32).toInt = 1 := qI_1; omega
                          refine lv_iinc (v := nI (j18 + 1)) (lv' := [(7, .int (nI (j18 + 1))), (5, .int 0), (6, .int y19), (0, .ref h0), (1, .int (nI kk)), (2, .int lane), (3, .int x1), (4, .int (nI nn))]) hx hb dX11_read_192 hl (k := 1) rfl (by rw [show Int32.ofInt 1 = nI 1 from by decide]; exact nI_add _ _) (by decide) rfl (fun ls hl => ?_)
                          refine lv_goto (tgt := 56) hx hb dX11_read_195 rfl ?_
                          exact ih56_22 (j18 + 1) (by omega) (by omega) y19 0 g21 _ _ (by have hh : (j18 + 1) / 2 = j18 / 2 := (by (have t_b5 := b5; have t_b10 := b10; have t_b14 := b14; have t_hkk := hkk; have t_hnn := hnn; have t_hj24 := hj24; have t_n27 := n27; have t_c28 := eqI c28; have t_c29 := neI c29; have t_c30 := eqI c30; have t_b34 := b34; have t_c35 := eqI c35; have t_n37 := n37; have tqz_ := qz8_; have tnb_ := nib8 tn2126_ tn2127_ tn2128_ tn2129_ tn2130_ tn2132_ tn2133_ tn2136_; have tqz_ := qz46_; have z4 : (-4 : Int32).toInt = -4 := (by decide); have z10 : (10 : Int32).toInt = 10 := qI_10; omega)); rw [hh]; exact Or.inl ⟨by decide, hL.2.1, Or.inr ⟨by assumption, by (have t_b5 := b5; have t_b10 := b10; have t_b14 := b14; have t_hkk := hkk; have t_hnn := hnn; have t_hj24 := hj24; have t_n27 := n27; have t_c28 := eqI c28; have t_c29 := neI c29; have t_c30 := eqI c30; have t_b34 := b34; have t_c35 := eqI c35; have t_n37 := n37; have tqz_ := qz8_; have tnb_ := nib8 tn2126_ tn2127_ tn2128_ tn2129_ tn2130_ tn2132_ tn2133_ tn2136_; have tqz_ := qz46_; have z4 : (-4 : Int32).toInt = -4 := (by decide); have z10 : (10 : Int32).toInt = 10 := qI_10; omega), by (have t_b5 := b5; have t_b10 := b10; have t_b14 := b14; have t_hkk := hkk; have t_hnn := hnn; have t_hj24 := hj24; have t_n27 := n27; have t_c28 := eqI c28; have t_c29 := neI c29; have t_c30 := eqI c30; have t_b34 := b34; have t_c35 := eqI c35; have t_n37 := n37; have tqz_ := qz8_; have tnb_ := nib8 tn2126_ tn2127_ tn2128_ tn2129_ tn2130_ tn2132_ tn2133_ tn2136_; have tqz_ := qz46_; have z4 : (-4 : Int32).toInt = -4 := (by decide); have z10 : (10 : Int32).toInt = 10 := qI_10; omega)⟩, hL.2.2.2.1, hL.2.2.2.2.1, hL.2.2.2.2.2⟩) hP hD hS ls (lv_sub hl [0, 2, 1, 3, 4, 5, 6, 7] rfl)
                        · skip
                          have tn2139_ : nIT (j18 % 2) := fun _ => nI_toInt (by first | omega | (have t := eqI c36; omega))
                          have n38 : (j18 % 2) = 1 := by have t := eqI c36; rw [show (nI (j18 % 2)).toInt = ((j18 % 2 : Nat) : Int) from tn2139_ ()] at t; have : (1 : Int32).toInt = 1 := qI_1; omega
                          refine lv_bipush (v := 40) hx hb dX11_read_141 rfl ?_
                          refine lv_iload_n hx hb dX11_read_143 rfl (lv_at hl 4 rfl) ?_
                          refine lv_imul hx hb dX11_read_144 ?_
                          refine lv_cg (y := nI (40 * kk)) (by rw [show (40 : Int32) = nI 40 from rfl]; exact pk_mul _ _) ?_
                          refine lv_iload_n hx hb dX11_read_145 rfl (lv_at hl 6 rfl) ?_
                          refine lv_iadd hx hb dX11_read_146 ?_
                          refine lv_iload hx hb dX11_read_147 (lv_at hl 1 rfl) ?_
                          refine lv_iadd hx hb dX11_read_149 ?_
                          obtain ⟨cx9, hcx9, hcy9, ecx9, ecz9⟩ := rd_ixE (k := kk) (j := j18) (x := x1) (by omega) (by omega) (by have t_b5 := b5; have t_b10 := b10; have t_b14 := b14; have t_hkk := hkk; have t_hnn := hnn; have t_hj24 := hj24; have t_n27 := n27; have t_c28 := eqI c28; have t_c29 := neI c29; have t_c30 := eqI c30; have t_b34 := b34; have t_c35 := eqI c35; have t_n38 := n38; have tqz_ := qz8_; have tnb_ := nib8 tn2126_ tn2127_ tn2128_ tn2129_ tn2130_ tn2132_ tn2133_ tn2136_; omega) (by have t_b5 := b5; have t_b10 := b10; have t_b14 := b14; have t_hkk := hkk; have t_hnn := hnn; have t_hj24 := hj24; have t_n27 := n27; have t_c28 := eqI c28; have t_c29 := neI c29; have t_c30 := eqI c30; have t_b34 := b34; have t_c35 := eqI c35; have t_n38 := n38; have tqz_ := qz8_; have tnb_ := nib8 tn2126_ tn2127_ tn2128_ tn2129_ tn2130_ tn2132_ tn2133_ tn2136_; omega)
                          have hA9 : fce (cx9 - 1) = (fun q8 : Nat => fce (40 * kk + (x1.toInt + 2 * (q8 : Int) + 0).toNat)) (j18 / 2) := (by have t_b5 := b5; have t_b10 := b10; have t_b14 := b14; have t_hkk := hkk; have t_hnn := hnn; have t_hj24 := hj24; have t_n27 := n27; have t_c28 := eqI c28; have t_c29 := neI c29; have t_c30 := eqI c30; have t_b34 := b34; have t_c35 := eqI c35; have t_n38 := n38; have tqz_ := qz8_; have tnb_ := nib8 tn2126_ tn2127_ tn2128_ tn2129_ tn2130_ tn2132_ tn2133_ tn2136_; have tqz_ := qz46_; have z4 : (-4 : Int32).toInt = -4 := (by decide); have z10 : (10 : Int32).toInt = 10 := qI_10; show fce (cx9 - 1) = fce (40 * kk + (x1.toInt + 2 * ((j18 / 2 : Nat) : Int) + 0).toNat); congr 1; omega)
                          have hB9 : fce cx9 = (fun q8 : Nat => fce (40 * kk + (x1.toInt + 2 * (q8 : Int) + 1).toNat)) (j18 / 2) := (by have t_b5 := b5; have t_b10 := b10; have t_b14 := b14; have t_hkk := hkk; have t_hnn := hnn; have t_hj24 := hj24; have t_n27 := n27; have t_c28 := eqI c28; have t_c29 := neI c29; have t_c30 := eqI c30; have t_b34 := b34; have t_c35 := eqI c35; have t_n38 := n38; have tqz_ := qz8_; have tnb_ := nib8 tn2126_ tn2127_ tn2128_ tn2129_ tn2130_ tn2132_ tn2133_ tn2136_; have tqz_ := qz46_; have z4 : (-4 : Int32).toInt = -4 := (by decide); have z10 : (10 : Int32).toInt = 10 := qI_10; show fce cx9 = fce (40 * kk + (x1.toInt + 2 * ((j18 / 2 : Nat) : Int) + 1).toNat); congr 1; omega)
                          refine lv_cg (y := nI cx9) ecx9 ?_
                          refine lv_istore (lv' := [(8, .int (nI cx9)), (5, .int 0), (7, .int (nI j18)), (6, .int y19), (0, .ref h0), (1, .int (nI kk)), (2, .int lane), (3, .int x1), (4, .int (nI nn))]) hx hb dX11_read_150 hl (by decide) rfl (fun ls hl => ?_)
                          refine lv_aload_n hx hb dX11_read_152 rfl (lv_at hl 4 rfl) ?_
                          refine lv_aload_n hx hb dX11_read_153 rfl (lv_at hl 4 rfl) ?_
                          refine va_get (D := (dC, dI)) (ci := 11) (v := .ref ce) (C := RX11) (T := TX11) (N := 35) hx hb hg inG11 hown hK.1 hP 3 rfl rfl 33 (Nat.le_of_ble_eq_true rfl) (hg _ wt_911) (fun _ h9 => h9) rfl dX11_read_154 ?_
                          refine lv_iload hx hb dX11_read_157 (lv_at hl 0 rfl) ?_
                          refine lv_iconst (v := 1) hx hb dX11_read_159 rfl ?_
                          refine lv_isub hx hb dX11_read_160 ?_
                          have tn2140_ : nIT cx9 := fun _ => nI_toInt (by first | omega | (have t_b5 := b5; have t_b10 := b10; have t_b14 := b14; have t_hkk := hkk; have t_hnn := hnn; have t_hj24 := hj24; have t_n27 := n27; have t_c28 := eqI c28; have t_c29 := neI c29; have t_c30 := eqI c30; have t_b34 := b34; have t_c35 := eqI c35; have t_n38 := n38; have t_hcx9 := hcx9; have t_hcy9 := hcy9; have tqz_ := qz8_; omega))
                          refine lv_cg (y := nI (cx9 - 1)) (by rw [show (1 : Int32) = nI 1 from rfl]; exact pk_sub (by have t_b5 := b5; have t_b10 := b10; have t_b14 := b14; have t_hkk := hkk; have t_hnn := hnn; have t_hj24 := hj24; have t_n27 := n27; have t_c28 := eqI c28; have t_c29 := neI c29; have t_c30 := eqI c30; have t_b34 := b34; have t_c35 := eqI c35; have t_n38 := n38; have t_hcx9 := hcx9; have t_hcy9 := hcy9; have tqz_ := qz8_; have tnb_ := nib9 tn2126_ tn2127_ tn2128_ tn2129_ tn2130_ tn2132_ tn2133_ tn2136_ tn2140_; omega)) ?_
                          refine va_iald hx hb hK.1 hP 2 0 rfl rfl (vp_in_nI (by first | omega | (have t_b5 := b5; have t_b10 := b10; have t_b14 := b14; have t_hkk := hkk; have t_hnn := hnn; have t_hj24 := hj24; have t_n27 := n27; have t_c28 := eqI c28; have t_c29 := neI c29; have t_c30 := eqI c30; have t_b34 := b34; have t_c35 := eqI c35; have t_n38 := n38; have t_hcx9 := hcx9; have t_hcy9 := hcy9; have tqz_ := qz8_; have tnb_ := nib9 tn2126_ tn2127_ tn2128_ tn2129_ tn2130_ tn2132_ tn2133_ tn2136_ tn2140_; omega)) (by decide)) dX11_read_161 ?_
                          refine lv_cg (y := fce (cx9 - 1)) (by rw [nI_clamp (by omega)]) ?_
                          refine lv_aload_n hx hb dX11_read_162 rfl (lv_at hl 4 rfl) ?_
                          refine va_get (D := (dC, dI)) (ci := 11) (v := .ref ce) (C := RX11) (T := TX11) (N := 35) hx hb hg inG11 hown hK.1 hP 3 rfl rfl 33 (Nat.le_of_ble_eq_true rfl) (hg _ wt_911) (fun _ h9 => h9) rfl dX11_read_163 ?_
                          refine lv_iload hx hb dX11_read_166 (lv_at hl 0 rfl) ?_
                          refine va_iald hx hb hK.1 hP 2 0 rfl rfl (vp_in_nI (by first | omega | (have t_b5 := b5; have t_b10 := b10; have t_b14 := b14; have t_hkk := hkk; have t_hnn := hnn; have t_hj24 := hj24; have t_n27 := n27; have t_c28 := eqI c28; have t_c29 := neI c29; have t_c30 := eqI c30; have t_b34 := b34; have t_c35 := eqI c35; have t_n38 := n38; have t_hcx9 := hcx9; have t_hcy9 := hcy9; have tqz_ := qz8_; have tnb_ := nib9 tn2126_ tn2127_ tn2128_ tn2129_ tn2130_ tn2132_ tn2133_ tn2136_ tn2140_; omega)) (by decide)) dX11_read_168 ?_
                          refine lv_cg (y := fce cx9) (by rw [nI_clamp (by omega)]) ?_
                          obtain ⟨hPc, hDc, hFc⟩ := va_sub3 (ws' := [(h0, .inr (11, [.ref st, .int (nI N), .int (nI B), .ref rp, .int vrs, .int vrb, .int vhs, .int vca, .int vxs, .int vxb, .ref tp, .int (nI T), .int vfa, .int vbr, .int vba, .int vsp, .int vhe, .int vtk, .int vva, .ref cu, .ref lt, .ref od, .ref th, .ref be, .ref ln, .int (nI S), .ref ma, .int (nI M), .ref ah, .ref bh, .ref ik, .ref la, .ref lg, .ref ce, .int vto])), (st, .inl (G 0, 196, .inl g21))]) hP hD hS hA [3, 4] (by decide +kernel) rfl
                          refine va_calli (va_runV (As := [.int (fce (cx9 - 1)), .int (fce cx9)]) (rest := []) ⟨hx, hb, hml, hown, hg⟩ (c_X11_putsO l dC dI G _ h0 st N B rp tp T cu lt od th be ln S ma M ah bh ik la lg ce (fce (cx9 - 1)) (fce cx9) vrs vrb vhs vca vxs vxb vfa vbr vba vsp vhe vtk vva vto g21 hN hB_ hT_ hS0 hM_ hL.2.2.2.2.1) (kwV hg mfX11_puts wt_1094 ⟨Nat.le_of_ble_eq_true rfl, Nat.le_of_ble_eq_true rfl⟩) (preVW hK hPc hDc (ci := 11) (r := (RX11, TX11, 35)) rfl rfl) rfl rfl hl.1 rfl (lv_room (Nat.le_of_ble_eq_true rfl)) dX11_read_169 ⟨Nat.le_of_ble_eq_true rfl, Nat.le_of_ble_eq_true rfl⟩) hS (fun q _ h => hFc q h) hFc (fun r39 ur39 t H1 locs ht hvm w40 hB hz1 hk1 hS => ?_)
                          obtain ⟨u41, rfl⟩ : ∃ z, z = ur39 := ⟨_, rfl⟩
                          obtain ⟨hP1, hD1⟩ := hB
                          rw [ht] at hP1
                          obtain ⟨hP, hD⟩ := va_join (wr := [(la, .inl (G 0, 4, .inl fla)), (lg, .inl (G 0, 4, .inl flg)), (ce, .inl (G 0, 160, .inl fce))]) (w1 := [(h0, .inr (11, [.ref st, .int (nI N), .int (nI B), .ref rp, .int vrs, .int vrb, .int vhs, .int vca, .int vxs, .int vxb, .ref tp, .int (nI T), .int vfa, .int vbr, .int vba, .int vsp, .int vhe, .int vtk, .int vva, .ref cu, .ref lt, .ref od, .ref th, .ref be, .ref ln, .int (nI S), .ref ma, .int (nI M), .ref ah, .ref bh, .ref ik, .ref la, .ref lg, .ref ce, .int vto])), (st, .inl (G 0, 196, .inl u41))]) hP hD [3, 4] [0, 1, 2] rfl rfl (by decide +kernel) (by decide +kernel) hk1 hFc hP1 hD1
                          generalize H1 = H at hP hS ⊢
                          obtain ⟨w40, w40x⟩ := w40
                          have hnow40 : r39.toInt < 0 → ¬ ((0 ≤ (fce (cx9 - 1)).toInt ∧ (fce (cx9 - 1)).toInt < ((N : Nat) : Int)) ∧ (0 ≤ (fce cx9).toInt ∧ (fce cx9).toInt < ((B : Nat) : Int))) := (fun h9 c9 => pu_no w40 h9 (by have b9 := ck_lt c9.1; have k9 := (hL.2.2.2.2.1 (38 + (fce (cx9 - 1)).toNatClampNeg) (by omega)).2.1 (by omega) (by omega); exact k9.1) c9)
                          refine lv_if_ge (tgt := 189) hx hb dX11_read_172 rfl (fun c42 => ?_) (fun c42 => ?_)
                          · skip
                            refine lv_iinc (v := y19 + 1) (lv' := [(6, .int (y19 + 1)), (8, .int (nI cx9)), (5, .int 0), (7, .int (nI j18)), (0, .ref h0), (1, .int (nI kk)), (2, .int lane), (3, .int x1), (4, .int (nI nn))]) hx hb dX11_read_189 hl (k := 3) rfl (rfl) (by decide) rfl (fun ls hl => ?_)
                            refine lv_iinc (v := nI (j18 + 1)) (lv' := [(7, .int (nI (j18 + 1))), (6, .int (y19 + 1)), (8, .int (nI cx9)), (5, .int 0), (0, .ref h0), (1, .int (nI kk)), (2, .int lane), (3, .int x1), (4, .int (nI nn))]) hx hb dX11_read_192 hl (k := 3) rfl (by rw [show Int32.ofInt 1 = nI 1 from by decide]; exact nI_add _ _) (by decide) rfl (fun ls hl => ?_)
                            refine lv_goto (tgt := 56) hx hb dX11_read_195 rfl ?_
                            exact ih56_22 (j18 + 1) (by omega) (by omega) (y19 + 1) 0 u41 _ _ (by have hh : (j18 + 1) / 2 = j18 / 2 + 1 := (by (have t_b5 := b5; have t_b10 := b10; have t_b14 := b14; have t_hkk := hkk; have t_hnn := hnn; have t_hj24 := hj24; have t_n27 := n27; have t_c28 := eqI c28; have t_c29 := neI c29; have t_c30 := eqI c30; have t_b34 := b34; have t_c35 := eqI c35; have t_n38 := n38; have t_hcx9 := hcx9; have t_hcy9 := hcy9; have t_c42 := leI c42; have tqz_ := qz8_; have tnb_ := nib9 tn2126_ tn2127_ tn2128_ tn2129_ tn2130_ tn2132_ tn2133_ tn2136_ tn2140_; have tqz_ := qz46_; have z4 : (-4 : Int32).toInt = -4 := (by decide); have z10 : (10 : Int32).toInt = 10 := qI_10; omega)); have hA := hA9; have hB := hB9; have hok := pu_ok w40 (by (have t_b5 := b5; have t_b10 := b10; have t_b14 := b14; have t_hkk := hkk; have t_hnn := hnn; have t_hj24 := hj24; have t_n27 := n27; have t_c28 := eqI c28; have t_c29 := neI c29; have t_c30 := eqI c30; have t_b34 := b34; have t_c35 := eqI c35; have t_n38 := n38; have t_hcx9 := hcx9; have t_hcy9 := hcy9; have t_c42 := leI c42; have tqz_ := qz8_; have tnb_ := nib9 tn2126_ tn2127_ tn2128_ tn2129_ tn2130_ tn2132_ tn2133_ tn2136_ tn2140_; have tqz_ := qz46_; have z4 : (-4 : Int32).toInt = -4 := (by decide); have z10 : (10 : Int32).toInt = 10 := qI_10; omega)); rw [hh]; refine Or.inl ⟨by decide, by rw [hL.2.1, ← nI_succ], Or.inr ⟨by assumption, by (have t_b5 := b5; have t_b10 := b10; have t_b14 := b14; have t_hkk := hkk; have t_hnn := hnn; have t_hj24 := hj24; have t_n27 := n27; have t_c28 := eqI c28; have t_c29 := neI c29; have t_c30 := eqI c30; have t_b34 := b34; have t_c35 := eqI c35; have t_n38 := n38; have t_hcx9 := hcx9; have t_hcy9 := hcy9; have t_c42 := leI c42; have tqz_ := qz8_; have tnb_ := nib9 tn2126_ tn2127_ tn2128_ tn2129_ tn2130_ tn2132_ tn2133_ tn2136_ tn2140_; have tqz_ := qz46_; have z4 : (-4 : Int32).toInt = -4 := (by decide); have z10 : (10 : Int32).toInt = 10 := qI_10; omega), by (have t_b5 := b5; have t_b10 := b10; have t_b14 := b14; have t_hkk := hkk; have t_hnn := hnn; have t_hj24 := hj24; have t_n27 := n27; have t_c28 := eqI c28; have t_c29 := neI c29; have t_c30 := eqI c30; have t_b34 := b34; have t_c35 := eqI c35; have t_n38 := n38; have t_hcx9 := hcx9; have t_hcy9 := hcy9; have t_c42 := leI c42; have tqz_ := qz8_; have tnb_ := nib9 tn2126_ tn2127_ tn2128_ tn2129_ tn2130_ tn2132_ tn2133_ tn2136_ tn2140_; have tqz_ := qz46_; have z4 : (-4 : Int32).toInt = -4 := (by decide); have z10 : (10 : Int32).toInt = 10 := qI_10; omega)⟩, fun q9 h9 => ?_, w40x.1, ?_⟩; (by_cases e9 : q9 = j18 / 2; (rw [e9, ← hA, ← hB]; exact hok); exact hL.2.2.2.1 q9 (by (have t_b5 := b5; have t_b10 := b10; have t_b14 := b14; have t_hkk := hkk; have t_hnn := hnn; have t_hj24 := hj24; have t_n27 := n27; have t_c28 := eqI c28; have t_c29 := neI c29; have t_c30 := eqI c30; have t_b34 := b34; have t_c35 := eqI c35; have t_n38 := n38; have t_hcx9 := hcx9; have t_hcy9 := hcy9; have t_c42 := leI c42; have tqz_ := qz8_; have tnb_ := nib9 tn2126_ tn2127_ tn2128_ tn2129_ tn2130_ tn2132_ tn2133_ tn2136_ tn2140_; have tqz_ := qz46_; have z4 : (-4 : Int32).toInt = -4 := (by decide); have z10 : (10 : Int32).toInt = 10 := qI_10; omega))); (rw [w40x.2, if_pos hok, hA, hB]; exact hL.2.2.2.2.2.put (by have b9 := ck_lt hok.1; rw [hA] at b9; exact Nat.lt_of_lt_of_le b9 (by (have t_b5 := b5; have t_b10 := b10; have t_b14 := b14; have t_hkk := hkk; have t_hnn := hnn; have t_hj24 := hj24; have t_n27 := n27; have t_c28 := eqI c28; have t_c29 := neI c29; have t_c30 := eqI c30; have t_b34 := b34; have t_c35 := eqI c35; have t_n38 := n38; have t_hcx9 := hcx9; have t_hcy9 := hcy9; have t_c42 := leI c42; have tqz_ := qz8_; have tnb_ := nib9 tn2126_ tn2127_ tn2128_ tn2129_ tn2130_ tn2132_ tn2133_ tn2136_ tn2140_; have tqz_ := qz46_; have z4 : (-4 : Int32).toInt = -4 := (by decide); have z10 : (10 : Int32).toInt = 10 := qI_10; omega))))) hP hD hS ls (lv_sub hl [0, 1, 3, 4, 5, 6, 7, 8] rfl)
                          · skip
                            refine lv_aload_n hx hb dX11_read_175 rfl (lv_at hl 4 rfl) ?_
                            refine lv_sipush (v := 147) hx hb dX11_read_176 rfl ?_
                            refine lv_iconst (v := 0) hx hb dX11_read_179 rfl ?_
                            obtain ⟨hPc, hDc, hFc⟩ := va_sub3 (ws' := [(h0, .inr (11, [.ref st, .int (nI N), .int (nI B), .ref rp, .int vrs, .int vrb, .int vhs, .int vca, .int vxs, .int vxb, .ref tp, .int (nI T), .int vfa, .int vbr, .int vba, .int vsp, .int vhe, .int vtk, .int vva, .ref cu, .ref lt, .ref od, .ref th, .ref be, .ref ln, .int (nI S), .ref ma, .int (nI M), .ref ah, .ref bh, .ref ik, .ref la, .ref lg, .ref ce, .int vto])), (st, .inl (G 0, 196, .inl u41))]) hP hD hS hA [3, 4] (by decide +kernel) rfl
                            refine va_callv (va_runV (As := [.int 147, .int 0]) (rest := []) ⟨hx, hb, hml, hown, hg⟩ (c_X11_copiesW l dC dI G _ h0 147 0 st N B rp tp T cu lt od th be ln S ma M ah bh ik la lg ce vrs vrb vhs vca vxs vxb vfa vbr vba vsp vhe vtk vva vto u41 hN hB_ hT_ hS0 hM_ w40x.1 (by first | omega | (have t_b5 := b5; have t_b10 := b10; have t_b14 := b14; have t_hkk := hkk; have t_hnn := hnn; have t_hj24 := hj24; have t_n27 := n27; have t_c28 := eqI c28; have t_c29 := neI c29; have t_c30 := eqI c30; have t_b34 := b34; have t_c35 := eqI c35; have t_n38 := n38; have t_hcx9 := hcx9; have t_hcy9 := hcy9; have t_c42 := nleI c42; have tqz_ := qz8_; have tnb_ := nib9 tn2126_ tn2127_ tn2128_ tn2129_ tn2130_ tn2132_ tn2133_ tn2136_ tn2140_; omega)) (by first | omega | (have t_b5 := b5; have t_b10 := b10; have t_b14 := b14; have t_hkk := hkk; have t_hnn := hnn; have t_hj24 := hj24; have t_n27 := n27; have t_c28 := eqI c28; have t_c29 := neI c29; have t_c30 := eqI c30; have t_b34 := b34; have t_c35 := eqI c35; have t_n38 := n38; have t_hcx9 := hcx9; have t_hcy9 := hcy9; have t_c42 := nleI c42; have tqz_ := qz8_; have tnb_ := nib9 tn2126_ tn2127_ tn2128_ tn2129_ tn2130_ tn2132_ tn2133_ tn2136_ tn2140_; omega)) (by first | omega | (have t_b5 := b5; have t_b10 := b10; have t_b14 := b14; have t_hkk := hkk; have t_hnn := hnn; have t_hj24 := hj24; have t_n27 := n27; have t_c28 := eqI c28; have t_c29 := neI c29; have t_c30 := eqI c30; have t_b34 := b34; have t_c35 := eqI c35; have t_n38 := n38; have t_hcx9 := hcx9; have t_hcy9 := hcy9; have t_c42 := nleI c42; have tqz_ := qz8_; have tnb_ := nib9 tn2126_ tn2127_ tn2128_ tn2129_ tn2130_ tn2132_ tn2133_ tn2136_ tn2140_; omega))) (kwV hg mfX11_copies wt_1248 ⟨Nat.le_of_ble_eq_true rfl, Nat.le_of_ble_eq_true rfl⟩) (preVW hK hPc hDc (ci := 11) (r := (RX11, TX11, 35)) rfl rfl) rfl rfl hl.1 rfl (lv_room (Nat.le_of_ble_eq_true rfl)) dX11_read_180 ⟨Nat.le_of_ble_eq_true rfl, Nat.le_of_ble_eq_true rfl⟩) hS (fun q _ h => hFc q h) hFc (fun ur43 t H1 locs ht hvm w44 hB hz1 hk1 hS => ?_)
                            obtain ⟨u45, rfl⟩ : ∃ z, z = ur43 := ⟨_, rfl⟩
                            obtain ⟨hP1, hD1⟩ := hB
                            rw [ht] at hP1
                            obtain ⟨hP, hD⟩ := va_join (wr := [(la, .inl (G 0, 4, .inl fla)), (lg, .inl (G 0, 4, .inl flg)), (ce, .inl (G 0, 160, .inl fce))]) (w1 := [(h0, .inr (11, [.ref st, .int (nI N), .int (nI B), .ref rp, .int vrs, .int vrb, .int vhs, .int vca, .int vxs, .int vxb, .ref tp, .int (nI T), .int vfa, .int vbr, .int vba, .int vsp, .int vhe, .int vtk, .int vva, .ref cu, .ref lt, .ref od, .ref th, .ref be, .ref ln, .int (nI S), .ref ma, .int (nI M), .ref ah, .ref bh, .ref ik, .ref la, .ref lg, .ref ce, .int vto])), (st, .inl (G 0, 196, .inl u45))]) hP hD [3, 4] [0, 1, 2] rfl rfl (by decide +kernel) (by decide +kernel) hk1 hFc hP1 hD1
                            have w44 : OKS u45 ∧ u45 = cpj 147 0 49 u41 := w44
                            generalize H1 = H at hP hS ⊢
                            refine lv_bipush (v := (-20)) hx hb dX11_read_183 rfl ?_
                            refine lv_iload hx hb dX11_read_185 (lv_at hl 3 rfl) ?_
                            refine lv_isub hx hb dX11_read_187 ?_
                            have hpost : ((-20) - y19 : Int32) = if ((0 ≤ (nI kk).toInt ∧ (nI kk).toInt < 4) ∧ (0 ≤ lane.toInt ∧ lane.toInt ≤ 2) ∧ 0 ≤ (nI nn).toInt ∧ (nI nn).toInt ≤ 20) then rdR N B (fun q8 : Nat => fce (40 * (nI kk).toNatClampNeg + (x1.toInt + 2 * (q8 : Int) + 0).toNat)) (fun q8 : Nat => fce (40 * (nI kk).toNatClampNeg + (x1.toInt + 2 * (q8 : Int) + 1).toNat)) (tpK (fla (nI kk).toNatClampNeg) lane (flg (nI kk).toNatClampNeg).toInt x1.toInt (nI nn).toNatClampNeg) else -1 := by
                              have t_b5 := b5
                              have t_b10 := b10
                              have t_b14 := b14
                              have t_hkk := hkk
                              have t_hnn := hnn
                              have t_hj24 := hj24
                              have t_n27 := n27
                              have t_c28 := eqI c28
                              have t_c29 := neI c29
                              have t_c30 := eqI c30
                              have t_b34 := b34
                              have t_c35 := eqI c35
                              have t_n38 := n38
                              have t_hcx9 := hcx9
                              have t_hcy9 := hcy9
                              have t_c42 := nleI c42
                              have : ((-4) : Int32).toInt = -4 := qI_m4
                              have : (0 : Int32).toInt = 0 := qI_0
                              have t_n0 : (nI N).toInt = (N : Int) := tn2126_ ()
                              have t_n1 : (nI B).toInt = (B : Int) := tn2127_ ()
                              have t_n2 : (nI T).toInt = (T : Int) := tn2128_ ()
                              have t_n3 : (nI S).toInt = (S : Int) := tn2129_ ()
                              have t_n4 : (nI M).toInt = (M : Int) := tn2130_ ()
                              have t_n5 : (nI kk).toInt = (kk : Int) := tn2132_ ()
                              have t_n6 : (nI nn).toInt = (nn : Int) := tn2133_ ()
                              have t_n7 : (nI j18).toInt = (j18 : Int) := tn2136_ ()
                              have t_n8 : (nI cx9).toInt = (cx9 : Int) := tn2140_ ()
                              have z0 : (0 : Int32).toInt = 0 := qI_0
                              have z1 : (1 : Int32).toInt = 1 := qI_1
                              have z2 : (2 : Int32).toInt = 2 := qI_2
                              have z3 : (3 : Int32).toInt = 3 := qI_3
                              have z5 : (5 : Int32).toInt = 5 := qI_5
                              have z9 : (9 : Int32).toInt = 9 := qI_9
                              have z20 : (20 : Int32).toInt = 20 := qI_20
                              have z4 : (-4 : Int32).toInt = -4 := (by decide)
                              have z10 : (10 : Int32).toInt = 10 := qI_10
                              rw [if_pos (by omega), nI_clamp (by omega), nI_clamp (by omega)]
                              unfold rdR
                              have hno9 := hnow40 (by omega)
                              have hlt9 : j18 / 2 < (tpK (fla kk) lane (flg kk).toInt x1.toInt nn) := (by unfold tpK; rw [if_pos (by first | with_reducible assumption | assumption)]; have q9 := tpM_le9 (z := (flg kk).toInt) (f := x1.toInt) (n := nn) (p := j18 / 2) (by omega) (fun q9 h9 => by rcases hLr with g9 | g9; omega; exact ⟨by omega, by omega⟩); omega)
                              have hI9 := rdI_eq (N := N) (B := B) (a := (fun q8 : Nat => fce (40 * kk + (x1.toInt + 2 * (q8 : Int) + 0).toNat))) (b := (fun q8 : Nat => fce (40 * kk + (x1.toInt + 2 * (q8 : Int) + 1).toNat))) (m := (tpK (fla kk) lane (flg kk).toInt x1.toInt nn)) (p := j18 / 2) (by omega) hL.2.2.2.1 (fun _ h9 => hno9 (by rw [hA9, hB9]; exact h9))
                              rw [hI9, if_pos hlt9, hL.2.1]
                            obtain ⟨hP9, hD9⟩ := va_sub2 (ws' := [(h0, .inr (11, [.ref st, .int (nI N), .int (nI B), .ref rp, .int vrs, .int vrb, .int vhs, .int vca, .int vxs, .int vxb, .ref tp, .int (nI T), .int vfa, .int vbr, .int vba, .int vsp, .int vhe, .int vtk, .int vva, .ref cu, .ref lt, .ref od, .ref th, .ref be, .ref ln, .int (nI S), .ref ma, .int (nI M), .ref ah, .ref bh, .ref ik, .ref la, .ref lg, .ref ce, .int vto])), (st, .inl (G 0, 196, .inl u45)), (la, .inl (G 0, 4, .inl fla)), (lg, .inl (G 0, 4, .inl flg)), (ce, .inl (G 0, 160, .inl fce))]) hP hD [3, 4, 0, 1, 2] (by decide +kernel) rfl
                            refine W.widen (k := 0) (n := 0) (Nat.le_of_ble_eq_true rfl) (Nat.le_of_ble_eq_true rfl) ?_
                            exact W.iret (v := (-20) - y19) hx hb hr (fun t ht hW => ⟨⟨(-20) - y19, (u45, vto), rfl, ⟨hpost, (by clear hpost; have t_b5 := b5; have t_b10 := b10; have t_b14 := b14; have t_hkk := hkk; have t_hnn := hnn; have t_hj24 := hj24; have t_n27 := n27; have t_c28 := eqI c28; have t_c29 := neI c29; have t_c30 := eqI c30; have t_b34 := b34; have t_c35 := eqI c35; have t_n38 := n38; have t_hcx9 := hcx9; have t_hcy9 := hcy9; have t_c42 := nleI c42; have tqz_ := qz8_; have tnb_ := nib9 tn2126_ tn2127_ tn2128_ tn2129_ tn2130_ tn2132_ tn2133_ tn2136_ tn2140_; have tqz_ := qz46_; have z4 : (-4 : Int32).toInt = -4 := (by decide); have z10 : (10 : Int32).toInt = 10 := qI_10; have hno9 := hnow40 (by omega); have hlt9 : j18 / 2 < (tpK (fla kk) lane (flg kk).toInt x1.toInt nn) := (by unfold tpK; rw [if_pos (by first | with_reducible assumption | assumption)]; have q9 := tpM_le9 (z := (flg kk).toInt) (f := x1.toInt) (n := nn) (p := j18 / 2) (by omega) (fun q9 h9 => by rcases hLr with g9 | g9; omega; exact ⟨by omega, by omega⟩); omega); have hI9 := rdI_eq (N := N) (B := B) (a := (fun q8 : Nat => fce (40 * kk + (x1.toInt + 2 * (q8 : Int) + 0).toNat))) (b := (fun q8 : Nat => fce (40 * kk + (x1.toInt + 2 * (q8 : Int) + 1).toNat))) (m := (tpK (fla kk) lane (flg kk).toInt x1.toInt nn)) (p := j18 / 2) (by omega) hL.2.2.2.1 (fun _ h9 => hno9 (by rw [hA9, hB9]; exact h9)); have hz9 : RDJ fst u41 (fun q8 : Nat => fce (40 * kk + (x1.toInt + 2 * (q8 : Int) + 0).toNat)) (fun q8 : Nat => fce (40 * kk + (x1.toInt + 2 * (q8 : Int) + 1).toNat)) (j18 / 2) := (by have e9 := w40x.2; rw [if_neg (hno9)] at e9; rw [e9]; exact hL.2.2.2.2.2); refine ⟨w44.1, (fun x9 h8 _ => by rw [w44.2]; exact hz9.back x9 h8), (fun x9 h9 => by rw [if_pos (by omega), nI_clamp (by omega), nI_clamp (by omega)]; unfold rdF; rw [hI9, if_pos hlt9, w44.2]; exact hz9.back (38 + x9) (by omega))⟩)⟩, ⟨by rw [ht]; exact hP9, hD9⟩⟩, hS.F ht⟩) hS.2.2 dX11_read_188
                    · skip
                      have b46 := if10_n c33
                      refine lv_iconst (v := 2) hx hb dX11_read_121 rfl ?_
                      refine lv_goto (tgt := 126) hx hb dX11_read_122 rfl ?_
                      refine lv_istore (lv' := [(5, .int 2), (7, .int (nI j18)), (6, .int y19), (0, .ref h0), (1, .int (nI kk)), (2, .int lane), (3, .int x1), (4, .int (nI nn))]) hx hb dX11_read_126 hl (by decide) rfl (fun ls hl => ?_)
                      refine lv_iload hx hb dX11_read_128 (lv_at hl 0 rfl) ?_
                      refine lv_if_ne (tgt := 192) hx hb dX11_read_130 rfl (fun c47 => ?_) (fun c47 => ?_)
                      · skip
                        refine lv_iinc (v := nI (j18 + 1)) (lv' := [(7, .int (nI (j18 + 1))), (5, .int 2), (6, .int y19), (0, .ref h0), (1, .int (nI kk)), (2, .int lane), (3, .int x1), (4, .int (nI nn))]) hx hb dX11_read_192 hl (k := 1) rfl (by rw [show Int32.ofInt 1 = nI 1 from by decide]; exact nI_add _ _) (by decide) rfl (fun ls hl => ?_)
                        refine lv_goto (tgt := 56) hx hb dX11_read_195 rfl ?_
                        exact ih56_22 (j18 + 1) (by omega) (by omega) y19 2 g21 _ _ (by have t_b5 := b5; have t_b10 := b10; have t_b14 := b14; have t_hkk := hkk; have t_hnn := hnn; have t_hj24 := hj24; have t_n27 := n27; have t_c28 := eqI c28; have t_c29 := neI c29; have t_c30 := eqI c30; have t_b46 := b46; have t_c47 := neI c47; have tqz_ := qz48_; have tnb_ := nib8 tn2126_ tn2127_ tn2128_ tn2129_ tn2130_ tn2132_ tn2133_ tn2136_; have tqz_ := qz46_; have z4 : (-4 : Int32).toInt = -4 := (by decide); have z10 : (10 : Int32).toInt = 10 := qI_10; have hm : (tpK (fla kk) lane (flg kk).toInt x1.toInt nn) = j18 / 2 := (by unfold tpK; rw [if_pos (by first | with_reducible assumption | assumption)]; exact tpM_eq (by omega) (fun q9 h9 => by rcases hLr with g9 | g9; omega; exact ⟨by omega, by omega⟩) (fun h9 g8 => by rcases hLr with g9 | g9 <;> omega)); rw [hm]; exact Or.inr ⟨by decide, hL.2.1, by omega, hL.2.2.2.1, hL.2.2.2.2.1, hL.2.2.2.2.2⟩) hP hD hS ls (lv_sub hl [0, 2, 1, 3, 4, 5, 6, 7] rfl)
                      · skip
                        exact absurd c47 (by decide)
                  · skip
                    refine lv_iconst (v := 3) hx hb dX11_read_95 rfl ?_
                    refine lv_goto (tgt := 126) hx hb dX11_read_96 rfl ?_
                    refine lv_istore (lv' := [(5, .int 3), (7, .int (nI j18)), (6, .int y19), (0, .ref h0), (1, .int (nI kk)), (2, .int lane), (3, .int x1), (4, .int (nI nn))]) hx hb dX11_read_126 hl (by decide) rfl (fun ls hl => ?_)
                    refine lv_iload hx hb dX11_read_128 (lv_at hl 0 rfl) ?_
                    refine lv_if_ne (tgt := 192) hx hb dX11_read_130 rfl (fun c48 => ?_) (fun c48 => ?_)
                    · skip
                      refine lv_iinc (v := nI (j18 + 1)) (lv' := [(7, .int (nI (j18 + 1))), (5, .int 3), (6, .int y19), (0, .ref h0), (1, .int (nI kk)), (2, .int lane), (3, .int x1), (4, .int (nI nn))]) hx hb dX11_read_192 hl (k := 1) rfl (by rw [show Int32.ofInt 1 = nI 1 from by decide]; exact nI_add _ _) (by decide) rfl (fun ls hl => ?_)
                      refine lv_goto (tgt := 56) hx hb dX11_read_195 rfl ?_
                      exact ih56_22 (j18 + 1) (by omega) (by omega) y19 3 g21 _ _ (by have t_b5 := b5; have t_b10 := b10; have t_b14 := b14; have t_hkk := hkk; have t_hnn := hnn; have t_hj24 := hj24; have t_n27 := n27; have t_c28 := eqI c28; have t_c29 := neI c29; have t_c30 := neI c30; have t_c48 := neI c48; have tqz_ := qz49_; have tnb_ := nib8 tn2126_ tn2127_ tn2128_ tn2129_ tn2130_ tn2132_ tn2133_ tn2136_; have tqz_ := qz46_; have z4 : (-4 : Int32).toInt = -4 := (by decide); have z10 : (10 : Int32).toInt = 10 := qI_10; have hne : ¬ fla kk = lane := (by first | assumption | (intro e9; have e8 : fla kk = -4 := (by first | with_reducible assumption | assumption); rw [e8] at e9; have e7 := congrArg Int32.toInt e9; omega)); have hj0 : j18 = 0 := (by rcases hLr with g9 | g9; exact g9; exact absurd g9.1 hne); have hm : (tpK (fla kk) lane (flg kk).toInt x1.toInt nn) = j18 / 2 := (by unfold tpK; rw [if_neg hne, hj0]); rw [hm]; exact Or.inr ⟨by decide, hL.2.1, by omega, hL.2.2.2.1, hL.2.2.2.2.1, hL.2.2.2.2.2⟩) hP hD hS ls (lv_sub hl [0, 2, 1, 3, 4, 5, 6, 7] rfl)
                    · skip
                      exact absurd c48 (by decide)
                · skip
                  refine lv_iconst (v := 1) hx hb dX11_read_81 rfl ?_
                  refine lv_goto (tgt := 126) hx hb dX11_read_82 rfl ?_
                  refine lv_istore (lv' := [(5, .int 1), (7, .int (nI j18)), (6, .int y19), (0, .ref h0), (1, .int (nI kk)), (2, .int lane), (3, .int x1), (4, .int (nI nn))]) hx hb dX11_read_126 hl (by decide) rfl (fun ls hl => ?_)
                  refine lv_iload hx hb dX11_read_128 (lv_at hl 0 rfl) ?_
                  refine lv_if_ne (tgt := 192) hx hb dX11_read_130 rfl (fun c49 => ?_) (fun c49 => ?_)
                  · skip
                    refine lv_iinc (v := nI (j18 + 1)) (lv' := [(7, .int (nI (j18 + 1))), (5, .int 1), (6, .int y19), (0, .ref h0), (1, .int (nI kk)), (2, .int lane), (3, .int x1), (4, .int (nI nn))]) hx hb dX11_read_192 hl (k := 1) rfl (by rw [show Int32.ofInt 1 = nI 1 from by decide]; exact nI_add _ _) (by decide) rfl (fun ls hl => ?_)
                    refine lv_goto (tgt := 56) hx hb dX11_read_195 rfl ?_
                    exact ih56_22 (j18 + 1) (by omega) (by omega) y19 1 g21 _ _ (by have t_b5 := b5; have t_b10 := b10; have t_b14 := b14; have t_hkk := hkk; have t_hnn := hnn; have t_hj24 := hj24; have t_n27 := n27; have t_c28 := eqI c28; have t_c29 := eqI c29; have t_c49 := neI c49; have tqz_ := qz40_; have tnb_ := nib8 tn2126_ tn2127_ tn2128_ tn2129_ tn2130_ tn2132_ tn2133_ tn2136_; have tqz_ := qz46_; have z4 : (-4 : Int32).toInt = -4 := (by decide); have z10 : (10 : Int32).toInt = 10 := qI_10; have hne : ¬ fla kk = lane := (by first | assumption | (intro e9; have e8 : fla kk = -4 := (by first | with_reducible assumption | assumption); rw [e8] at e9; have e7 := congrArg Int32.toInt e9; omega)); have hj0 : j18 = 0 := (by rcases hLr with g9 | g9; exact g9; exact absurd g9.1 hne); have hm : (tpK (fla kk) lane (flg kk).toInt x1.toInt nn) = j18 / 2 := (by unfold tpK; rw [if_neg hne, hj0]); rw [hm]; exact Or.inr ⟨by decide, hL.2.1, by omega, hL.2.2.2.1, hL.2.2.2.2.1, hL.2.2.2.2.2⟩) hP hD hS ls (lv_sub hl [0, 2, 1, 3, 4, 5, 6, 7] rfl)
                  · skip
                    exact absurd c49 (by decide)
        exact loop56_22 ((2 * nn) + 1) 0 (by omega) (by omega) 0 0 u17 _ _ (Or.inl ⟨by decide, rfl, Or.inl rfl, fun q9 h9 => absurd h9 (Nat.not_lt_zero _), w16.1, (by rw [w16.2]; exact RDJ.zero)⟩) hP hD hS ls (lv_sub hl [0, 1, 2, 3, 4, 5, 6, 7] rfl)
      · skip
        have b50 := if10_n c13
        refine lv_iconst (v := (-1)) hx hb dX11_read_37 rfl ?_
        have hpost : ((-1) : Int32) = if ((0 ≤ k.toInt ∧ k.toInt < 4) ∧ (0 ≤ lane.toInt ∧ lane.toInt ≤ 2) ∧ 0 ≤ n.toInt ∧ n.toInt ≤ 20) then rdR N B (fun q8 : Nat => fce (40 * k.toNatClampNeg + (x1.toInt + 2 * (q8 : Int) + 0).toNat)) (fun q8 : Nat => fce (40 * k.toNatClampNeg + (x1.toInt + 2 * (q8 : Int) + 1).toNat)) (tpK (fla k.toNatClampNeg) lane (flg k.toNatClampNeg).toInt x1.toInt n.toNatClampNeg) else -1 := by
          have t_b5 := b5
          have t_b10 := b10
          have t_b50 := b50
          have t_n0 : (nI N).toInt = (N : Int) := tn2126_ ()
          have t_n1 : (nI B).toInt = (B : Int) := tn2127_ ()
          have t_n2 : (nI T).toInt = (T : Int) := tn2128_ ()
          have t_n3 : (nI S).toInt = (S : Int) := tn2129_ ()
          have t_n4 : (nI M).toInt = (M : Int) := tn2130_ ()
          have z0 : (0 : Int32).toInt = 0 := qI_0
          have z1 : (1 : Int32).toInt = 1 := qI_1
          have z2 : (2 : Int32).toInt = 2 := qI_2
          have z3 : (3 : Int32).toInt = 3 := qI_3
          have z5 : (5 : Int32).toInt = 5 := qI_5
          have z9 : (9 : Int32).toInt = 9 := qI_9
          have z20 : (20 : Int32).toInt = 20 := qI_20
          have z4 : (-4 : Int32).toInt = -4 := (by decide)
          have z10 : (10 : Int32).toInt = 10 := qI_10
          rw [if_neg (by omega)]
        obtain ⟨hP9, hD9⟩ := va_sub2 (ws' := [(h0, .inr (11, [.ref st, .int (nI N), .int (nI B), .ref rp, .int vrs, .int vrb, .int vhs, .int vca, .int vxs, .int vxb, .ref tp, .int (nI T), .int vfa, .int vbr, .int vba, .int vsp, .int vhe, .int vtk, .int vva, .ref cu, .ref lt, .ref od, .ref th, .ref be, .ref ln, .int (nI S), .ref ma, .int (nI M), .ref ah, .ref bh, .ref ik, .ref la, .ref lg, .ref ce, .int vto])), (st, .inl (G 0, 196, .inl fst)), (la, .inl (G 0, 4, .inl fla)), (lg, .inl (G 0, 4, .inl flg)), (ce, .inl (G 0, 160, .inl fce))]) hP hD [0, 1, 2, 3, 4] (by decide +kernel) rfl
        refine W.widen (k := 0) (n := 0) (Nat.le_of_ble_eq_true rfl) (Nat.le_of_ble_eq_true rfl) ?_
        exact W.iret (v := (-1)) hx hb hr (fun t ht hW => ⟨⟨(-1), (fst, vto), rfl, ⟨hpost, ⟨hst, NO.rf.n3, (by have t_b5 := b5; have t_b10 := b10; have t_b50 := b50; have tnb_ := nib5 tn2126_ tn2127_ tn2128_ tn2129_ tn2130_; have tqz_ := qz46_; have z4 : (-4 : Int32).toInt = -4 := (by decide); have z10 : (10 : Int32).toInt = 10 := qI_10; intro x9 h9; rw [if_neg (by omega)])⟩⟩, ⟨by rw [ht]; exact hP9, hD9⟩⟩, hS.F ht⟩) hS.2.2 dX11_read_38

def nrw (L v : Int32) : Int32 := if L = 0 then v.toInt8.toInt32 else if L = 1 then v.toInt16.toInt32 else v
def nrR (L v : Int32) : Int32 := if L = 0 then (v <<< ((24 : Int32) &&& 31)) >>> ((24 : Int32) &&& 31) else if L = 1 then (v <<< ((16 : Int32) &&& 31)) >>> ((16 : Int32) &&& 31) else v
theorem bv_8 (x : BitVec 32) : (x.signExtend 8).signExtend 32 = (x <<< 24).sshiftRight 24 := by
  apply BitVec.eq_of_getLsbD_eq
  intro i hi
  rw [BitVec.getLsbD_signExtend, BitVec.getLsbD_sshiftRight]
  by_cases h : i < 8
  · rw [if_pos h, if_pos (by omega), BitVec.getLsbD_signExtend, if_pos (by omega), BitVec.getLsbD_shiftLeft]
    simp [hi, show 24 + i < 32 by omega, show i < 8 from h, show ¬ 32 ≤ i by omega, show ¬ 24 + i < 24 by omega]
  · rw [if_neg h]
    by_cases g : 24 + i < 32
    · omega
    · rw [if_neg g]
      simp [hi, show ¬ 32 ≤ i by omega, BitVec.msb_eq_getLsbD_last, BitVec.getLsbD_signExtend, BitVec.getElem_signExtend, BitVec.getLsbD_shiftLeft]
theorem bv_16 (x : BitVec 32) : (x.signExtend 16).signExtend 32 = (x <<< 16).sshiftRight 16 := by
  apply BitVec.eq_of_getLsbD_eq
  intro i hi
  rw [BitVec.getLsbD_signExtend, BitVec.getLsbD_sshiftRight]
  by_cases h : i < 16
  · rw [if_pos h, if_pos (by omega), BitVec.getLsbD_signExtend, if_pos (by omega), BitVec.getLsbD_shiftLeft]
    simp [hi, show 16 + i < 32 by omega, show i < 16 from h, show ¬ 32 ≤ i by omega, show ¬ 16 + i < 16 by omega]
  · rw [if_neg h]
    by_cases g : 16 + i < 32
    · omega
    · rw [if_neg g]
      simp [hi, show ¬ 32 ≤ i by omega, BitVec.msb_eq_getLsbD_last, BitVec.getLsbD_signExtend, BitVec.getElem_signExtend, BitVec.getLsbD_shiftLeft]
theorem n_8 (v : Int32) : v.toInt8.toInt32 = (v <<< ((24 : Int32) &&& 31)) >>> ((24 : Int32) &&& 31) := Int32.toBitVec_inj.mp (bv_8 v.toBitVec)
theorem n_16 (v : Int32) : v.toInt16.toInt32 = (v <<< ((16 : Int32) &&& 31)) >>> ((16 : Int32) &&& 31) := Int32.toBitVec_inj.mp (bv_16 v.toBitVec)
theorem nrw_R (L v : Int32) : nrw L v = nrR L v := by
  unfold nrw nrR
  rw [n_8, n_16]
theorem fa0 {a z r : Int32} {v : Int64} (h : r = if a = -1 then 1 else if v.toInt < 0 ∨ z.toInt ≤ v.toInt then 2 else 0) (h0 : r = 0) : ¬ a = -1 ∧ 0 ≤ v.toInt ∧ v.toInt < z.toInt := ⟨tp_ne h h0, (fz0 h h0).1, (fz0 h h0).2⟩
theorem faN {a z r : Int32} {v : Int64} (h : r = if a = -1 then 1 else if v.toInt < 0 ∨ z.toInt ≤ v.toInt then 2 else 0) (h0 : ¬ r = 0) : ¬ (¬ a = -1 ∧ 0 ≤ v.toInt ∧ v.toInt < z.toInt) := by
  intro c
  rw [if_neg c.1, if_neg (by omega)] at h
  exact h0 h
theorem up_z {F : Nat → Nat → Int32} {k j : Nat} : va_up (va_up F k (zpF j (F k))) k (upd ((va_up F k (zpF j (F k))) k) j 0) = va_up F k (zpF (j + 1) (F k)) := by
  funext q
  show (if q = k then upd (if k = k then zpF j (F k) else F k) j 0 else (if q = k then zpF j (F k) else F q)) = (if q = k then zpF (j + 1) (F k) else F q)
  rw [if_pos rfl, zpF_s]
  split
  · rfl
  · rfl
theorem up_0 {F : Nat → Nat → Int32} {k : Nat} : F = va_up F k (zpF 0 (F k)) := by
  funext q
  show F q = (if q = k then zpF 0 (F k) else F q)
  split
  · rename_i e; rw [e]; exact zpF_0
  · rfl
def zpg (k j : Nat) (f : Nat → Int32) : Nat → Int32 := fun q => if 40 * k ≤ q ∧ q < 40 * k + j then 0 else f q
theorem zpg_0 {k : Nat} {f : Nat → Int32} : f = zpg k 0 f := by
  funext q
  show f q = (if 40 * k ≤ q ∧ q < 40 * k + 0 then 0 else f q)
  rw [if_neg (by omega)]
theorem zpg_s {k j : Nat} {f : Nat → Int32} : upd (zpg k j f) (40 * k + j) 0 = zpg k (j + 1) f := by
  funext q
  show (if q = 40 * k + j then 0 else (if 40 * k ≤ q ∧ q < 40 * k + j then 0 else f q)) = (if 40 * k ≤ q ∧ q < 40 * k + (j + 1) then 0 else f q)
  by_cases c : q = 40 * k + j
  · rw [if_pos c, if_pos (by omega)]
  · rw [if_neg c]
    by_cases d : 40 * k ≤ q ∧ q < 40 * k + j
    · rw [if_pos d, if_pos (by omega)]
    · rw [if_neg d, if_neg (by omega)]
def xch (a : Nat → Int32) (i k : Nat) : Nat → Int32 := upd (upd a (38 + i) (a (38 + k))) (38 + k) (a (38 + i))
theorem xch_xch {a : Nat → Int32} {i k : Nat} : xch (xch a i k) i k = a := by
  funext q
  unfold xch upd
  by_cases c : q = 38 + k
  · by_cases d : 38 + i = 38 + k
    · simp [c, d]
    · simp [c, d]
      intro e; rw [e]
  · by_cases d : q = 38 + i
    · simp [c, d]
      intro e n; exact absurd e n
    · simp [c, d]

set_option maxHeartbeats 1000000 in
set_option maxRecDepth 100000 in
theorem c_X6_fillE (l : Launch) (dC : Nat → ClassId) (dI : Nat → Nat → Nat) (G : Nat → ClassId) (sz : Nat) (h0 la si ce fi se k : Nat) (x8 x9 i x1 : Int32) (fl fz : Nat → Int32) (rc : Nat → Nat) (F : Nat → Nat → Int32) (hk : k < 4) (hz : ∀ q : Nat, q < 4 → 0 ≤ (fz q).toInt ∧ (fz q).toInt ≤ 40) : Met l yX6_fill (Cond.code yX6_fill cX6_fill 4 none :: GT) ({ frames := 1, cells := 0, slots := 0, locals := 23 } : Room) (PcW [.ref h0, .int (nI k), .int i, .int x1] dC dI G (([(h0, .inr (6, [.ref la, .ref si, .ref ce, .int x8, .int x9, .ref fi, .ref se])), (la, .inl (G 0, 4, .inl fl)), (si, .inl (G 0, 4, .inl fz)), (ce, .inl (G 4, 4, .inr (.inr (.inr (.inr (fun ir => if ir < 4 then some (rc ir) else none))))))] : va_W) ++ ((((List.range 4).map (fun iq => (rc iq, .inl (G 0, 40, .inl (F iq))))) : va_W) ++ [])) sz) (va_Qv (fun (u : (Nat → Nat → Int32)) => match u with | u0 => u0 = (if (¬ fl k = -1 ∧ 0 ≤ i.toInt ∧ i.toInt < (fz k).toInt) then va_up F k (upd (F k) i.toNatClampNeg (nrw (fl k) x1)) else F)) (fun (u : (Nat → Nat → Int32)) (t : State) => match u with | u0 => va_P (dC, dI) vwCl (([(h0, .inr (6, [.ref la, .ref si, .ref ce, .int x8, .int x9, .ref fi, .ref se])), (la, .inl (G 0, 4, .inl fl)), (si, .inl (G 0, 4, .inl fz)), (ce, .inl (G 4, 4, .inr (.inr (.inr (.inr (fun ir => if ir < 4 then some (rc ir) else none))))))] : va_W) ++ ((((List.range 4).map (fun iq => (rc iq, .inl (G 0, 40, .inl (u0 iq))))) : va_W) ++ [])) t.heap ∧ va_D (va_A (([(h0, .inr (6, [.ref la, .ref si, .ref ce, .int x8, .int x9, .ref fi, .ref se])), (la, .inl (G 0, 4, .inl fl)), (si, .inl (G 0, 4, .inl fz)), (ce, .inl (G 4, 4, .inr (.inr (.inr (.inr (fun ir => if ir < 4 then some (rc ir) else none))))))] : va_W) ++ ((((List.range 4).map (fun iq => (rc iq, .inl (G 0, 40, .inl (F iq))))) : va_W) ++ [])) sz) (([(h0, .inr (6, [.ref la, .ref si, .ref ce, .int x8, .int x9, .ref fi, .ref se])), (la, .inl (G 0, 4, .inl fl)), (si, .inl (G 0, 4, .inl fz)), (ce, .inl (G 4, 4, .inr (.inr (.inr (.inr (fun ir => if ir < 4 then some (rc ir) else none))))))] : va_W) ++ ((((List.range 4).map (fun iq => (rc iq, .inl (G 0, 40, .inl (u0 iq))))) : va_W) ++ []))) (va_A (([(h0, .inr (6, [.ref la, .ref si, .ref ce, .int x8, .int x9, .ref fi, .ref se])), (la, .inl (G 0, 4, .inl fl)), (si, .inl (G 0, 4, .inl fz)), (ce, .inl (G 4, 4, .inr (.inr (.inr (.inr (fun ir => if ir < 4 then some (rc ir) else none))))))] : va_W) ++ ((((List.range 4).map (fun iq => (rc iq, .inl (G 0, 40, .inl (F iq))))) : va_W) ++ [])) sz)) 0 0 (va_A (([(h0, .inr (6, [.ref la, .ref si, .ref ce, .int x8, .int x9, .ref fi, .ref se])), (la, .inl (G 0, 4, .inl fl)), (si, .inl (G 0, 4, .inl fz)), (ce, .inl (G 4, 4, .inr (.inr (.inr (.inr (fun ir => if ir < 4 then some (rc ir) else none))))))] : va_W) ++ ((((List.range 4).map (fun iq => (rc iq, .inl (G 0, 40, .inl (F iq))))) : va_W) ++ [])) sz) := by
  refine Met.ofW (cc := cX6_fill) (maxL := 4) (ret := none) (by decide) rfl ?_
  intro p e s m args below meth c s₁ Bd hml hv
  obtain ⟨rfl, hsz, hP, hK, hD0⟩ := hv
  have hx := Bd.exec
  have hb := Bd.bytes
  have hr := Bd.returns
  have hg : ∀ w ∈ GT, w.before ([.ref h0, .int (nI k), .int i, .int x1] : List Value).toArray s = true := fun w h => atoms_spec (ws := Cond.code yX6_fill cX6_fill 4 none :: GT) Bd.pre w (List.mem_cons_of_mem _ h)
  have hown : s.vm.findClass RX6 = some m.cls := findClass_of_methodNamed Bd.named
  have hlocks := Bd.notSynchronized
  subst hsz
  have hD := hD0.self (sz := s.heap.size)
  generalize hAe : va_A (([(h0, .inr (6, [.ref la, .ref si, .ref ce, .int x8, .int x9, .ref fi, .ref se])), (la, .inl (G 0, 4, .inl fl)), (si, .inl (G 0, 4, .inl fz)), (ce, .inl (G 4, 4, .inr (.inr (.inr (.inr (fun ir => if ir < 4 then some (rc ir) else none))))))] : va_W) ++ ((((List.range 4).map (fun iq => (rc iq, .inl (G 0, 40, .inl (F iq))))) : va_W) ++ [])) s.heap.size = A at hD ⊢
  have hA : ∀ q : Nat, s.heap.size ≤ q → A q := fun q h => by rw [← hAe]; exact Or.inr h
  have hS : va_S A s.heap s.heap [] := va_S.rf
  have hl := lv_entry ([.ref h0, .int (nI k), .int i, .int x1]) (n := 4) (Nat.le_of_ble_eq_true rfl)
  rw [lg_entry_eq]
  generalize (lg_sl ([.ref h0, .int (nI k), .int i, .int x1]) ++ List.replicate (4 - (lg_sl ([.ref h0, .int (nI k), .int i, .int x1])).length) Slot.unset).toArray = ls at hl ⊢
  have hl : lv_has ls 4 [(0, .ref h0), (1, .int (nI k)), (2, .int i), (3, .int x1)] := hl
  have hzk := hz k hk
  have lii := l_ii i
  refine lv_aload_n hx hb dX6_fill_0 rfl (lv_at hl 0 rfl) ?_
  refine lv_iload_n hx hb dX6_fill_1 rfl (lv_at hl 1 rfl) ?_
  refine lv_iload_n hx hb dX6_fill_2 rfl (lv_at hl 2 rfl) ?_
  refine lv_i2l (v := i.toInt64) hx hb dX6_fill_3 rfl ?_
  have hPc := hP.sub (ws' := [(h0, .inr (6, [.ref la, .ref si, .ref ce, .int x8, .int x9, .ref fi, .ref se])), (la, .inl (G 0, 4, .inl fl)), (si, .inl (G 0, 4, .inl fz))]) [0, 1, 2] rfl
  have tn2141_ : nIT k := fun _ => nI_toInt (by omega)
  refine va_calli (va_runV (As := [.int (nI k), .long i.toInt64]) (rest := []) ⟨hx, hb, hml, hown, hg⟩ (c_X6_faultAt l dC dI G _ h0 la si ce fi se k x8 x9 i.toInt64 fl fz hk) (kwV hg mfX6_faultAt wt_846 ⟨Nat.le_of_ble_eq_true rfl, Nat.le_of_ble_eq_true rfl⟩) (preVR hK hPc (ci := 6) (r := (RX6, TX6, 7)) rfl rfl) rfl rfl hl.1 rfl (lv_room (Nat.le_of_ble_eq_true rfl)) dX6_fill_4 ⟨Nat.le_of_ble_eq_true rfl, Nat.le_of_ble_eq_true rfl⟩) hS (fun q h1 h2 => absurd h2 (Nat.not_le.mpr h1)) (fun q h => hA q (Nat.le_trans hS.1 h)) (fun r1 ur1 t H1 locs ht hvm w2 hB hz1 hk1 hS => ?_)
  have hP := keepR hP hk1
  obtain ⟨w2, w2x⟩ := w2
  refine lv_if_ne (tgt := 48) hx hb dX6_fill_7 rfl (fun c3 => ?_) (fun c3 => ?_)
  · skip
    obtain ⟨hP9, hD9⟩ := va_sub2 (ws' := (([(h0, .inr (6, [.ref la, .ref si, .ref ce, .int x8, .int x9, .ref fi, .ref se])), (la, .inl (G 0, 4, .inl fl)), (si, .inl (G 0, 4, .inl fz)), (ce, .inl (G 4, 4, .inr (.inr (.inr (.inr (fun ir => if ir < 4 then some (rc ir) else none))))))] : va_W) ++ ((((List.range 4).map (fun iq => (rc iq, .inl (G 0, 40, .inl (F iq))))) : va_W) ++ []))) hP hD [0, 1, 2, 3, 4, 5, 6, 7] (by decide +kernel) rfl
    refine W.widen (k := 0) (n := 0) (Nat.le_of_ble_eq_true rfl) (Nat.le_of_ble_eq_true rfl) ?_
    exact W.vret hx hb hr (fun t ht hW => ⟨⟨F, rfl, (by have e64 := l_ii i; have q9 := faN w2 (by first | with_reducible assumption | assumption); rw [e64] at q9; rw [if_neg q9]), ⟨by rw [ht]; exact hP9, hD9⟩⟩, hS.F ht⟩) hS.2.2 dX6_fill_48
  · skip
    have b4 := fz0 w2 c3
    refine lv_aload_n hx hb dX6_fill_10 rfl (lv_at hl 0 rfl) ?_
    refine va_get (D := (dC, dI)) (ci := 6) (v := .ref ce) (C := RX6) (T := TX6) (N := 7) hx hb hg inG6 hown hK.1 hP 0 rfl rfl 2 (Nat.le_of_ble_eq_true rfl) (hg _ wt_278) (fun _ h9 => h9) rfl dX6_fill_11 ?_
    refine lv_iload_n hx hb dX6_fill_14 rfl (lv_at hl 1 rfl) ?_
    refine va_aldA hx hb hK.1 hP 3 4 rfl rfl (vp_in_nI (by first | omega | (have t_b4 := b4; have t_n0 : (nI k).toInt = (k : Int) := tn2141_ (); omega)) (by decide)) dX6_fill_15 ?_
    refine lv_cgv (y := .ref (rc k)) (rowref (by first | omega | (have t_b4 := b4; have t_n0 : (nI k).toInt = (k : Int) := tn2141_ (); omega)) (by decide)) ?_
    refine lv_iload_n hx hb dX6_fill_16 rfl (lv_at hl 2 rfl) ?_
    refine lv_aload_n hx hb dX6_fill_17 rfl (lv_at hl 0 rfl) ?_
    refine va_get (D := (dC, dI)) (ci := 6) (v := .ref la) (C := RX6) (T := TX6) (N := 7) hx hb hg inG6 hown hK.1 hP 0 rfl rfl 0 (Nat.le_of_ble_eq_true rfl) (hg _ wt_276) (fun _ h9 => h9) rfl dX6_fill_18 ?_
    refine lv_iload_n hx hb dX6_fill_21 rfl (lv_at hl 1 rfl) ?_
    refine va_iald hx hb hK.1 hP 1 0 rfl rfl (vp_in_nI (by first | omega | (have t_b4 := b4; have t_n0 : (nI k).toInt = (k : Int) := tn2141_ (); omega)) (by decide)) dX6_fill_22 ?_
    refine lv_cg (y := fl k) (by rw [nI_clamp (by omega)]) ?_
    refine lv_if_ne (tgt := 31) hx hb dX6_fill_23 rfl (fun c5 => ?_) (fun c5 => ?_)
    · skip
      refine lv_aload_n hx hb dX6_fill_31 rfl (lv_at hl 0 rfl) ?_
      refine va_get (D := (dC, dI)) (ci := 6) (v := .ref la) (C := RX6) (T := TX6) (N := 7) hx hb hg inG6 hown hK.1 hP 0 rfl rfl 0 (Nat.le_of_ble_eq_true rfl) (hg _ wt_276) (fun _ h9 => h9) rfl dX6_fill_32 ?_
      refine lv_iload_n hx hb dX6_fill_35 rfl (lv_at hl 1 rfl) ?_
      refine va_iald hx hb hK.1 hP 1 0 rfl rfl (vp_in_nI (by first | omega | (have t_b4 := b4; have t_c5 := neI c5; have : (0 : Int32).toInt = 0 := qI_0; have t_n0 : (nI k).toInt = (k : Int) := tn2141_ (); omega)) (by decide)) dX6_fill_36 ?_
      refine lv_cg (y := fl k) (by rw [nI_clamp (by omega)]) ?_
      refine lv_iconst (v := 1) hx hb dX6_fill_37 rfl ?_
      refine lv_icmp_ne (tgt := 46) hx hb dX6_fill_38 rfl (fun c6 => ?_) (fun c6 => ?_)
      · skip
        refine lv_iload_n hx hb dX6_fill_46 rfl (lv_at hl 3 rfl) ?_
        refine va_iastB (j := k) hx hb hK.1 hP hD hS 0 (by first | omega | (have t_b4 := b4; have t_c5 := neI c5; have t_c6 := neI c6; have tqz_ := qz2_; have t_n0 : (nI k).toInt = (k : Int) := tn2141_ (); omega)) rfl (vp_in_iff.mpr (by have t_b4 := b4; have t_c5 := neI c5; have t_c6 := neI c6; have tqz_ := qz2_; have t_n0 : (nI k).toInt = (k : Int) := tn2141_ (); constructor <;> omega)) dX6_fill_47 (fun H locs hP hD hS => ?_)
        obtain ⟨hP, hD⟩ := va_rls (ws' := (([(h0, .inr (6, [.ref la, .ref si, .ref ce, .int x8, .int x9, .ref fi, .ref se])), (la, .inl (G 0, 4, .inl fl)), (si, .inl (G 0, 4, .inl fz)), (ce, .inl (G 4, 4, .inr (.inr (.inr (.inr (fun ir => if ir < 4 then some (rc ir) else none))))))] : va_W) ++ ((((List.range 4).map (fun iq => (rc iq, .inl (G 0, 40, .inl ((va_up F k (upd (F k) i.toNatClampNeg x1)) iq))))) : va_W) ++ []))) hP hD rfl
        have hP9 := hP
        have hD9 := hD
        refine W.widen (k := 0) (n := 0) (Nat.le_of_ble_eq_true rfl) (Nat.le_of_ble_eq_true rfl) ?_
        exact W.vret hx hb hr (fun t ht hW => ⟨⟨(va_up F k (upd (F k) i.toNatClampNeg x1)), rfl, (by have e64 := l_ii i; have q9 := fa0 w2 (by first | with_reducible assumption | assumption); rw [e64] at q9; rw [if_pos q9]; unfold nrw; (try rw [if_pos (by first | with_reducible assumption | assumption)]); (try rw [if_neg (by first | with_reducible assumption | assumption)]); (try rw [if_pos (by first | with_reducible assumption | assumption)]); (try rw [if_neg (by first | with_reducible assumption | assumption)]); first | done | rfl), ⟨by rw [ht]; exact hP9, hD9⟩⟩, hS.F ht⟩) hS.2.2 dX6_fill_48
      · skip
        refine lv_iload_n hx hb dX6_fill_41 rfl (lv_at hl 3 rfl) ?_
        refine lv_i2s (v := _) hx hb dX6_fill_42 rfl ?_
        refine lv_topi (fun v7 ev7 => ?_)
        refine lv_goto (tgt := 47) hx hb dX6_fill_43 rfl ?_
        refine va_iastB (j := k) hx hb hK.1 hP hD hS 0 (by first | omega | (have t_b4 := b4; have t_c5 := neI c5; have t_c6 := eqI c6; have tqz_ := qz2_; have t_n0 : (nI k).toInt = (k : Int) := tn2141_ (); omega)) rfl (vp_in_iff.mpr (by have t_b4 := b4; have t_c5 := neI c5; have t_c6 := eqI c6; have tqz_ := qz2_; have t_n0 : (nI k).toInt = (k : Int) := tn2141_ (); constructor <;> omega)) dX6_fill_47 (fun H locs hP hD hS => ?_)
        obtain ⟨hP, hD⟩ := va_rls (ws' := (([(h0, .inr (6, [.ref la, .ref si, .ref ce, .int x8, .int x9, .ref fi, .ref se])), (la, .inl (G 0, 4, .inl fl)), (si, .inl (G 0, 4, .inl fz)), (ce, .inl (G 4, 4, .inr (.inr (.inr (.inr (fun ir => if ir < 4 then some (rc ir) else none))))))] : va_W) ++ ((((List.range 4).map (fun iq => (rc iq, .inl (G 0, 40, .inl ((va_up F k (upd (F k) i.toNatClampNeg v7)) iq))))) : va_W) ++ []))) hP hD rfl
        have hP9 := hP
        have hD9 := hD
        refine W.widen (k := 0) (n := 0) (Nat.le_of_ble_eq_true rfl) (Nat.le_of_ble_eq_true rfl) ?_
        exact W.vret hx hb hr (fun t ht hW => ⟨⟨(va_up F k (upd (F k) i.toNatClampNeg v7)), rfl, (by have e64 := l_ii i; have q9 := fa0 w2 (by first | with_reducible assumption | assumption); rw [e64] at q9; rw [if_pos q9]; unfold nrw; (try rw [if_pos (by first | with_reducible assumption | assumption)]); (try rw [if_neg (by first | with_reducible assumption | assumption)]); (try rw [if_pos (by first | with_reducible assumption | assumption)]); (try rw [if_neg (by first | with_reducible assumption | assumption)]); (try rw [ev7]); first | done | rfl), ⟨by rw [ht]; exact hP9, hD9⟩⟩, hS.F ht⟩) hS.2.2 dX6_fill_48
    · skip
      refine lv_iload_n hx hb dX6_fill_26 rfl (lv_at hl 3 rfl) ?_
      refine lv_i2b (v := _) hx hb dX6_fill_27 rfl ?_
      refine lv_topi (fun v8 ev8 => ?_)
      refine lv_goto (tgt := 47) hx hb dX6_fill_28 rfl ?_
      refine va_iastB (j := k) hx hb hK.1 hP hD hS 0 (by first | omega | (have t_b4 := b4; have t_c5 := eqI c5; have : (0 : Int32).toInt = 0 := qI_0; have t_n0 : (nI k).toInt = (k : Int) := tn2141_ (); omega)) rfl (vp_in_iff.mpr (by have t_b4 := b4; have t_c5 := eqI c5; have : (0 : Int32).toInt = 0 := qI_0; have t_n0 : (nI k).toInt = (k : Int) := tn2141_ (); constructor <;> omega)) dX6_fill_47 (fun H locs hP hD hS => ?_)
      obtain ⟨hP, hD⟩ := va_rls (ws' := (([(h0, .inr (6, [.ref la, .ref si, .ref ce, .int x8, .int x9, .ref fi, .ref se])), (la, .inl (G 0, 4, .inl fl)), (si, .inl (G 0, 4, .inl fz)), (ce, .inl (G 4, 4, .inr (.inr (.inr (.inr (fun ir => if ir < 4 then some (rc ir) else none))))))] : va_W) ++ ((((List.range 4).map (fun iq => (rc iq, .inl (G 0, 40, .inl ((va_up F k (upd (F k) i.toNatClampNeg v8)) iq))))) : va_W) ++ []))) hP hD rfl
      have hP9 := hP
      have hD9 := hD
      refine W.widen (k := 0) (n := 0) (Nat.le_of_ble_eq_true rfl) (Nat.le_of_ble_eq_true rfl) ?_
      exact W.vret hx hb hr (fun t ht hW => ⟨⟨(va_up F k (upd (F k) i.toNatClampNeg v8)), rfl, (by have e64 := l_ii i; have q9 := fa0 w2 (by first | with_reducible assumption | assumption); rw [e64] at q9; rw [if_pos q9]; unfold nrw; (try rw [if_pos (by first | with_reducible assumption | assumption)]); (try rw [if_neg (by first | with_reducible assumption | assumption)]); (try rw [if_pos (by first | with_reducible assumption | assumption)]); (try rw [if_neg (by first | with_reducible assumption | assumption)]); (try rw [ev8]); first | done | rfl), ⟨by rw [ht]; exact hP9, hD9⟩⟩, hS.F ht⟩) hS.2.2 dX6_fill_48

set_option maxHeartbeats 1000000 in
set_option maxRecDepth 100000 in
theorem c_X6_renewE (l : Launch) (dC : Nat → ClassId) (dI : Nat → Nat → Nat) (G : Nat → ClassId) (sz : Nat) (h0 la si ce fi se k nn : Nat) (x8 x9 x1 : Int32) (fl fz : Nat → Int32) (rc : Nat → Nat) (F : Nat → Nat → Int32) (hk : k < 4) (hnn : nn ≤ 40) : Met l yX6_renew (Cond.code yX6_renew cX6_renew 5 none :: GT) ({ frames := 1, cells := 0, slots := 0, locals := 20 } : Room) (PcW [.ref h0, .int (nI k), .int x1, .int (nI nn)] dC dI G (([(h0, .inr (6, [.ref la, .ref si, .ref ce, .int x8, .int x9, .ref fi, .ref se])), (la, .inl (G 0, 4, .inl fl)), (si, .inl (G 0, 4, .inl fz)), (ce, .inl (G 4, 4, .inr (.inr (.inr (.inr (fun ir => if ir < 4 then some (rc ir) else none))))))] : va_W) ++ ((((List.range 4).map (fun iq => (rc iq, .inl (G 0, 40, .inl (F iq))))) : va_W) ++ [])) sz) (va_Qv (fun (u : (Nat → Nat → Int32) × (Nat → Int32) × (Nat → Int32)) => match u with | (u0, u1, u2) => u1 = upd fl k x1 ∧ u2 = upd fz k (nI nn) ∧ u0 = va_up F k (zpF nn (F k))) (fun (u : (Nat → Nat → Int32) × (Nat → Int32) × (Nat → Int32)) (t : State) => match u with | (u0, u1, u2) => va_P (dC, dI) vwCl (([(h0, .inr (6, [.ref la, .ref si, .ref ce, .int x8, .int x9, .ref fi, .ref se])), (la, .inl (G 0, 4, .inl u1)), (si, .inl (G 0, 4, .inl u2)), (ce, .inl (G 4, 4, .inr (.inr (.inr (.inr (fun ir => if ir < 4 then some (rc ir) else none))))))] : va_W) ++ ((((List.range 4).map (fun iq => (rc iq, .inl (G 0, 40, .inl (u0 iq))))) : va_W) ++ [])) t.heap ∧ va_D (va_A (([(h0, .inr (6, [.ref la, .ref si, .ref ce, .int x8, .int x9, .ref fi, .ref se])), (la, .inl (G 0, 4, .inl fl)), (si, .inl (G 0, 4, .inl fz)), (ce, .inl (G 4, 4, .inr (.inr (.inr (.inr (fun ir => if ir < 4 then some (rc ir) else none))))))] : va_W) ++ ((((List.range 4).map (fun iq => (rc iq, .inl (G 0, 40, .inl (F iq))))) : va_W) ++ [])) sz) (([(h0, .inr (6, [.ref la, .ref si, .ref ce, .int x8, .int x9, .ref fi, .ref se])), (la, .inl (G 0, 4, .inl u1)), (si, .inl (G 0, 4, .inl u2)), (ce, .inl (G 4, 4, .inr (.inr (.inr (.inr (fun ir => if ir < 4 then some (rc ir) else none))))))] : va_W) ++ ((((List.range 4).map (fun iq => (rc iq, .inl (G 0, 40, .inl (u0 iq))))) : va_W) ++ []))) (va_A (([(h0, .inr (6, [.ref la, .ref si, .ref ce, .int x8, .int x9, .ref fi, .ref se])), (la, .inl (G 0, 4, .inl fl)), (si, .inl (G 0, 4, .inl fz)), (ce, .inl (G 4, 4, .inr (.inr (.inr (.inr (fun ir => if ir < 4 then some (rc ir) else none))))))] : va_W) ++ ((((List.range 4).map (fun iq => (rc iq, .inl (G 0, 40, .inl (F iq))))) : va_W) ++ [])) sz)) 0 0 (va_A (([(h0, .inr (6, [.ref la, .ref si, .ref ce, .int x8, .int x9, .ref fi, .ref se])), (la, .inl (G 0, 4, .inl fl)), (si, .inl (G 0, 4, .inl fz)), (ce, .inl (G 4, 4, .inr (.inr (.inr (.inr (fun ir => if ir < 4 then some (rc ir) else none))))))] : va_W) ++ ((((List.range 4).map (fun iq => (rc iq, .inl (G 0, 40, .inl (F iq))))) : va_W) ++ [])) sz) := by
  refine Met.ofW (cc := cX6_renew) (maxL := 5) (ret := none) (by decide) rfl ?_
  intro p e s m args below meth c s₁ Bd hml hv
  obtain ⟨rfl, hsz, hP, hK, hD0⟩ := hv
  have hx := Bd.exec
  have hb := Bd.bytes
  have hr := Bd.returns
  have hg : ∀ w ∈ GT, w.before ([.ref h0, .int (nI k), .int x1, .int (nI nn)] : List Value).toArray s = true := fun w h => atoms_spec (ws := Cond.code yX6_renew cX6_renew 5 none :: GT) Bd.pre w (List.mem_cons_of_mem _ h)
  have hown : s.vm.findClass RX6 = some m.cls := findClass_of_methodNamed Bd.named
  have hlocks := Bd.notSynchronized
  subst hsz
  have hD := hD0.self (sz := s.heap.size)
  generalize hAe : va_A (([(h0, .inr (6, [.ref la, .ref si, .ref ce, .int x8, .int x9, .ref fi, .ref se])), (la, .inl (G 0, 4, .inl fl)), (si, .inl (G 0, 4, .inl fz)), (ce, .inl (G 4, 4, .inr (.inr (.inr (.inr (fun ir => if ir < 4 then some (rc ir) else none))))))] : va_W) ++ ((((List.range 4).map (fun iq => (rc iq, .inl (G 0, 40, .inl (F iq))))) : va_W) ++ [])) s.heap.size = A at hD ⊢
  have hA : ∀ q : Nat, s.heap.size ≤ q → A q := fun q h => by rw [← hAe]; exact Or.inr h
  have hS : va_S A s.heap s.heap [] := va_S.rf
  have hl := lv_entry ([.ref h0, .int (nI k), .int x1, .int (nI nn)]) (n := 5) (Nat.le_of_ble_eq_true rfl)
  rw [lg_entry_eq]
  generalize (lg_sl ([.ref h0, .int (nI k), .int x1, .int (nI nn)]) ++ List.replicate (5 - (lg_sl ([.ref h0, .int (nI k), .int x1, .int (nI nn)])).length) Slot.unset).toArray = ls at hl ⊢
  have hl : lv_has ls 5 [(0, .ref h0), (1, .int (nI k)), (2, .int x1), (3, .int (nI nn))] := hl
  refine lv_iload_n hx hb dX6_renew_0 rfl (lv_at hl 1 rfl) ?_
  have hPc := hP.sub (ws' := []) [] rfl
  refine va_calli (va_runS (As := [.int (nI k)]) (rest := []) ⟨hx, hb, hml, hown, hg⟩ (c_X6_isSheet l dC dI G _ (nI k)) (kwS hg mfX6_isSheet wt_833 ⟨Nat.le_of_ble_eq_true rfl, Nat.le_of_ble_eq_true rfl⟩) (preSR hK hPc) rfl rfl hl.1 rfl (lv_room (Nat.le_of_ble_eq_true rfl)) dX6_renew_1 ⟨Nat.le_of_ble_eq_true rfl, Nat.le_of_ble_eq_true rfl⟩) hS (fun q h1 h2 => absurd h2 (Nat.not_le.mpr h1)) (fun q h => hA q (Nat.le_trans hS.1 h)) (fun r1 ur1 t H1 locs ht hvm w2 hB hz1 hk1 hS => ?_)
  have hP := keepR hP hk1
  obtain ⟨w2, w2x⟩ := w2
  try simp only [l_ii, show (0 : Int32).toInt = 0 from by decide, show (4 : Int32).toInt = 4 from by decide] at w2
  have tn2142_ : nIT k := fun _ => nI_toInt (by omega)
  try rw [show (nI (k)).toInt = ((k : Nat) : Int) from tn2142_ ()] at w2
  have tn2143_ : nIT nn := fun _ => nI_toInt (by omega)
  have w2 : r1 = 1 := w2.trans (if_pos (by have tnb_ := nib2 tn2142_ tn2143_; omega))
  subst w2
  refine lv_if_eq (tgt := 17) hx hb dX6_renew_4 rfl (fun c3 => ?_) (fun c3 => ?_)
  · skip
    exact absurd c3 (by decide)
  · skip
    refine lv_iload_n hx hb dX6_renew_7 rfl (lv_at hl 3 rfl) ?_
    refine lv_if_lt (tgt := 17) hx hb dX6_renew_8 rfl (fun c4 => ?_) (fun c4 => ?_)
    · skip
      have t_c3 := neI c3
      have t_c4 := ltI c4
      have : (0 : Int32).toInt = 0 := qI_0
      have : (1 : Int32).toInt = 1 := qI_1
      have t_n0 : (nI k).toInt = (k : Int) := tn2142_ ()
      have t_n1 : (nI nn).toInt = (nn : Int) := tn2143_ ()
      exfalso; omega
    · skip
      have n5 : 0 ≤ nn := by have t := nltI c4; rw [show (nI (nn)).toInt = ((nn : Nat) : Int) from tn2143_ ()] at t; have : (0 : Int32).toInt = 0 := qI_0; omega
      refine lv_iload_n hx hb dX6_renew_11 rfl (lv_at hl 3 rfl) ?_
      refine lv_bipush (v := 40) hx hb dX6_renew_12 rfl ?_
      refine lv_icmp_le (tgt := 18) hx hb dX6_renew_14 rfl (fun c6 => ?_) (fun c6 => ?_)
      · skip
        have n7 : nn ≤ 40 := by have t := leI c6; rw [show (nI (nn)).toInt = ((nn : Nat) : Int) from tn2143_ ()] at t; have : (40 : Int32).toInt = 40 := qI_40; omega
        refine lv_aload_n hx hb dX6_renew_18 rfl (lv_at hl 0 rfl) ?_
        refine va_get (D := (dC, dI)) (ci := 6) (v := .ref la) (C := RX6) (T := TX6) (N := 7) hx hb hg inG6 hown hK.1 hP 0 rfl rfl 0 (Nat.le_of_ble_eq_true rfl) (hg _ wt_276) (fun _ h9 => h9) rfl dX6_renew_19 ?_
        refine lv_iload_n hx hb dX6_renew_22 rfl (lv_at hl 1 rfl) ?_
        refine lv_iload_n hx hb dX6_renew_23 rfl (lv_at hl 2 rfl) ?_
        refine va_iast hx hb hK.1 hP hD hS 1 0 rfl rfl (vp_in_nI (by first | omega | (have t_c3 := neI c3; have t_n5 := n5; have t_n7 := n7; have tqz_ := qz2_; have tnb_ := nib2 tn2142_ tn2143_; omega)) (by decide)) dX6_renew_24 (fun H locs hP hD hS => ?_)
        rw [nI_clamp (by omega)] at hP hD
        obtain ⟨hP, hD⟩ := va_rls (ws' := (([(h0, .inr (6, [.ref la, .ref si, .ref ce, .int x8, .int x9, .ref fi, .ref se])), (la, .inl (G 0, 4, .inl (upd fl k x1))), (si, .inl (G 0, 4, .inl fz)), (ce, .inl (G 4, 4, .inr (.inr (.inr (.inr (fun ir => if ir < 4 then some (rc ir) else none))))))] : va_W) ++ ((((List.range 4).map (fun iq => (rc iq, .inl (G 0, 40, .inl (F iq))))) : va_W) ++ []))) hP hD rfl
        refine lv_aload_n hx hb dX6_renew_25 rfl (lv_at hl 0 rfl) ?_
        refine va_get (D := (dC, dI)) (ci := 6) (v := .ref si) (C := RX6) (T := TX6) (N := 7) hx hb hg inG6 hown hK.1 hP 0 rfl rfl 1 (Nat.le_of_ble_eq_true rfl) (hg _ wt_277) (fun _ h9 => h9) rfl dX6_renew_26 ?_
        refine lv_iload_n hx hb dX6_renew_29 rfl (lv_at hl 1 rfl) ?_
        refine lv_iload_n hx hb dX6_renew_30 rfl (lv_at hl 3 rfl) ?_
        refine va_iast hx hb hK.1 hP hD hS 2 0 rfl rfl (vp_in_nI (by first | omega | (have t_c3 := neI c3; have t_n5 := n5; have t_n7 := n7; have tqz_ := qz2_; have tnb_ := nib2 tn2142_ tn2143_; omega)) (by decide)) dX6_renew_31 (fun H locs hP hD hS => ?_)
        rw [nI_clamp (by omega)] at hP hD
        obtain ⟨hP, hD⟩ := va_rls (ws' := (([(h0, .inr (6, [.ref la, .ref si, .ref ce, .int x8, .int x9, .ref fi, .ref se])), (la, .inl (G 0, 4, .inl (upd fl k x1))), (si, .inl (G 0, 4, .inl (upd fz k (nI nn)))), (ce, .inl (G 4, 4, .inr (.inr (.inr (.inr (fun ir => if ir < 4 then some (rc ir) else none))))))] : va_W) ++ ((((List.range 4).map (fun iq => (rc iq, .inl (G 0, 40, .inl (F iq))))) : va_W) ++ []))) hP hD rfl
        refine lv_iconst (v := 0) hx hb dX6_renew_32 rfl ?_
        refine lv_istore (lv' := [(4, .int 0), (0, .ref h0), (1, .int (nI k)), (2, .int x1), (3, .int (nI nn))]) hx hb dX6_renew_33 hl (by decide) rfl (fun ls hl => ?_)
        have loop35_10 : ∀ (nf j8 : Nat), nn + 1 ≤ j8 + nf → j8 ≤ nn → ∀ (g9 : Nat → Nat → Int32) (H : Heap) (locs : List Loc), g9 = va_up F k (zpF j8 (F k)) → va_P (dC, dI) vwCl (([(h0, .inr (6, [.ref la, .ref si, .ref ce, .int x8, .int x9, .ref fi, .ref se])), (la, .inl (G 0, 4, .inl (upd fl k x1))), (si, .inl (G 0, 4, .inl (upd fz k (nI nn)))), (ce, .inl (G 4, 4, .inr (.inr (.inr (.inr (fun ir => if ir < 4 then some (rc ir) else none))))))] : va_W) ++ ((((List.range 4).map (fun iq => (rc iq, .inl (G 0, 40, .inl (g9 iq))))) : va_W) ++ [])) H → va_D A (([(h0, .inr (6, [.ref la, .ref si, .ref ce, .int x8, .int x9, .ref fi, .ref se])), (la, .inl (G 0, 4, .inl (upd fl k x1))), (si, .inl (G 0, 4, .inl (upd fz k (nI nn)))), (ce, .inl (G 4, 4, .inr (.inr (.inr (.inr (fun ir => if ir < 4 then some (rc ir) else none))))))] : va_W) ++ ((((List.range 4).map (fun iq => (rc iq, .inl (G 0, 40, .inl (g9 iq))))) : va_W) ++ [])) → va_S A s.heap H locs → ∀ (ls : Array Slot), lv_has ls 5 [(4, .int (nI j8)), (0, .ref h0), (1, .int (nI k)), (2, .int x1), (3, .int (nI nn))] → W p l e (headSpec (Cond.code yX6_renew cX6_renew 5 none :: GT) ({ frames := 1, cells := 0, slots := 0, locals := 20 } : Room)).room s m ([.ref h0, .int (nI k), .int x1, .int (nI nn)] : List Value).toArray below meth c H locs 0 0 (MQ below (va_Qv (fun (u : (Nat → Nat → Int32) × (Nat → Int32) × (Nat → Int32)) => match u with | (u0, u1, u2) => u1 = upd fl k x1 ∧ u2 = upd fz k (nI nn) ∧ u0 = va_up F k (zpF nn (F k))) (fun (u : (Nat → Nat → Int32) × (Nat → Int32) × (Nat → Int32)) (t : State) => match u with | (u0, u1, u2) => va_P (dC, dI) vwCl (([(h0, .inr (6, [.ref la, .ref si, .ref ce, .int x8, .int x9, .ref fi, .ref se])), (la, .inl (G 0, 4, .inl u1)), (si, .inl (G 0, 4, .inl u2)), (ce, .inl (G 4, 4, .inr (.inr (.inr (.inr (fun ir => if ir < 4 then some (rc ir) else none))))))] : va_W) ++ ((((List.range 4).map (fun iq => (rc iq, .inl (G 0, 40, .inl (u0 iq))))) : va_W) ++ [])) t.heap ∧ va_D A (([(h0, .inr (6, [.ref la, .ref si, .ref ce, .int x8, .int x9, .ref fi, .ref se])), (la, .inl (G 0, 4, .inl u1)), (si, .inl (G 0, 4, .inl u2)), (ce, .inl (G 4, 4, .inr (.inr (.inr (.inr (fun ir => if ir < 4 then some (rc ir) else none))))))] : va_W) ++ ((((List.range 4).map (fun iq => (rc iq, .inl (G 0, 40, .inl (u0 iq))))) : va_W) ++ []))) A) ([.ref h0, .int (nI k), .int x1, .int (nI nn)] : List Value).toArray s 0 0 A) (F0 m 35 ls []) := by
          intro nf
          induction nf with
          | zero => intro j8 h1 h2; exact absurd h1 (by omega)
          | succ nf ih35_10 =>
            intro j8 hn11 hj12 g9 H locs hinv hP hD hS ls hl
            refine lv_iload hx hb dX6_renew_35 (lv_at hl 0 rfl) ?_
            refine lv_iload_n hx hb dX6_renew_37 rfl (lv_at hl 4 rfl) ?_
            refine lv_icmp_ge (tgt := 57) hx hb dX6_renew_38 rfl (fun c13 => ?_) (fun c13 => ?_)
            · skip
              have tn2144_ : nIT j8 := fun _ => nI_toInt (by first | omega | (have t := leI c13; omega))
              have n14 : nn ≤ j8 := by have t := leI c13; rw [show (nI (j8)).toInt = ((j8 : Nat) : Int) from tn2144_ ()] at t; rw [show (nI (nn)).toInt = ((nn : Nat) : Int) from tn2143_ ()] at t; omega
              obtain ⟨hP9, hD9⟩ := va_sub2 (ws' := (([(h0, .inr (6, [.ref la, .ref si, .ref ce, .int x8, .int x9, .ref fi, .ref se])), (la, .inl (G 0, 4, .inl (upd fl k x1))), (si, .inl (G 0, 4, .inl (upd fz k (nI nn)))), (ce, .inl (G 4, 4, .inr (.inr (.inr (.inr (fun ir => if ir < 4 then some (rc ir) else none))))))] : va_W) ++ ((((List.range 4).map (fun iq => (rc iq, .inl (G 0, 40, .inl (g9 iq))))) : va_W) ++ []))) hP hD [0, 1, 2, 3, 4, 5, 6, 7] (by decide +kernel) rfl
              refine W.widen (k := 0) (n := 0) (Nat.le_of_ble_eq_true rfl) (Nat.le_of_ble_eq_true rfl) ?_
              exact W.vret hx hb hr (fun t ht hW => ⟨⟨(g9, (upd fl k x1), (upd fz k (nI nn))), rfl, ⟨rfl, rfl, (by have t_c3 := neI c3; have t_n5 := n5; have t_n7 := n7; have t_hj12 := hj12; have t_n14 := n14; have tqz_ := qz2_; have tnb_ := nib3 tn2142_ tn2143_ tn2144_; rw [hinv, show j8 = nn by omega])⟩, ⟨by rw [ht]; exact hP9, hD9⟩⟩, hS.F ht⟩) hS.2.2 dX6_renew_57
            · skip
              have tn2145_ : nIT j8 := fun _ => nI_toInt (by first | omega | (have t := nleI c13; omega))
              have n15 : j8 < nn := by have t := nleI c13; rw [show (nI (j8)).toInt = ((j8 : Nat) : Int) from tn2145_ ()] at t; rw [show (nI (nn)).toInt = ((nn : Nat) : Int) from tn2143_ ()] at t; omega
              refine lv_aload_n hx hb dX6_renew_41 rfl (lv_at hl 1 rfl) ?_
              refine va_get (D := (dC, dI)) (ci := 6) (v := .ref ce) (C := RX6) (T := TX6) (N := 7) hx hb hg inG6 hown hK.1 hP 0 rfl rfl 2 (Nat.le_of_ble_eq_true rfl) (hg _ wt_278) (fun _ h9 => h9) rfl dX6_renew_42 ?_
              refine lv_iload_n hx hb dX6_renew_45 rfl (lv_at hl 2 rfl) ?_
              refine va_aldA hx hb hK.1 hP 3 4 rfl rfl (vp_in_nI (by first | omega | (have t_c3 := neI c3; have t_n5 := n5; have t_n7 := n7; have t_hj12 := hj12; have t_n15 := n15; have tqz_ := qz2_; have tnb_ := nib3 tn2142_ tn2143_ tn2145_; omega)) (by decide)) dX6_renew_46 ?_
              refine lv_cgv (y := .ref (rc k)) (rowref (by first | omega | (have t_c3 := neI c3; have t_n5 := n5; have t_n7 := n7; have t_hj12 := hj12; have t_n15 := n15; have tqz_ := qz2_; have tnb_ := nib3 tn2142_ tn2143_ tn2145_; omega)) (by decide)) ?_
              refine lv_iload hx hb dX6_renew_47 (lv_at hl 0 rfl) ?_
              refine lv_iconst (v := 0) hx hb dX6_renew_49 rfl ?_
              refine va_iastB (j := k) hx hb hK.1 hP hD hS 0 (by first | omega | (have t_c3 := neI c3; have t_n5 := n5; have t_n7 := n7; have t_hj12 := hj12; have t_n15 := n15; have tqz_ := qz2_; have tnb_ := nib3 tn2142_ tn2143_ tn2145_; omega)) rfl (vp_in_nI (by first | omega | (have t_c3 := neI c3; have t_n5 := n5; have t_n7 := n7; have t_hj12 := hj12; have t_n15 := n15; have tqz_ := qz2_; have tnb_ := nib3 tn2142_ tn2143_ tn2145_; omega)) (by decide)) dX6_renew_50 (fun H locs hP hD hS => ?_)
              rw [nI_clamp (by first | omega | (have t_c3 := neI c3; have t_n5 := n5; have t_n7 := n7; have t_hj12 := hj12; have t_n15 := n15; have tqz_ := qz2_; have tnb_ := nib3 tn2142_ tn2143_ tn2145_; omega))] at hP hD
              obtain ⟨hP, hD⟩ := va_rls (ws' := (([(h0, .inr (6, [.ref la, .ref si, .ref ce, .int x8, .int x9, .ref fi, .ref se])), (la, .inl (G 0, 4, .inl (upd fl k x1))), (si, .inl (G 0, 4, .inl (upd fz k (nI nn)))), (ce, .inl (G 4, 4, .inr (.inr (.inr (.inr (fun ir => if ir < 4 then some (rc ir) else none))))))] : va_W) ++ ((((List.range 4).map (fun iq => (rc iq, .inl (G 0, 40, .inl ((va_up g9 k (upd (g9 k) j8 0)) iq))))) : va_W) ++ []))) hP hD rfl
              refine lv_iinc (v := nI (j8 + 1)) (lv' := [(4, .int (nI (j8 + 1))), (0, .ref h0), (1, .int (nI k)), (2, .int x1), (3, .int (nI nn))]) hx hb dX6_renew_51 hl (k := 0) rfl (by rw [show Int32.ofInt 1 = nI 1 from by decide]; exact nI_add _ _) (by decide) rfl (fun ls hl => ?_)
              refine lv_goto (tgt := 35) hx hb dX6_renew_54 rfl ?_
              exact ih35_10 (j8 + 1) (by omega) (by omega) (va_up g9 k (upd (g9 k) j8 0)) _ _ (by rw [hinv]; exact up_z) hP hD hS ls (lv_sub hl [0, 1, 2, 3, 4] rfl)
        exact loop35_10 (nn + 1) 0 (by omega) (by omega) F _ _ up_0 hP hD hS ls (lv_sub hl [0, 1, 2, 3, 4] rfl)
      · skip
        have t_c3 := neI c3
        have t_n5 := n5
        have t_c6 := nleI c6
        have : (0 : Int32).toInt = 0 := qI_0
        have : (1 : Int32).toInt = 1 := qI_1
        have : (40 : Int32).toInt = 40 := qI_40
        have t_n0 : (nI k).toInt = (k : Int) := tn2142_ ()
        have t_n1 : (nI nn).toInt = (nn : Int) := tn2143_ ()
        exfalso; omega

set_option maxHeartbeats 1000000 in
set_option maxRecDepth 100000 in
theorem c_X11_sheetO (l : Launch) (dC : Nat → ClassId) (dI : Nat → Nat → Nat) (G : Nat → ClassId) (sz : Nat) (h0 st N B rp tp T cu lt od th be ln S ma M ah bh ik la lg ce : Nat) (k lane n vrs vrb vhs vca vxs vxb vfa vbr vba vsp vhe vtk vva vto : Int32) (fla : Nat → Int32) (flg : Nat → Int32) (fce : Nat → Int32) (hN : N ≤ 10) (hB : B ≤ 6) (hT : T ≤ 320) (hS0 : S ≤ 8) (hM : M ≤ 6) (hz : ∀ q : Nat, q < 4 → 0 ≤ (flg q).toInt ∧ (flg q).toInt ≤ 40) : Met l yX11_sheet (Cond.code yX11_sheet cX11_sheet 5 (some .int) :: GT) ({ frames := 1, cells := 0, slots := 0, locals := 25 } : Room) (PcW [.ref h0, .int k, .int lane, .int n] dC dI G [(h0, .inr (11, [.ref st, .int (nI N), .int (nI B), .ref rp, .int vrs, .int vrb, .int vhs, .int vca, .int vxs, .int vxb, .ref tp, .int (nI T), .int vfa, .int vbr, .int vba, .int vsp, .int vhe, .int vtk, .int vva, .ref cu, .ref lt, .ref od, .ref th, .ref be, .ref ln, .int (nI S), .ref ma, .int (nI M), .ref ah, .ref bh, .ref ik, .ref la, .ref lg, .ref ce, .int vto])), (la, .inl (G 0, 4, .inl fla)), (lg, .inl (G 0, 4, .inl flg)), (ce, .inl (G 0, 160, .inl fce))] sz) (va_Qi (fun (r : Int32) (u : (Nat → Int32) × (Nat → Int32) × (Nat → Int32)) => match u with | (ola, olg, oce) => (r = if (0 ≤ k.toInt ∧ k.toInt < 4) ∧ (0 ≤ lane.toInt ∧ lane.toInt ≤ 2) ∧ n.toInt ≤ 40 then (if n.toInt < 0 then -14 else 1) else -1) ∧ ((ola = (if ((0 ≤ k.toInt ∧ k.toInt < 4) ∧ (0 ≤ lane.toInt ∧ lane.toInt ≤ 2) ∧ n.toInt ≤ 40 ∧ 0 ≤ n.toInt) then upd fla k.toNatClampNeg lane else fla) ∧ olg = (if ((0 ≤ k.toInt ∧ k.toInt < 4) ∧ (0 ≤ lane.toInt ∧ lane.toInt ≤ 2) ∧ n.toInt ≤ 40 ∧ 0 ≤ n.toInt) then upd flg k.toNatClampNeg n else flg)) ∧ ∀ q : Nat, q < 4 → 0 ≤ (olg q).toInt ∧ (olg q).toInt ≤ 40) ∧ oce = (if ((0 ≤ k.toInt ∧ k.toInt < 4) ∧ (0 ≤ lane.toInt ∧ lane.toInt ≤ 2) ∧ n.toInt ≤ 40 ∧ 0 ≤ n.toInt) then zpg k.toNatClampNeg 40 fce else fce)) (fun (u : (Nat → Int32) × (Nat → Int32) × (Nat → Int32)) (t : State) => match u with | (ola, olg, oce) => va_P (dC, dI) vwCl [(h0, .inr (11, [.ref st, .int (nI N), .int (nI B), .ref rp, .int vrs, .int vrb, .int vhs, .int vca, .int vxs, .int vxb, .ref tp, .int (nI T), .int vfa, .int vbr, .int vba, .int vsp, .int vhe, .int vtk, .int vva, .ref cu, .ref lt, .ref od, .ref th, .ref be, .ref ln, .int (nI S), .ref ma, .int (nI M), .ref ah, .ref bh, .ref ik, .ref la, .ref lg, .ref ce, .int vto])), (la, .inl (G 0, 4, .inl ola)), (lg, .inl (G 0, 4, .inl olg)), (ce, .inl (G 0, 160, .inl oce))] t.heap ∧ va_D (va_A [(h0, .inr (11, [.ref st, .int (nI N), .int (nI B), .ref rp, .int vrs, .int vrb, .int vhs, .int vca, .int vxs, .int vxb, .ref tp, .int (nI T), .int vfa, .int vbr, .int vba, .int vsp, .int vhe, .int vtk, .int vva, .ref cu, .ref lt, .ref od, .ref th, .ref be, .ref ln, .int (nI S), .ref ma, .int (nI M), .ref ah, .ref bh, .ref ik, .ref la, .ref lg, .ref ce, .int vto])), (la, .inl (G 0, 4, .inl fla)), (lg, .inl (G 0, 4, .inl flg)), (ce, .inl (G 0, 160, .inl fce))] sz) [(h0, .inr (11, [.ref st, .int (nI N), .int (nI B), .ref rp, .int vrs, .int vrb, .int vhs, .int vca, .int vxs, .int vxb, .ref tp, .int (nI T), .int vfa, .int vbr, .int vba, .int vsp, .int vhe, .int vtk, .int vva, .ref cu, .ref lt, .ref od, .ref th, .ref be, .ref ln, .int (nI S), .ref ma, .int (nI M), .ref ah, .ref bh, .ref ik, .ref la, .ref lg, .ref ce, .int vto])), (la, .inl (G 0, 4, .inl ola)), (lg, .inl (G 0, 4, .inl olg)), (ce, .inl (G 0, 160, .inl oce))]) (va_A [(h0, .inr (11, [.ref st, .int (nI N), .int (nI B), .ref rp, .int vrs, .int vrb, .int vhs, .int vca, .int vxs, .int vxb, .ref tp, .int (nI T), .int vfa, .int vbr, .int vba, .int vsp, .int vhe, .int vtk, .int vva, .ref cu, .ref lt, .ref od, .ref th, .ref be, .ref ln, .int (nI S), .ref ma, .int (nI M), .ref ah, .ref bh, .ref ik, .ref la, .ref lg, .ref ce, .int vto])), (la, .inl (G 0, 4, .inl fla)), (lg, .inl (G 0, 4, .inl flg)), (ce, .inl (G 0, 160, .inl fce))] sz)) 0 0 (va_A [(h0, .inr (11, [.ref st, .int (nI N), .int (nI B), .ref rp, .int vrs, .int vrb, .int vhs, .int vca, .int vxs, .int vxb, .ref tp, .int (nI T), .int vfa, .int vbr, .int vba, .int vsp, .int vhe, .int vtk, .int vva, .ref cu, .ref lt, .ref od, .ref th, .ref be, .ref ln, .int (nI S), .ref ma, .int (nI M), .ref ah, .ref bh, .ref ik, .ref la, .ref lg, .ref ce, .int vto])), (la, .inl (G 0, 4, .inl fla)), (lg, .inl (G 0, 4, .inl flg)), (ce, .inl (G 0, 160, .inl fce))] sz) := by
  have tn2146_ : nIT N := fun _ => nI_toInt (by omega)
  have tn2147_ : nIT B := fun _ => nI_toInt (by omega)
  have tn2148_ : nIT T := fun _ => nI_toInt (by omega)
  have tn2149_ : nIT S := fun _ => nI_toInt (by omega)
  have tn2150_ : nIT M := fun _ => nI_toInt (by omega)
  refine Met.ofW (cc := cX11_sheet) (maxL := 5) (ret := (some .int)) (by decide) rfl ?_
  intro p e s m args below meth c s₁ Bd hml hv
  obtain ⟨rfl, hsz, hP, hK, hD0⟩ := hv
  have hx := Bd.exec
  have hb := Bd.bytes
  have hr := Bd.returns
  have hg : ∀ w ∈ GT, w.before ([.ref h0, .int k, .int lane, .int n] : List Value).toArray s = true := fun w h => atoms_spec (ws := Cond.code yX11_sheet cX11_sheet 5 (some .int) :: GT) Bd.pre w (List.mem_cons_of_mem _ h)
  have hown : s.vm.findClass RX11 = some m.cls := findClass_of_methodNamed Bd.named
  have hlocks := Bd.notSynchronized
  subst hsz
  have hD := hD0.self (sz := s.heap.size)
  generalize hAe : va_A [(h0, .inr (11, [.ref st, .int (nI N), .int (nI B), .ref rp, .int vrs, .int vrb, .int vhs, .int vca, .int vxs, .int vxb, .ref tp, .int (nI T), .int vfa, .int vbr, .int vba, .int vsp, .int vhe, .int vtk, .int vva, .ref cu, .ref lt, .ref od, .ref th, .ref be, .ref ln, .int (nI S), .ref ma, .int (nI M), .ref ah, .ref bh, .ref ik, .ref la, .ref lg, .ref ce, .int vto])), (la, .inl (G 0, 4, .inl fla)), (lg, .inl (G 0, 4, .inl flg)), (ce, .inl (G 0, 160, .inl fce))] s.heap.size = A at hD ⊢
  have hA : ∀ q : Nat, s.heap.size ≤ q → A q := fun q h => by rw [← hAe]; exact Or.inr h
  have hS : va_S A s.heap s.heap [] := va_S.rf
  have hl := lv_entry ([.ref h0, .int k, .int lane, .int n]) (n := 5) (Nat.le_of_ble_eq_true rfl)
  rw [lg_entry_eq]
  generalize (lg_sl ([.ref h0, .int k, .int lane, .int n]) ++ List.replicate (5 - (lg_sl ([.ref h0, .int k, .int lane, .int n])).length) Slot.unset).toArray = ls at hl ⊢
  have hl : lv_has ls 5 [(0, .ref h0), (1, .int k), (2, .int lane), (3, .int n)] := hl
  refine lv_iload_n hx hb dX11_sheet_0 rfl (lv_at hl 1 rfl) ?_
  refine lv_i2l (v := k.toInt64) hx hb dX11_sheet_1 rfl ?_
  refine lv_lconst (v := 0) hx hb dX11_sheet_2 (by decide) ?_
  refine lv_ldc2 (v := 3) hx hb hown (hg _ wt_1023) dX11_sheet_3 ?_
  have hPc := hP.sub (ws' := []) [] rfl
  refine va_calli (va_runS (As := [.long k.toInt64, .long 0, .long 3]) (rest := []) ⟨hx, hb, hml, hown, hg⟩ (c_X11_in l dC dI G _ k.toInt64 0 3) (kwS hg mfX11_in wt_992 ⟨Nat.le_of_ble_eq_true rfl, Nat.le_of_ble_eq_true rfl⟩) (preSR hK hPc) rfl rfl hl.1 rfl (lv_room (Nat.le_of_ble_eq_true rfl)) dX11_sheet_6 ⟨Nat.le_of_ble_eq_true rfl, Nat.le_of_ble_eq_true rfl⟩) hS (fun q h1 h2 => absurd h2 (Nat.not_le.mpr h1)) (fun q h => hA q (Nat.le_trans hS.1 h)) (fun r1 ur1 t H1 locs ht hvm w2 hB hz1 hk1 hS => ?_)
  have hP := keepR hP hk1
  obtain ⟨w2, w2x⟩ := w2
  try simp only [l_ii, show (0 : Int64).toInt = 0 from by decide, show (3 : Int64).toInt = 3 from by decide] at w2
  subst w2
  refine lv_if_eq (tgt := 30) hx hb dX11_sheet_9 rfl (fun c3 => ?_) (fun c3 => ?_)
  · skip
    have b4 := if10_n c3
    refine lv_iconst (v := (-1)) hx hb dX11_sheet_30 rfl ?_
    have hpost : ((-1) : Int32) = if (0 ≤ k.toInt ∧ k.toInt < 4) ∧ (0 ≤ lane.toInt ∧ lane.toInt ≤ 2) ∧ n.toInt ≤ 40 then (if n.toInt < 0 then -14 else 1) else -1 := by
      have t_b4 := b4
      have t_n0 : (nI N).toInt = (N : Int) := tn2146_ ()
      have t_n1 : (nI B).toInt = (B : Int) := tn2147_ ()
      have t_n2 : (nI T).toInt = (T : Int) := tn2148_ ()
      have t_n3 : (nI S).toInt = (S : Int) := tn2149_ ()
      have t_n4 : (nI M).toInt = (M : Int) := tn2150_ ()
      first | rfl | ((repeat' split) <;> first | rfl | omega)
    obtain ⟨hP9, hD9⟩ := va_sub2 (ws' := [(h0, .inr (11, [.ref st, .int (nI N), .int (nI B), .ref rp, .int vrs, .int vrb, .int vhs, .int vca, .int vxs, .int vxb, .ref tp, .int (nI T), .int vfa, .int vbr, .int vba, .int vsp, .int vhe, .int vtk, .int vva, .ref cu, .ref lt, .ref od, .ref th, .ref be, .ref ln, .int (nI S), .ref ma, .int (nI M), .ref ah, .ref bh, .ref ik, .ref la, .ref lg, .ref ce, .int vto])), (la, .inl (G 0, 4, .inl fla)), (lg, .inl (G 0, 4, .inl flg)), (ce, .inl (G 0, 160, .inl fce))]) hP hD [0, 1, 2, 3] (by decide +kernel) rfl
    refine W.widen (k := 0) (n := 0) (Nat.le_of_ble_eq_true rfl) (Nat.le_of_ble_eq_true rfl) ?_
    exact W.iret (v := (-1)) hx hb hr (fun t ht hW => ⟨⟨(-1), (fla, flg, fce), rfl, ⟨hpost, ⟨(by have t_b4 := b4; have tnb_ := nib5 tn2146_ tn2147_ tn2148_ tn2149_ tn2150_; refine ⟨⟨?_, ?_⟩, hz⟩ <;> rw [if_neg (by omega)]), (by have t_b4 := b4; have tnb_ := nib5 tn2146_ tn2147_ tn2148_ tn2149_ tn2150_; rw [if_neg (by omega)])⟩⟩, ⟨by rw [ht]; exact hP9, hD9⟩⟩, hS.F ht⟩) hS.2.2 dX11_sheet_31
  · skip
    have b5 := if10_p c3
    refine lv_iload_n hx hb dX11_sheet_12 rfl (lv_at hl 2 rfl) ?_
    refine lv_i2l (v := lane.toInt64) hx hb dX11_sheet_13 rfl ?_
    refine lv_lconst (v := 0) hx hb dX11_sheet_14 (by decide) ?_
    refine lv_ldc2 (v := 2) hx hb hown (hg _ wt_1056) dX11_sheet_15 ?_
    have hPc := hP.sub (ws' := []) [] rfl
    refine va_calli (va_runS (As := [.long lane.toInt64, .long 0, .long 2]) (rest := []) ⟨hx, hb, hml, hown, hg⟩ (c_X11_in l dC dI G _ lane.toInt64 0 2) (kwS hg mfX11_in wt_992 ⟨Nat.le_of_ble_eq_true rfl, Nat.le_of_ble_eq_true rfl⟩) (preSR hK hPc) rfl rfl hl.1 rfl (lv_room (Nat.le_of_ble_eq_true rfl)) dX11_sheet_18 ⟨Nat.le_of_ble_eq_true rfl, Nat.le_of_ble_eq_true rfl⟩) hS (fun q h1 h2 => absurd h2 (Nat.not_le.mpr h1)) (fun q h => hA q (Nat.le_trans hS.1 h)) (fun r6 ur6 t H1 locs ht hvm w7 hB hz1 hk1 hS => ?_)
    have hP := keepR hP hk1
    obtain ⟨w7, w7x⟩ := w7
    try simp only [l_ii, show (0 : Int64).toInt = 0 from by decide, show (2 : Int64).toInt = 2 from by decide] at w7
    subst w7
    refine lv_if_eq (tgt := 30) hx hb dX11_sheet_21 rfl (fun c8 => ?_) (fun c8 => ?_)
    · skip
      have b9 := if10_n c8
      refine lv_iconst (v := (-1)) hx hb dX11_sheet_30 rfl ?_
      have hpost : ((-1) : Int32) = if (0 ≤ k.toInt ∧ k.toInt < 4) ∧ (0 ≤ lane.toInt ∧ lane.toInt ≤ 2) ∧ n.toInt ≤ 40 then (if n.toInt < 0 then -14 else 1) else -1 := by
        have t_b5 := b5
        have t_b9 := b9
        have t_n0 : (nI N).toInt = (N : Int) := tn2146_ ()
        have t_n1 : (nI B).toInt = (B : Int) := tn2147_ ()
        have t_n2 : (nI T).toInt = (T : Int) := tn2148_ ()
        have t_n3 : (nI S).toInt = (S : Int) := tn2149_ ()
        have t_n4 : (nI M).toInt = (M : Int) := tn2150_ ()
        first | rfl | ((repeat' split) <;> first | rfl | omega)
      obtain ⟨hP9, hD9⟩ := va_sub2 (ws' := [(h0, .inr (11, [.ref st, .int (nI N), .int (nI B), .ref rp, .int vrs, .int vrb, .int vhs, .int vca, .int vxs, .int vxb, .ref tp, .int (nI T), .int vfa, .int vbr, .int vba, .int vsp, .int vhe, .int vtk, .int vva, .ref cu, .ref lt, .ref od, .ref th, .ref be, .ref ln, .int (nI S), .ref ma, .int (nI M), .ref ah, .ref bh, .ref ik, .ref la, .ref lg, .ref ce, .int vto])), (la, .inl (G 0, 4, .inl fla)), (lg, .inl (G 0, 4, .inl flg)), (ce, .inl (G 0, 160, .inl fce))]) hP hD [0, 1, 2, 3] (by decide +kernel) rfl
      refine W.widen (k := 0) (n := 0) (Nat.le_of_ble_eq_true rfl) (Nat.le_of_ble_eq_true rfl) ?_
      exact W.iret (v := (-1)) hx hb hr (fun t ht hW => ⟨⟨(-1), (fla, flg, fce), rfl, ⟨hpost, ⟨(by have t_b5 := b5; have t_b9 := b9; have tnb_ := nib5 tn2146_ tn2147_ tn2148_ tn2149_ tn2150_; refine ⟨⟨?_, ?_⟩, hz⟩ <;> rw [if_neg (by omega)]), (by have t_b5 := b5; have t_b9 := b9; have tnb_ := nib5 tn2146_ tn2147_ tn2148_ tn2149_ tn2150_; rw [if_neg (by omega)])⟩⟩, ⟨by rw [ht]; exact hP9, hD9⟩⟩, hS.F ht⟩) hS.2.2 dX11_sheet_31
    · skip
      have b10 := if10_p c8
      refine lv_iload_n hx hb dX11_sheet_24 rfl (lv_at hl 3 rfl) ?_
      refine lv_bipush (v := 40) hx hb dX11_sheet_25 rfl ?_
      refine lv_icmp_le (tgt := 32) hx hb dX11_sheet_27 rfl (fun c11 => ?_) (fun c11 => ?_)
      · skip
        refine lv_iload_n hx hb dX11_sheet_32 rfl (lv_at hl 3 rfl) ?_
        refine lv_if_ge (tgt := 39) hx hb dX11_sheet_33 rfl (fun c12 => ?_) (fun c12 => ?_)
        · skip
          obtain ⟨kk, hkk, rfl⟩ : ∃ j : Nat, j < 4 ∧ k = nI j := by
            have t_b5 := b5
            have t_b10 := b10
            have t_c11 := leI c11
            have t_c12 := leI c12
            have : (0 : Int32).toInt = 0 := qI_0
            have : (40 : Int32).toInt = 40 := qI_40
            have t_n0 : (nI N).toInt = (N : Int) := tn2146_ ()
            have t_n1 : (nI B).toInt = (B : Int) := tn2147_ ()
            have t_n2 : (nI T).toInt = (T : Int) := tn2148_ ()
            have t_n3 : (nI S).toInt = (S : Int) := tn2149_ ()
            have t_n4 : (nI M).toInt = (M : Int) := tn2150_ ()
            exact i32_nat (by omega) (by omega)
          obtain ⟨nn, hnn, rfl⟩ : ∃ j : Nat, j < 41 ∧ n = nI j := by
            have t_b5 := b5
            have t_b10 := b10
            have t_c11 := leI c11
            have t_c12 := leI c12
            have t_hkk := hkk
            have : (0 : Int32).toInt = 0 := qI_0
            have : (40 : Int32).toInt = 40 := qI_40
            have t_n0 : (nI N).toInt = (N : Int) := tn2146_ ()
            have t_n1 : (nI B).toInt = (B : Int) := tn2147_ ()
            have t_n2 : (nI T).toInt = (T : Int) := tn2148_ ()
            have t_n3 : (nI S).toInt = (S : Int) := tn2149_ ()
            have t_n4 : (nI M).toInt = (M : Int) := tn2150_ ()
            have tn2151_ : nIT kk := fun _ => nI_toInt (by omega)
            have t_n5 : (nI kk).toInt = (kk : Int) := tn2151_ ()
            exact i32_nat (by omega) (by omega)
          refine lv_aload_n hx hb dX11_sheet_39 rfl (lv_at hl 0 rfl) ?_
          refine va_get (D := (dC, dI)) (ci := 11) (v := .ref la) (C := RX11) (T := TX11) (N := 35) hx hb hg inG11 hown hK.1 hP 0 rfl rfl 31 (Nat.le_of_ble_eq_true rfl) (hg _ wt_909) (fun _ h9 => h9) rfl dX11_sheet_40 ?_
          refine lv_iload_n hx hb dX11_sheet_43 rfl (lv_at hl 1 rfl) ?_
          refine lv_iload_n hx hb dX11_sheet_44 rfl (lv_at hl 2 rfl) ?_
          have tn2152_ : nIT kk := fun _ => nI_toInt (by first | omega | (have t_b5 := b5; have t_b10 := b10; have t_c11 := leI c11; have t_c12 := leI c12; have t_hkk := hkk; have t_hnn := hnn; have tqz_ := qz11_; omega))
          have tn2153_ : nIT nn := fun _ => nI_toInt (by first | omega | (have t_b5 := b5; have t_b10 := b10; have t_c11 := leI c11; have t_c12 := leI c12; have t_hkk := hkk; have t_hnn := hnn; have tqz_ := qz11_; omega))
          refine va_iast hx hb hK.1 hP hD hS 1 0 rfl rfl (vp_in_nI (by first | omega | (have t_b5 := b5; have t_b10 := b10; have t_c11 := leI c11; have t_c12 := leI c12; have t_hkk := hkk; have t_hnn := hnn; have tqz_ := qz11_; have tnb_ := nib7 tn2146_ tn2147_ tn2148_ tn2149_ tn2150_ tn2152_ tn2153_; omega)) (by decide)) dX11_sheet_45 (fun H locs hP hD hS => ?_)
          rw [nI_clamp (by omega)] at hP hD
          refine lv_aload_n hx hb dX11_sheet_46 rfl (lv_at hl 0 rfl) ?_
          refine va_get (D := (dC, dI)) (ci := 11) (v := .ref lg) (C := RX11) (T := TX11) (N := 35) hx hb hg inG11 hown hK.1 hP 0 rfl rfl 32 (Nat.le_of_ble_eq_true rfl) (hg _ wt_910) (fun _ h9 => h9) rfl dX11_sheet_47 ?_
          refine lv_iload_n hx hb dX11_sheet_50 rfl (lv_at hl 1 rfl) ?_
          refine lv_iload_n hx hb dX11_sheet_51 rfl (lv_at hl 3 rfl) ?_
          refine va_iast hx hb hK.1 hP hD hS 2 0 rfl rfl (vp_in_nI (by first | omega | (have t_b5 := b5; have t_b10 := b10; have t_c11 := leI c11; have t_c12 := leI c12; have t_hkk := hkk; have t_hnn := hnn; have tqz_ := qz11_; have tnb_ := nib7 tn2146_ tn2147_ tn2148_ tn2149_ tn2150_ tn2152_ tn2153_; omega)) (by decide)) dX11_sheet_52 (fun H locs hP hD hS => ?_)
          rw [nI_clamp (by omega)] at hP hD
          refine lv_iconst (v := 0) hx hb dX11_sheet_53 rfl ?_
          refine lv_istore (lv' := [(4, .int 0), (0, .ref h0), (1, .int (nI kk)), (2, .int lane), (3, .int (nI nn))]) hx hb dX11_sheet_54 hl (by decide) rfl (fun ls hl => ?_)
          have loop56_15 : ∀ (nf j13 : Nat), 40 + 1 ≤ j13 + nf → j13 ≤ 40 → ∀ (g14 : Nat → Int32) (H : Heap) (locs : List Loc), g14 = zpg kk j13 fce → va_P (dC, dI) vwCl [(h0, .inr (11, [.ref st, .int (nI N), .int (nI B), .ref rp, .int vrs, .int vrb, .int vhs, .int vca, .int vxs, .int vxb, .ref tp, .int (nI T), .int vfa, .int vbr, .int vba, .int vsp, .int vhe, .int vtk, .int vva, .ref cu, .ref lt, .ref od, .ref th, .ref be, .ref ln, .int (nI S), .ref ma, .int (nI M), .ref ah, .ref bh, .ref ik, .ref la, .ref lg, .ref ce, .int vto])), (la, .inl (G 0, 4, .inl (upd fla kk lane))), (lg, .inl (G 0, 4, .inl (upd flg kk (nI nn)))), (ce, .inl (G 0, 160, .inl g14))] H → va_D A [(h0, .inr (11, [.ref st, .int (nI N), .int (nI B), .ref rp, .int vrs, .int vrb, .int vhs, .int vca, .int vxs, .int vxb, .ref tp, .int (nI T), .int vfa, .int vbr, .int vba, .int vsp, .int vhe, .int vtk, .int vva, .ref cu, .ref lt, .ref od, .ref th, .ref be, .ref ln, .int (nI S), .ref ma, .int (nI M), .ref ah, .ref bh, .ref ik, .ref la, .ref lg, .ref ce, .int vto])), (la, .inl (G 0, 4, .inl (upd fla kk lane))), (lg, .inl (G 0, 4, .inl (upd flg kk (nI nn)))), (ce, .inl (G 0, 160, .inl g14))] → va_S A s.heap H locs → ∀ (ls : Array Slot), lv_has ls 5 [(4, .int (nI j13)), (0, .ref h0), (1, .int (nI kk)), (2, .int lane), (3, .int (nI nn))] → W p l e (headSpec (Cond.code yX11_sheet cX11_sheet 5 (some .int) :: GT) ({ frames := 1, cells := 0, slots := 0, locals := 25 } : Room)).room s m ([.ref h0, .int (nI kk), .int lane, .int (nI nn)] : List Value).toArray below meth c H locs 0 0 (MQ below (va_Qi (fun (r : Int32) (u : (Nat → Int32) × (Nat → Int32) × (Nat → Int32)) => match u with | (ola, olg, oce) => (r = if (0 ≤ (nI kk).toInt ∧ (nI kk).toInt < 4) ∧ (0 ≤ lane.toInt ∧ lane.toInt ≤ 2) ∧ (nI nn).toInt ≤ 40 then (if (nI nn).toInt < 0 then -14 else 1) else -1) ∧ ((ola = (if ((0 ≤ (nI kk).toInt ∧ (nI kk).toInt < 4) ∧ (0 ≤ lane.toInt ∧ lane.toInt ≤ 2) ∧ (nI nn).toInt ≤ 40 ∧ 0 ≤ (nI nn).toInt) then upd fla (nI kk).toNatClampNeg lane else fla) ∧ olg = (if ((0 ≤ (nI kk).toInt ∧ (nI kk).toInt < 4) ∧ (0 ≤ lane.toInt ∧ lane.toInt ≤ 2) ∧ (nI nn).toInt ≤ 40 ∧ 0 ≤ (nI nn).toInt) then upd flg (nI kk).toNatClampNeg (nI nn) else flg)) ∧ ∀ q : Nat, q < 4 → 0 ≤ (olg q).toInt ∧ (olg q).toInt ≤ 40) ∧ oce = (if ((0 ≤ (nI kk).toInt ∧ (nI kk).toInt < 4) ∧ (0 ≤ lane.toInt ∧ lane.toInt ≤ 2) ∧ (nI nn).toInt ≤ 40 ∧ 0 ≤ (nI nn).toInt) then zpg (nI kk).toNatClampNeg 40 fce else fce)) (fun (u : (Nat → Int32) × (Nat → Int32) × (Nat → Int32)) (t : State) => match u with | (ola, olg, oce) => va_P (dC, dI) vwCl [(h0, .inr (11, [.ref st, .int (nI N), .int (nI B), .ref rp, .int vrs, .int vrb, .int vhs, .int vca, .int vxs, .int vxb, .ref tp, .int (nI T), .int vfa, .int vbr, .int vba, .int vsp, .int vhe, .int vtk, .int vva, .ref cu, .ref lt, .ref od, .ref th, .ref be, .ref ln, .int (nI S), .ref ma, .int (nI M), .ref ah, .ref bh, .ref ik, .ref la, .ref lg, .ref ce, .int vto])), (la, .inl (G 0, 4, .inl ola)), (lg, .inl (G 0, 4, .inl olg)), (ce, .inl (G 0, 160, .inl oce))] t.heap ∧ va_D A [(h0, .inr (11, [.ref st, .int (nI N), .int (nI B), .ref rp, .int vrs, .int vrb, .int vhs, .int vca, .int vxs, .int vxb, .ref tp, .int (nI T), .int vfa, .int vbr, .int vba, .int vsp, .int vhe, .int vtk, .int vva, .ref cu, .ref lt, .ref od, .ref th, .ref be, .ref ln, .int (nI S), .ref ma, .int (nI M), .ref ah, .ref bh, .ref ik, .ref la, .ref lg, .ref ce, .int vto])), (la, .inl (G 0, 4, .inl ola)), (lg, .inl (G 0, 4, .inl olg)), (ce, .inl (G 0, 160, .inl oce))]) A) ([.ref h0, .int (nI kk), .int lane, .int (nI nn)] : List Value).toArray s 0 0 A) (F0 m 56 ls []) := by
            intro nf
            induction nf with
            | zero => intro j13 h1 h2; exact absurd h1 (by omega)
            | succ nf ih56_15 =>
              intro j13 hn16 hj17 g14 H locs hinv hP hD hS ls hl
              refine lv_iload hx hb dX11_sheet_56 (lv_at hl 0 rfl) ?_
              refine lv_bipush (v := 40) hx hb dX11_sheet_58 rfl ?_
              refine lv_icmp_ge (tgt := 82) hx hb dX11_sheet_60 rfl (fun c18 => ?_) (fun c18 => ?_)
              · skip
                have tn2154_ : nIT j13 := fun _ => nI_toInt (by first | omega | (have t := leI c18; omega))
                have n19 : 40 ≤ j13 := by have t := leI c18; rw [show (nI (j13)).toInt = ((j13 : Nat) : Int) from tn2154_ ()] at t; have : (40 : Int32).toInt = 40 := qI_40; omega
                refine lv_iconst (v := 1) hx hb dX11_sheet_82 rfl ?_
                have hpost : (1 : Int32) = if (0 ≤ (nI kk).toInt ∧ (nI kk).toInt < 4) ∧ (0 ≤ lane.toInt ∧ lane.toInt ≤ 2) ∧ (nI nn).toInt ≤ 40 then (if (nI nn).toInt < 0 then -14 else 1) else -1 := by
                  have t_b5 := b5
                  have t_b10 := b10
                  have t_c11 := leI c11
                  have t_c12 := leI c12
                  have t_hkk := hkk
                  have t_hnn := hnn
                  have t_hj17 := hj17
                  have t_n19 := n19
                  have : (0 : Int32).toInt = 0 := qI_0
                  have : (40 : Int32).toInt = 40 := qI_40
                  have t_n0 : (nI N).toInt = (N : Int) := tn2146_ ()
                  have t_n1 : (nI B).toInt = (B : Int) := tn2147_ ()
                  have t_n2 : (nI T).toInt = (T : Int) := tn2148_ ()
                  have t_n3 : (nI S).toInt = (S : Int) := tn2149_ ()
                  have t_n4 : (nI M).toInt = (M : Int) := tn2150_ ()
                  have t_n5 : (nI kk).toInt = (kk : Int) := tn2152_ ()
                  have t_n6 : (nI nn).toInt = (nn : Int) := tn2153_ ()
                  have t_n7 : (nI j13).toInt = (j13 : Int) := tn2154_ ()
                  first | rfl | ((repeat' split) <;> first | rfl | omega)
                obtain ⟨hP9, hD9⟩ := va_sub2 (ws' := [(h0, .inr (11, [.ref st, .int (nI N), .int (nI B), .ref rp, .int vrs, .int vrb, .int vhs, .int vca, .int vxs, .int vxb, .ref tp, .int (nI T), .int vfa, .int vbr, .int vba, .int vsp, .int vhe, .int vtk, .int vva, .ref cu, .ref lt, .ref od, .ref th, .ref be, .ref ln, .int (nI S), .ref ma, .int (nI M), .ref ah, .ref bh, .ref ik, .ref la, .ref lg, .ref ce, .int vto])), (la, .inl (G 0, 4, .inl (upd fla kk lane))), (lg, .inl (G 0, 4, .inl (upd flg kk (nI nn)))), (ce, .inl (G 0, 160, .inl g14))]) hP hD [0, 1, 2, 3] (by decide +kernel) rfl
                refine W.widen (k := 0) (n := 0) (Nat.le_of_ble_eq_true rfl) (Nat.le_of_ble_eq_true rfl) ?_
                exact W.iret (v := 1) hx hb hr (fun t ht hW => ⟨⟨1, ((upd fla kk lane), (upd flg kk (nI nn)), g14), rfl, ⟨hpost, ⟨(by have t_b5 := b5; have t_b10 := b10; have t_c11 := leI c11; have t_c12 := leI c12; have t_hkk := hkk; have t_hnn := hnn; have t_hj17 := hj17; have t_n19 := n19; have tqz_ := qz11_; have tnb_ := nib8 tn2146_ tn2147_ tn2148_ tn2149_ tn2150_ tn2152_ tn2153_ tn2154_; refine ⟨⟨?_, ?_⟩, hz_upd hz (by omega)⟩ <;> rw [if_pos (by omega), nI_clamp (by omega)]), (by have t_b5 := b5; have t_b10 := b10; have t_c11 := leI c11; have t_c12 := leI c12; have t_hkk := hkk; have t_hnn := hnn; have t_hj17 := hj17; have t_n19 := n19; have tqz_ := qz11_; have tnb_ := nib8 tn2146_ tn2147_ tn2148_ tn2149_ tn2150_ tn2152_ tn2153_ tn2154_; rw [if_pos (by omega), nI_clamp (by omega), hinv, show j13 = 40 by omega])⟩⟩, ⟨by rw [ht]; exact hP9, hD9⟩⟩, hS.F ht⟩) hS.2.2 dX11_sheet_83
              · skip
                have tn2155_ : nIT j13 := fun _ => nI_toInt (by first | omega | (have t := nleI c18; omega))
                have n20 : j13 < 40 := by have t := nleI c18; rw [show (nI (j13)).toInt = ((j13 : Nat) : Int) from tn2155_ ()] at t; have : (40 : Int32).toInt = 40 := qI_40; omega
                refine lv_aload_n hx hb dX11_sheet_63 rfl (lv_at hl 1 rfl) ?_
                refine va_get (D := (dC, dI)) (ci := 11) (v := .ref ce) (C := RX11) (T := TX11) (N := 35) hx hb hg inG11 hown hK.1 hP 0 rfl rfl 33 (Nat.le_of_ble_eq_true rfl) (hg _ wt_911) (fun _ h9 => h9) rfl dX11_sheet_64 ?_
                refine lv_bipush (v := 40) hx hb dX11_sheet_67 rfl ?_
                refine lv_iload_n hx hb dX11_sheet_69 rfl (lv_at hl 2 rfl) ?_
                refine lv_imul hx hb dX11_sheet_70 ?_
                refine lv_cg (y := nI (40 * kk)) (by rw [show (40 : Int32) = nI 40 from rfl]; exact pk_mul _ _) ?_
                refine lv_iload hx hb dX11_sheet_71 (lv_at hl 0 rfl) ?_
                refine lv_iadd hx hb dX11_sheet_73 ?_
                refine lv_cg (y := nI ((40 * kk) + j13)) (by exact nI_add _ _) ?_
                refine lv_iconst (v := 0) hx hb dX11_sheet_74 rfl ?_
                refine va_iast hx hb hK.1 hP hD hS 3 0 rfl rfl (vp_in_nI (by first | omega | (have t_b5 := b5; have t_b10 := b10; have t_c11 := leI c11; have t_c12 := leI c12; have t_hkk := hkk; have t_hnn := hnn; have t_hj17 := hj17; have t_n20 := n20; have tqz_ := qz11_; have tnb_ := nib8 tn2146_ tn2147_ tn2148_ tn2149_ tn2150_ tn2152_ tn2153_ tn2155_; omega)) (by decide)) dX11_sheet_75 (fun H locs hP hD hS => ?_)
                rw [nI_clamp (by omega)] at hP hD
                refine lv_iinc (v := nI (j13 + 1)) (lv' := [(4, .int (nI (j13 + 1))), (0, .ref h0), (1, .int (nI kk)), (2, .int lane), (3, .int (nI nn))]) hx hb dX11_sheet_76 hl (k := 0) rfl (by rw [show Int32.ofInt 1 = nI 1 from by decide]; exact nI_add _ _) (by decide) rfl (fun ls hl => ?_)
                refine lv_goto (tgt := 56) hx hb dX11_sheet_79 rfl ?_
                exact ih56_15 (j13 + 1) (by omega) (by omega) (upd g14 ((40 * kk) + j13) 0) _ _ (by rw [hinv]; exact zpg_s) hP hD hS ls (lv_sub hl [0, 1, 2, 3, 4] rfl)
          exact loop56_15 (40 + 1) 0 (by omega) (by omega) fce _ _ zpg_0 hP hD hS ls (lv_sub hl [0, 1, 2, 3, 4] rfl)
        · skip
          refine lv_bipush (v := (-14)) hx hb dX11_sheet_36 rfl ?_
          have hpost : ((-14) : Int32) = if (0 ≤ k.toInt ∧ k.toInt < 4) ∧ (0 ≤ lane.toInt ∧ lane.toInt ≤ 2) ∧ n.toInt ≤ 40 then (if n.toInt < 0 then -14 else 1) else -1 := by
            have t_b5 := b5
            have t_b10 := b10
            have t_c11 := leI c11
            have t_c12 := nleI c12
            have : (0 : Int32).toInt = 0 := qI_0
            have : (40 : Int32).toInt = 40 := qI_40
            have t_n0 : (nI N).toInt = (N : Int) := tn2146_ ()
            have t_n1 : (nI B).toInt = (B : Int) := tn2147_ ()
            have t_n2 : (nI T).toInt = (T : Int) := tn2148_ ()
            have t_n3 : (nI S).toInt = (S : Int) := tn2149_ ()
            have t_n4 : (nI M).toInt = (M : Int) := tn2150_ ()
            first | rfl | ((repeat' split) <;> first | rfl | omega)
          obtain ⟨hP9, hD9⟩ := va_sub2 (ws' := [(h0, .inr (11, [.ref st, .int (nI N), .int (nI B), .ref rp, .int vrs, .int vrb, .int vhs, .int vca, .int vxs, .int vxb, .ref tp, .int (nI T), .int vfa, .int vbr, .int vba, .int vsp, .int vhe, .int vtk, .int vva, .ref cu, .ref lt, .ref od, .ref th, .ref be, .ref ln, .int (nI S), .ref ma, .int (nI M), .ref ah, .ref bh, .ref ik, .ref la, .ref lg, .ref ce, .int vto])), (la, .inl (G 0, 4, .inl fla)), (lg, .inl (G 0, 4, .inl flg)), (ce, .inl (G 0, 160, .inl fce))]) hP hD [0, 1, 2, 3] (by decide +kernel) rfl
          refine W.widen (k := 0) (n := 0) (Nat.le_of_ble_eq_true rfl) (Nat.le_of_ble_eq_true rfl) ?_
          exact W.iret (v := (-14)) hx hb hr (fun t ht hW => ⟨⟨(-14), (fla, flg, fce), rfl, ⟨hpost, ⟨(by have t_b5 := b5; have t_b10 := b10; have t_c11 := leI c11; have t_c12 := nleI c12; have tqz_ := qz11_; have tnb_ := nib5 tn2146_ tn2147_ tn2148_ tn2149_ tn2150_; refine ⟨⟨?_, ?_⟩, hz⟩ <;> rw [if_neg (by omega)]), (by have t_b5 := b5; have t_b10 := b10; have t_c11 := leI c11; have t_c12 := nleI c12; have tqz_ := qz11_; have tnb_ := nib5 tn2146_ tn2147_ tn2148_ tn2149_ tn2150_; rw [if_neg (by omega)])⟩⟩, ⟨by rw [ht]; exact hP9, hD9⟩⟩, hS.F ht⟩) hS.2.2 dX11_sheet_38
      · skip
        refine lv_iconst (v := (-1)) hx hb dX11_sheet_30 rfl ?_
        have hpost : ((-1) : Int32) = if (0 ≤ k.toInt ∧ k.toInt < 4) ∧ (0 ≤ lane.toInt ∧ lane.toInt ≤ 2) ∧ n.toInt ≤ 40 then (if n.toInt < 0 then -14 else 1) else -1 := by
          have t_b5 := b5
          have t_b10 := b10
          have t_c11 := nleI c11
          have : (40 : Int32).toInt = 40 := qI_40
          have t_n0 : (nI N).toInt = (N : Int) := tn2146_ ()
          have t_n1 : (nI B).toInt = (B : Int) := tn2147_ ()
          have t_n2 : (nI T).toInt = (T : Int) := tn2148_ ()
          have t_n3 : (nI S).toInt = (S : Int) := tn2149_ ()
          have t_n4 : (nI M).toInt = (M : Int) := tn2150_ ()
          first | rfl | ((repeat' split) <;> first | rfl | omega)
        obtain ⟨hP9, hD9⟩ := va_sub2 (ws' := [(h0, .inr (11, [.ref st, .int (nI N), .int (nI B), .ref rp, .int vrs, .int vrb, .int vhs, .int vca, .int vxs, .int vxb, .ref tp, .int (nI T), .int vfa, .int vbr, .int vba, .int vsp, .int vhe, .int vtk, .int vva, .ref cu, .ref lt, .ref od, .ref th, .ref be, .ref ln, .int (nI S), .ref ma, .int (nI M), .ref ah, .ref bh, .ref ik, .ref la, .ref lg, .ref ce, .int vto])), (la, .inl (G 0, 4, .inl fla)), (lg, .inl (G 0, 4, .inl flg)), (ce, .inl (G 0, 160, .inl fce))]) hP hD [0, 1, 2, 3] (by decide +kernel) rfl
        refine W.widen (k := 0) (n := 0) (Nat.le_of_ble_eq_true rfl) (Nat.le_of_ble_eq_true rfl) ?_
        exact W.iret (v := (-1)) hx hb hr (fun t ht hW => ⟨⟨(-1), (fla, flg, fce), rfl, ⟨hpost, ⟨(by have t_b5 := b5; have t_b10 := b10; have t_c11 := nleI c11; have : (40 : Int32).toInt = 40 := qI_40; have tnb_ := nib5 tn2146_ tn2147_ tn2148_ tn2149_ tn2150_; refine ⟨⟨?_, ?_⟩, hz⟩ <;> rw [if_neg (by omega)]), (by have t_b5 := b5; have t_b10 := b10; have t_c11 := nleI c11; have : (40 : Int32).toInt = 40 := qI_40; have tnb_ := nib5 tn2146_ tn2147_ tn2148_ tn2149_ tn2150_; rw [if_neg (by omega)])⟩⟩, ⟨by rw [ht]; exact hP9, hD9⟩⟩, hS.F ht⟩) hS.2.2 dX11_sheet_31

set_option maxHeartbeats 1000000 in
set_option maxRecDepth 100000 in
theorem c_X11_layO (l : Launch) (dC : Nat → ClassId) (dI : Nat → Nat → Nat) (G : Nat → ClassId) (sz : Nat) (h0 st N B rp tp T cu lt od th be ln S ma M ah bh ik la lg ce : Nat) (k i v vrs vrb vhs vca vxs vxb vfa vbr vba vsp vhe vtk vva vto : Int32) (fla : Nat → Int32) (flg : Nat → Int32) (fce : Nat → Int32) (hN : N ≤ 10) (hB : B ≤ 6) (hT : T ≤ 320) (hS0 : S ≤ 8) (hM : M ≤ 6) (hz : ∀ q : Nat, q < 4 → 0 ≤ (flg q).toInt ∧ (flg q).toInt ≤ 40) : Met l yX11_lay (Cond.code yX11_lay cX11_lay 4 (some .int) :: GT) ({ frames := 1, cells := 0, slots := 0, locals := 25 } : Room) (PcW [.ref h0, .int k, .int i, .int v] dC dI G [(h0, .inr (11, [.ref st, .int (nI N), .int (nI B), .ref rp, .int vrs, .int vrb, .int vhs, .int vca, .int vxs, .int vxb, .ref tp, .int (nI T), .int vfa, .int vbr, .int vba, .int vsp, .int vhe, .int vtk, .int vva, .ref cu, .ref lt, .ref od, .ref th, .ref be, .ref ln, .int (nI S), .ref ma, .int (nI M), .ref ah, .ref bh, .ref ik, .ref la, .ref lg, .ref ce, .int vto])), (la, .inl (G 0, 4, .inl fla)), (lg, .inl (G 0, 4, .inl flg)), (ce, .inl (G 0, 160, .inl fce))] sz) (va_Qi (fun (r : Int32) (u : (Nat → Int32)) => match u with | oce => (r = if 0 ≤ k.toInt ∧ k.toInt < 4 then (if fla k.toNatClampNeg = -4 then -11 else if 0 ≤ i.toInt ∧ i.toInt < (flg k.toNatClampNeg).toInt then 1 else -12) else -1) ∧ oce = (if ((0 ≤ k.toInt ∧ k.toInt < 4) ∧ ¬ fla k.toNatClampNeg = -4 ∧ 0 ≤ i.toInt ∧ i.toInt < (flg k.toNatClampNeg).toInt) then upd fce (40 * k.toNatClampNeg + i.toNatClampNeg) (nrR (fla k.toNatClampNeg) v) else fce)) (fun (u : (Nat → Int32)) (t : State) => match u with | oce => va_P (dC, dI) vwCl [(h0, .inr (11, [.ref st, .int (nI N), .int (nI B), .ref rp, .int vrs, .int vrb, .int vhs, .int vca, .int vxs, .int vxb, .ref tp, .int (nI T), .int vfa, .int vbr, .int vba, .int vsp, .int vhe, .int vtk, .int vva, .ref cu, .ref lt, .ref od, .ref th, .ref be, .ref ln, .int (nI S), .ref ma, .int (nI M), .ref ah, .ref bh, .ref ik, .ref la, .ref lg, .ref ce, .int vto])), (la, .inl (G 0, 4, .inl fla)), (lg, .inl (G 0, 4, .inl flg)), (ce, .inl (G 0, 160, .inl oce))] t.heap ∧ va_D (va_A [(h0, .inr (11, [.ref st, .int (nI N), .int (nI B), .ref rp, .int vrs, .int vrb, .int vhs, .int vca, .int vxs, .int vxb, .ref tp, .int (nI T), .int vfa, .int vbr, .int vba, .int vsp, .int vhe, .int vtk, .int vva, .ref cu, .ref lt, .ref od, .ref th, .ref be, .ref ln, .int (nI S), .ref ma, .int (nI M), .ref ah, .ref bh, .ref ik, .ref la, .ref lg, .ref ce, .int vto])), (la, .inl (G 0, 4, .inl fla)), (lg, .inl (G 0, 4, .inl flg)), (ce, .inl (G 0, 160, .inl fce))] sz) [(h0, .inr (11, [.ref st, .int (nI N), .int (nI B), .ref rp, .int vrs, .int vrb, .int vhs, .int vca, .int vxs, .int vxb, .ref tp, .int (nI T), .int vfa, .int vbr, .int vba, .int vsp, .int vhe, .int vtk, .int vva, .ref cu, .ref lt, .ref od, .ref th, .ref be, .ref ln, .int (nI S), .ref ma, .int (nI M), .ref ah, .ref bh, .ref ik, .ref la, .ref lg, .ref ce, .int vto])), (la, .inl (G 0, 4, .inl fla)), (lg, .inl (G 0, 4, .inl flg)), (ce, .inl (G 0, 160, .inl oce))]) (va_A [(h0, .inr (11, [.ref st, .int (nI N), .int (nI B), .ref rp, .int vrs, .int vrb, .int vhs, .int vca, .int vxs, .int vxb, .ref tp, .int (nI T), .int vfa, .int vbr, .int vba, .int vsp, .int vhe, .int vtk, .int vva, .ref cu, .ref lt, .ref od, .ref th, .ref be, .ref ln, .int (nI S), .ref ma, .int (nI M), .ref ah, .ref bh, .ref ik, .ref la, .ref lg, .ref ce, .int vto])), (la, .inl (G 0, 4, .inl fla)), (lg, .inl (G 0, 4, .inl flg)), (ce, .inl (G 0, 160, .inl fce))] sz)) 0 0 (va_A [(h0, .inr (11, [.ref st, .int (nI N), .int (nI B), .ref rp, .int vrs, .int vrb, .int vhs, .int vca, .int vxs, .int vxb, .ref tp, .int (nI T), .int vfa, .int vbr, .int vba, .int vsp, .int vhe, .int vtk, .int vva, .ref cu, .ref lt, .ref od, .ref th, .ref be, .ref ln, .int (nI S), .ref ma, .int (nI M), .ref ah, .ref bh, .ref ik, .ref la, .ref lg, .ref ce, .int vto])), (la, .inl (G 0, 4, .inl fla)), (lg, .inl (G 0, 4, .inl flg)), (ce, .inl (G 0, 160, .inl fce))] sz) := by
  have tn2156_ : nIT N := fun _ => nI_toInt (by omega)
  have tn2157_ : nIT B := fun _ => nI_toInt (by omega)
  have tn2158_ : nIT T := fun _ => nI_toInt (by omega)
  have tn2159_ : nIT S := fun _ => nI_toInt (by omega)
  have tn2160_ : nIT M := fun _ => nI_toInt (by omega)
  refine Met.ofW (cc := cX11_lay) (maxL := 4) (ret := (some .int)) (by decide) rfl ?_
  intro p e s m args below meth c s₁ Bd hml hv
  obtain ⟨rfl, hsz, hP, hK, hD0⟩ := hv
  have hx := Bd.exec
  have hb := Bd.bytes
  have hr := Bd.returns
  have hg : ∀ w ∈ GT, w.before ([.ref h0, .int k, .int i, .int v] : List Value).toArray s = true := fun w h => atoms_spec (ws := Cond.code yX11_lay cX11_lay 4 (some .int) :: GT) Bd.pre w (List.mem_cons_of_mem _ h)
  have hown : s.vm.findClass RX11 = some m.cls := findClass_of_methodNamed Bd.named
  have hlocks := Bd.notSynchronized
  subst hsz
  have hD := hD0.self (sz := s.heap.size)
  generalize hAe : va_A [(h0, .inr (11, [.ref st, .int (nI N), .int (nI B), .ref rp, .int vrs, .int vrb, .int vhs, .int vca, .int vxs, .int vxb, .ref tp, .int (nI T), .int vfa, .int vbr, .int vba, .int vsp, .int vhe, .int vtk, .int vva, .ref cu, .ref lt, .ref od, .ref th, .ref be, .ref ln, .int (nI S), .ref ma, .int (nI M), .ref ah, .ref bh, .ref ik, .ref la, .ref lg, .ref ce, .int vto])), (la, .inl (G 0, 4, .inl fla)), (lg, .inl (G 0, 4, .inl flg)), (ce, .inl (G 0, 160, .inl fce))] s.heap.size = A at hD ⊢
  have hA : ∀ q : Nat, s.heap.size ≤ q → A q := fun q h => by rw [← hAe]; exact Or.inr h
  have hS : va_S A s.heap s.heap [] := va_S.rf
  have hl := lv_entry ([.ref h0, .int k, .int i, .int v]) (n := 4) (Nat.le_of_ble_eq_true rfl)
  rw [lg_entry_eq]
  generalize (lg_sl ([.ref h0, .int k, .int i, .int v]) ++ List.replicate (4 - (lg_sl ([.ref h0, .int k, .int i, .int v])).length) Slot.unset).toArray = ls at hl ⊢
  have hl : lv_has ls 4 [(0, .ref h0), (1, .int k), (2, .int i), (3, .int v)] := hl
  refine lv_iload_n hx hb dX11_lay_0 rfl (lv_at hl 1 rfl) ?_
  refine lv_i2l (v := k.toInt64) hx hb dX11_lay_1 rfl ?_
  refine lv_lconst (v := 0) hx hb dX11_lay_2 (by decide) ?_
  refine lv_ldc2 (v := 3) hx hb hown (hg _ wt_1023) dX11_lay_3 ?_
  have hPc := hP.sub (ws' := []) [] rfl
  refine va_calli (va_runS (As := [.long k.toInt64, .long 0, .long 3]) (rest := []) ⟨hx, hb, hml, hown, hg⟩ (c_X11_in l dC dI G _ k.toInt64 0 3) (kwS hg mfX11_in wt_992 ⟨Nat.le_of_ble_eq_true rfl, Nat.le_of_ble_eq_true rfl⟩) (preSR hK hPc) rfl rfl hl.1 rfl (lv_room (Nat.le_of_ble_eq_true rfl)) dX11_lay_6 ⟨Nat.le_of_ble_eq_true rfl, Nat.le_of_ble_eq_true rfl⟩) hS (fun q h1 h2 => absurd h2 (Nat.not_le.mpr h1)) (fun q h => hA q (Nat.le_trans hS.1 h)) (fun r1 ur1 t H1 locs ht hvm w2 hB hz1 hk1 hS => ?_)
  have hP := keepR hP hk1
  obtain ⟨w2, w2x⟩ := w2
  try simp only [l_ii, show (0 : Int64).toInt = 0 from by decide, show (3 : Int64).toInt = 3 from by decide] at w2
  subst w2
  refine lv_if_ne (tgt := 14) hx hb dX11_lay_9 rfl (fun c3 => ?_) (fun c3 => ?_)
  · skip
    have b4 := if10_p c3
    obtain ⟨kk, hkk, rfl⟩ : ∃ j : Nat, j < 4 ∧ k = nI j := by
      have t_b4 := b4
      have t_n0 : (nI N).toInt = (N : Int) := tn2156_ ()
      have t_n1 : (nI B).toInt = (B : Int) := tn2157_ ()
      have t_n2 : (nI T).toInt = (T : Int) := tn2158_ ()
      have t_n3 : (nI S).toInt = (S : Int) := tn2159_ ()
      have t_n4 : (nI M).toInt = (M : Int) := tn2160_ ()
      exact i32_nat (by omega) (by omega)
    refine lv_aload_n hx hb dX11_lay_14 rfl (lv_at hl 0 rfl) ?_
    refine va_get (D := (dC, dI)) (ci := 11) (v := .ref la) (C := RX11) (T := TX11) (N := 35) hx hb hg inG11 hown hK.1 hP 0 rfl rfl 31 (Nat.le_of_ble_eq_true rfl) (hg _ wt_909) (fun _ h9 => h9) rfl dX11_lay_15 ?_
    refine lv_iload_n hx hb dX11_lay_18 rfl (lv_at hl 1 rfl) ?_
    have tn2161_ : nIT kk := fun _ => nI_toInt (by first | omega | (have t_b4 := b4; have t_hkk := hkk; omega))
    refine va_iald hx hb hK.1 hP 1 0 rfl rfl (vp_in_nI (by first | omega | (have t_b4 := b4; have t_hkk := hkk; have tnb_ := nib6 tn2156_ tn2157_ tn2158_ tn2159_ tn2160_ tn2161_; omega)) (by decide)) dX11_lay_19 ?_
    refine lv_cg (y := fla kk) (by rw [nI_clamp (by omega)]) ?_
    refine lv_bipush (v := (-4)) hx hb dX11_lay_20 rfl ?_
    refine lv_icmp_ne (tgt := 28) hx hb dX11_lay_22 rfl (fun c5 => ?_) (fun c5 => ?_)
    · skip
      refine lv_iload_n hx hb dX11_lay_28 rfl (lv_at hl 2 rfl) ?_
      refine lv_i2l (v := i.toInt64) hx hb dX11_lay_29 rfl ?_
      refine lv_lconst (v := 0) hx hb dX11_lay_30 (by decide) ?_
      refine lv_aload_n hx hb dX11_lay_31 rfl (lv_at hl 0 rfl) ?_
      refine va_get (D := (dC, dI)) (ci := 11) (v := .ref lg) (C := RX11) (T := TX11) (N := 35) hx hb hg inG11 hown hK.1 hP 0 rfl rfl 32 (Nat.le_of_ble_eq_true rfl) (hg _ wt_910) (fun _ h9 => h9) rfl dX11_lay_32 ?_
      refine lv_iload_n hx hb dX11_lay_35 rfl (lv_at hl 1 rfl) ?_
      refine va_iald hx hb hK.1 hP 2 0 rfl rfl (vp_in_nI (by first | omega | (have t_b4 := b4; have t_hkk := hkk; have t_c5 := neI c5; have : ((-4) : Int32).toInt = -4 := qI_m4; have tnb_ := nib6 tn2156_ tn2157_ tn2158_ tn2159_ tn2160_ tn2161_; omega)) (by decide)) dX11_lay_36 ?_
      refine lv_cg (y := flg kk) (by rw [nI_clamp (by omega)]) ?_
      refine lv_iconst (v := 1) hx hb dX11_lay_37 rfl ?_
      refine lv_isub hx hb dX11_lay_38 ?_
      refine lv_i2l (v := ((flg kk) - 1).toInt64) hx hb dX11_lay_39 rfl ?_
      have hPc := hP.sub (ws' := []) [] rfl
      refine va_calli (va_runS (As := [.long i.toInt64, .long 0, .long (((flg kk) - 1).toInt64)]) (rest := []) ⟨hx, hb, hml, hown, hg⟩ (c_X11_in l dC dI G _ i.toInt64 0 (((flg kk) - 1).toInt64)) (kwS hg mfX11_in wt_992 ⟨Nat.le_of_ble_eq_true rfl, Nat.le_of_ble_eq_true rfl⟩) (preSR hK hPc) rfl rfl hl.1 rfl (lv_room (Nat.le_of_ble_eq_true rfl)) dX11_lay_40 ⟨Nat.le_of_ble_eq_true rfl, Nat.le_of_ble_eq_true rfl⟩) hS (fun q h1 h2 => absurd h2 (Nat.not_le.mpr h1)) (fun q h => hA q (Nat.le_trans hS.1 h)) (fun r6 ur6 t H1 locs ht hvm w7 hB hz1 hk1 hS => ?_)
      have hP := keepR hP hk1
      obtain ⟨w7, w7x⟩ := w7
      try simp only [l_ii, show (0 : Int64).toInt = 0 from by decide] at w7
      subst w7
      refine lv_if_ne (tgt := 49) hx hb dX11_lay_43 rfl (fun c8 => ?_) (fun c8 => ?_)
      · skip
        have b9 := if10_p c8
        have hzk := hz kk (by omega)
        have e9 := im1 (x := flg kk) hzk.1 hzk.2
        obtain ⟨ii, hii, rfl⟩ : ∃ j : Nat, j < 40 ∧ i = nI j := by
          have t_b4 := b4
          have t_hkk := hkk
          have t_c5 := neI c5
          have t_b9 := b9
          have : ((-4) : Int32).toInt = -4 := qI_m4
          have t_n0 : (nI N).toInt = (N : Int) := tn2156_ ()
          have t_n1 : (nI B).toInt = (B : Int) := tn2157_ ()
          have t_n2 : (nI T).toInt = (T : Int) := tn2158_ ()
          have t_n3 : (nI S).toInt = (S : Int) := tn2159_ ()
          have t_n4 : (nI M).toInt = (M : Int) := tn2160_ ()
          have t_n5 : (nI kk).toInt = (kk : Int) := tn2161_ ()
          exact i32_nat (by omega) (by omega)
        refine lv_aload_n hx hb dX11_lay_49 rfl (lv_at hl 0 rfl) ?_
        refine va_get (D := (dC, dI)) (ci := 11) (v := .ref ce) (C := RX11) (T := TX11) (N := 35) hx hb hg inG11 hown hK.1 hP 0 rfl rfl 33 (Nat.le_of_ble_eq_true rfl) (hg _ wt_911) (fun _ h9 => h9) rfl dX11_lay_50 ?_
        refine lv_bipush (v := 40) hx hb dX11_lay_53 rfl ?_
        refine lv_iload_n hx hb dX11_lay_55 rfl (lv_at hl 1 rfl) ?_
        refine lv_imul hx hb dX11_lay_56 ?_
        refine lv_cg (y := nI (40 * kk)) (by rw [show (40 : Int32) = nI 40 from rfl]; exact pk_mul _ _) ?_
        refine lv_iload_n hx hb dX11_lay_57 rfl (lv_at hl 2 rfl) ?_
        refine lv_iadd hx hb dX11_lay_58 ?_
        refine lv_cg (y := nI ((40 * kk) + ii)) (by exact nI_add _ _) ?_
        refine lv_aload_n hx hb dX11_lay_59 rfl (lv_at hl 0 rfl) ?_
        refine va_get (D := (dC, dI)) (ci := 11) (v := .ref la) (C := RX11) (T := TX11) (N := 35) hx hb hg inG11 hown hK.1 hP 0 rfl rfl 31 (Nat.le_of_ble_eq_true rfl) (hg _ wt_909) (fun _ h9 => h9) rfl dX11_lay_60 ?_
        refine lv_iload_n hx hb dX11_lay_63 rfl (lv_at hl 1 rfl) ?_
        have tn2162_ : nIT ii := fun _ => nI_toInt (by first | omega | (have t_b4 := b4; have t_hkk := hkk; have t_c5 := neI c5; have t_b9 := b9; have t_hii := hii; have : ((-4) : Int32).toInt = -4 := qI_m4; omega))
        refine va_iald hx hb hK.1 hP 1 0 rfl rfl (vp_in_nI (by first | omega | (have t_b4 := b4; have t_hkk := hkk; have t_c5 := neI c5; have t_b9 := b9; have t_hii := hii; have : ((-4) : Int32).toInt = -4 := qI_m4; have tnb_ := nib7 tn2156_ tn2157_ tn2158_ tn2159_ tn2160_ tn2161_ tn2162_; omega)) (by decide)) dX11_lay_64 ?_
        refine lv_cg (y := fla kk) (by rw [nI_clamp (by omega)]) ?_
        refine lv_if_ne (tgt := 78) hx hb dX11_lay_65 rfl (fun c10 => ?_) (fun c10 => ?_)
        · skip
          refine lv_aload_n hx hb dX11_lay_78 rfl (lv_at hl 0 rfl) ?_
          refine va_get (D := (dC, dI)) (ci := 11) (v := .ref la) (C := RX11) (T := TX11) (N := 35) hx hb hg inG11 hown hK.1 hP 0 rfl rfl 31 (Nat.le_of_ble_eq_true rfl) (hg _ wt_909) (fun _ h9 => h9) rfl dX11_lay_79 ?_
          refine lv_iload_n hx hb dX11_lay_82 rfl (lv_at hl 1 rfl) ?_
          refine va_iald hx hb hK.1 hP 1 0 rfl rfl (vp_in_nI (by first | omega | (have t_b4 := b4; have t_hkk := hkk; have t_c5 := neI c5; have t_b9 := b9; have t_hii := hii; have t_c10 := neI c10; have tqz_ := qz8_; have tnb_ := nib7 tn2156_ tn2157_ tn2158_ tn2159_ tn2160_ tn2161_ tn2162_; omega)) (by decide)) dX11_lay_83 ?_
          refine lv_cg (y := fla kk) (by rw [nI_clamp (by omega)]) ?_
          refine lv_iconst (v := 1) hx hb dX11_lay_84 rfl ?_
          refine lv_icmp_ne (tgt := 98) hx hb dX11_lay_85 rfl (fun c11 => ?_) (fun c11 => ?_)
          · skip
            refine lv_iload_n hx hb dX11_lay_98 rfl (lv_at hl 3 rfl) ?_
            refine va_iast hx hb hK.1 hP hD hS 3 0 rfl rfl (vp_in_nI (by first | omega | (have t_b4 := b4; have t_hkk := hkk; have t_c5 := neI c5; have t_b9 := b9; have t_hii := hii; have t_c10 := neI c10; have t_c11 := neI c11; have tqz_ := qz40_; have tnb_ := nib7 tn2156_ tn2157_ tn2158_ tn2159_ tn2160_ tn2161_ tn2162_; omega)) (by decide)) dX11_lay_99 (fun H locs hP hD hS => ?_)
            rw [nI_clamp (by omega)] at hP hD
            refine lv_iconst (v := 1) hx hb dX11_lay_100 rfl ?_
            have hpost : (1 : Int32) = if 0 ≤ (nI kk).toInt ∧ (nI kk).toInt < 4 then (if fla (nI kk).toNatClampNeg = -4 then -11 else if 0 ≤ (nI ii).toInt ∧ (nI ii).toInt < (flg (nI kk).toNatClampNeg).toInt then 1 else -12) else -1 := by
              rw [nI_clamp (by (have t_b4 := b4; have t_hkk := hkk; have t_c5 := neI c5; have t_b9 := b9; have t_hii := hii; have t_c10 := neI c10; have t_c11 := neI c11; have tqz_ := qz40_; have tnb_ := nib7 tn2156_ tn2157_ tn2158_ tn2159_ tn2160_ tn2161_ tn2162_; omega)), if_pos (by (have t_b4 := b4; have t_hkk := hkk; have t_c5 := neI c5; have t_b9 := b9; have t_hii := hii; have t_c10 := neI c10; have t_c11 := neI c11; have tqz_ := qz40_; have tnb_ := nib7 tn2156_ tn2157_ tn2158_ tn2159_ tn2160_ tn2161_ tn2162_; omega)), if_neg (by first | with_reducible assumption | assumption), if_pos (by (have t_b4 := b4; have t_hkk := hkk; have t_c5 := neI c5; have t_b9 := b9; have t_hii := hii; have t_c10 := neI c10; have t_c11 := neI c11; have tqz_ := qz40_; have tnb_ := nib7 tn2156_ tn2157_ tn2158_ tn2159_ tn2160_ tn2161_ tn2162_; omega))]
            obtain ⟨hP9, hD9⟩ := va_sub2 (ws' := [(h0, .inr (11, [.ref st, .int (nI N), .int (nI B), .ref rp, .int vrs, .int vrb, .int vhs, .int vca, .int vxs, .int vxb, .ref tp, .int (nI T), .int vfa, .int vbr, .int vba, .int vsp, .int vhe, .int vtk, .int vva, .ref cu, .ref lt, .ref od, .ref th, .ref be, .ref ln, .int (nI S), .ref ma, .int (nI M), .ref ah, .ref bh, .ref ik, .ref la, .ref lg, .ref ce, .int vto])), (la, .inl (G 0, 4, .inl fla)), (lg, .inl (G 0, 4, .inl flg)), (ce, .inl (G 0, 160, .inl (upd fce ((40 * kk) + ii) v)))]) hP hD [0, 1, 2, 3] (by decide +kernel) rfl
            refine W.widen (k := 0) (n := 0) (Nat.le_of_ble_eq_true rfl) (Nat.le_of_ble_eq_true rfl) ?_
            exact W.iret (v := 1) hx hb hr (fun t ht hW => ⟨⟨1, (upd fce ((40 * kk) + ii) v), rfl, ⟨hpost, (by clear hpost; have t_b4 := b4; have t_hkk := hkk; have t_c5 := neI c5; have t_b9 := b9; have t_hii := hii; have t_c10 := neI c10; have t_c11 := neI c11; have tqz_ := qz40_; have tnb_ := nib7 tn2156_ tn2157_ tn2158_ tn2159_ tn2160_ tn2161_ tn2162_; have tqz_ := qz46_; have z4 : (-4 : Int32).toInt = -4 := (by decide); have z10 : (10 : Int32).toInt = 10 := qI_10; have hzk := hz kk (by omega); have e9 := im1 (x := flg kk) hzk.1 hzk.2; rw [nI_clamp (by omega), nI_clamp (by omega), if_pos ⟨by omega, by assumption, by omega, by omega⟩]; unfold nrR; (try rw [if_pos (by first | with_reducible assumption | assumption)]); (try rw [if_neg (by first | with_reducible assumption | assumption)]); (try rw [if_pos (by first | with_reducible assumption | assumption)]); (try rw [if_neg (by first | with_reducible assumption | assumption)]); first | done | rfl)⟩, ⟨by rw [ht]; exact hP9, hD9⟩⟩, hS.F ht⟩) hS.2.2 dX11_lay_101
          · skip
            refine lv_iload_n hx hb dX11_lay_88 rfl (lv_at hl 3 rfl) ?_
            refine lv_bipush (v := 16) hx hb dX11_lay_89 rfl ?_
            refine lv_ishl hx hb dX11_lay_91 ?_
            refine lv_bipush (v := 16) hx hb dX11_lay_92 rfl ?_
            refine lv_ishr hx hb dX11_lay_94 ?_
            refine lv_goto (tgt := 99) hx hb dX11_lay_95 rfl ?_
            refine va_iast hx hb hK.1 hP hD hS 3 0 rfl rfl (vp_in_nI (by first | omega | (have t_b4 := b4; have t_hkk := hkk; have t_c5 := neI c5; have t_b9 := b9; have t_hii := hii; have t_c10 := neI c10; have t_c11 := eqI c11; have tqz_ := qz40_; have tnb_ := nib7 tn2156_ tn2157_ tn2158_ tn2159_ tn2160_ tn2161_ tn2162_; omega)) (by decide)) dX11_lay_99 (fun H locs hP hD hS => ?_)
            rw [nI_clamp (by omega)] at hP hD
            refine lv_iconst (v := 1) hx hb dX11_lay_100 rfl ?_
            have hpost : (1 : Int32) = if 0 ≤ (nI kk).toInt ∧ (nI kk).toInt < 4 then (if fla (nI kk).toNatClampNeg = -4 then -11 else if 0 ≤ (nI ii).toInt ∧ (nI ii).toInt < (flg (nI kk).toNatClampNeg).toInt then 1 else -12) else -1 := by
              rw [nI_clamp (by (have t_b4 := b4; have t_hkk := hkk; have t_c5 := neI c5; have t_b9 := b9; have t_hii := hii; have t_c10 := neI c10; have t_c11 := eqI c11; have tqz_ := qz40_; have tnb_ := nib7 tn2156_ tn2157_ tn2158_ tn2159_ tn2160_ tn2161_ tn2162_; omega)), if_pos (by (have t_b4 := b4; have t_hkk := hkk; have t_c5 := neI c5; have t_b9 := b9; have t_hii := hii; have t_c10 := neI c10; have t_c11 := eqI c11; have tqz_ := qz40_; have tnb_ := nib7 tn2156_ tn2157_ tn2158_ tn2159_ tn2160_ tn2161_ tn2162_; omega)), if_neg (by first | with_reducible assumption | assumption), if_pos (by (have t_b4 := b4; have t_hkk := hkk; have t_c5 := neI c5; have t_b9 := b9; have t_hii := hii; have t_c10 := neI c10; have t_c11 := eqI c11; have tqz_ := qz40_; have tnb_ := nib7 tn2156_ tn2157_ tn2158_ tn2159_ tn2160_ tn2161_ tn2162_; omega))]
            obtain ⟨hP9, hD9⟩ := va_sub2 (ws' := [(h0, .inr (11, [.ref st, .int (nI N), .int (nI B), .ref rp, .int vrs, .int vrb, .int vhs, .int vca, .int vxs, .int vxb, .ref tp, .int (nI T), .int vfa, .int vbr, .int vba, .int vsp, .int vhe, .int vtk, .int vva, .ref cu, .ref lt, .ref od, .ref th, .ref be, .ref ln, .int (nI S), .ref ma, .int (nI M), .ref ah, .ref bh, .ref ik, .ref la, .ref lg, .ref ce, .int vto])), (la, .inl (G 0, 4, .inl fla)), (lg, .inl (G 0, 4, .inl flg)), (ce, .inl (G 0, 160, .inl (upd fce ((40 * kk) + ii) ((v <<< ((16 : Int32) &&& 31)) >>> ((16 : Int32) &&& 31)))))]) hP hD [0, 1, 2, 3] (by decide +kernel) rfl
            refine W.widen (k := 0) (n := 0) (Nat.le_of_ble_eq_true rfl) (Nat.le_of_ble_eq_true rfl) ?_
            exact W.iret (v := 1) hx hb hr (fun t ht hW => ⟨⟨1, (upd fce ((40 * kk) + ii) ((v <<< ((16 : Int32) &&& 31)) >>> ((16 : Int32) &&& 31))), rfl, ⟨hpost, (by clear hpost; have t_b4 := b4; have t_hkk := hkk; have t_c5 := neI c5; have t_b9 := b9; have t_hii := hii; have t_c10 := neI c10; have t_c11 := eqI c11; have tqz_ := qz40_; have tnb_ := nib7 tn2156_ tn2157_ tn2158_ tn2159_ tn2160_ tn2161_ tn2162_; have tqz_ := qz46_; have z4 : (-4 : Int32).toInt = -4 := (by decide); have z10 : (10 : Int32).toInt = 10 := qI_10; have hzk := hz kk (by omega); have e9 := im1 (x := flg kk) hzk.1 hzk.2; rw [nI_clamp (by omega), nI_clamp (by omega), if_pos ⟨by omega, by assumption, by omega, by omega⟩]; unfold nrR; (try rw [if_pos (by first | with_reducible assumption | assumption)]); (try rw [if_neg (by first | with_reducible assumption | assumption)]); (try rw [if_pos (by first | with_reducible assumption | assumption)]); (try rw [if_neg (by first | with_reducible assumption | assumption)]); first | done | rfl)⟩, ⟨by rw [ht]; exact hP9, hD9⟩⟩, hS.F ht⟩) hS.2.2 dX11_lay_101
        · skip
          refine lv_iload_n hx hb dX11_lay_68 rfl (lv_at hl 3 rfl) ?_
          refine lv_bipush (v := 24) hx hb dX11_lay_69 rfl ?_
          refine lv_ishl hx hb dX11_lay_71 ?_
          refine lv_bipush (v := 24) hx hb dX11_lay_72 rfl ?_
          refine lv_ishr hx hb dX11_lay_74 ?_
          refine lv_goto (tgt := 99) hx hb dX11_lay_75 rfl ?_
          refine va_iast hx hb hK.1 hP hD hS 3 0 rfl rfl (vp_in_nI (by first | omega | (have t_b4 := b4; have t_hkk := hkk; have t_c5 := neI c5; have t_b9 := b9; have t_hii := hii; have t_c10 := eqI c10; have tqz_ := qz8_; have tnb_ := nib7 tn2156_ tn2157_ tn2158_ tn2159_ tn2160_ tn2161_ tn2162_; omega)) (by decide)) dX11_lay_99 (fun H locs hP hD hS => ?_)
          rw [nI_clamp (by omega)] at hP hD
          refine lv_iconst (v := 1) hx hb dX11_lay_100 rfl ?_
          have hpost : (1 : Int32) = if 0 ≤ (nI kk).toInt ∧ (nI kk).toInt < 4 then (if fla (nI kk).toNatClampNeg = -4 then -11 else if 0 ≤ (nI ii).toInt ∧ (nI ii).toInt < (flg (nI kk).toNatClampNeg).toInt then 1 else -12) else -1 := by
            rw [nI_clamp (by (have t_b4 := b4; have t_hkk := hkk; have t_c5 := neI c5; have t_b9 := b9; have t_hii := hii; have t_c10 := eqI c10; have tqz_ := qz8_; have tnb_ := nib7 tn2156_ tn2157_ tn2158_ tn2159_ tn2160_ tn2161_ tn2162_; omega)), if_pos (by (have t_b4 := b4; have t_hkk := hkk; have t_c5 := neI c5; have t_b9 := b9; have t_hii := hii; have t_c10 := eqI c10; have tqz_ := qz8_; have tnb_ := nib7 tn2156_ tn2157_ tn2158_ tn2159_ tn2160_ tn2161_ tn2162_; omega)), if_neg (by first | with_reducible assumption | assumption), if_pos (by (have t_b4 := b4; have t_hkk := hkk; have t_c5 := neI c5; have t_b9 := b9; have t_hii := hii; have t_c10 := eqI c10; have tqz_ := qz8_; have tnb_ := nib7 tn2156_ tn2157_ tn2158_ tn2159_ tn2160_ tn2161_ tn2162_; omega))]
          obtain ⟨hP9, hD9⟩ := va_sub2 (ws' := [(h0, .inr (11, [.ref st, .int (nI N), .int (nI B), .ref rp, .int vrs, .int vrb, .int vhs, .int vca, .int vxs, .int vxb, .ref tp, .int (nI T), .int vfa, .int vbr, .int vba, .int vsp, .int vhe, .int vtk, .int vva, .ref cu, .ref lt, .ref od, .ref th, .ref be, .ref ln, .int (nI S), .ref ma, .int (nI M), .ref ah, .ref bh, .ref ik, .ref la, .ref lg, .ref ce, .int vto])), (la, .inl (G 0, 4, .inl fla)), (lg, .inl (G 0, 4, .inl flg)), (ce, .inl (G 0, 160, .inl (upd fce ((40 * kk) + ii) ((v <<< ((24 : Int32) &&& 31)) >>> ((24 : Int32) &&& 31)))))]) hP hD [0, 1, 2, 3] (by decide +kernel) rfl
          refine W.widen (k := 0) (n := 0) (Nat.le_of_ble_eq_true rfl) (Nat.le_of_ble_eq_true rfl) ?_
          exact W.iret (v := 1) hx hb hr (fun t ht hW => ⟨⟨1, (upd fce ((40 * kk) + ii) ((v <<< ((24 : Int32) &&& 31)) >>> ((24 : Int32) &&& 31))), rfl, ⟨hpost, (by clear hpost; have t_b4 := b4; have t_hkk := hkk; have t_c5 := neI c5; have t_b9 := b9; have t_hii := hii; have t_c10 := eqI c10; have tqz_ := qz8_; have tnb_ := nib7 tn2156_ tn2157_ tn2158_ tn2159_ tn2160_ tn2161_ tn2162_; have tqz_ := qz46_; have z4 : (-4 : Int32).toInt = -4 := (by decide); have z10 : (10 : Int32).toInt = 10 := qI_10; have hzk := hz kk (by omega); have e9 := im1 (x := flg kk) hzk.1 hzk.2; rw [nI_clamp (by omega), nI_clamp (by omega), if_pos ⟨by omega, by assumption, by omega, by omega⟩]; unfold nrR; (try rw [if_pos (by first | with_reducible assumption | assumption)]); (try rw [if_neg (by first | with_reducible assumption | assumption)]); (try rw [if_pos (by first | with_reducible assumption | assumption)]); (try rw [if_neg (by first | with_reducible assumption | assumption)]); first | done | rfl)⟩, ⟨by rw [ht]; exact hP9, hD9⟩⟩, hS.F ht⟩) hS.2.2 dX11_lay_101
      · skip
        have b12 := if10_n c8
        refine lv_bipush (v := (-12)) hx hb dX11_lay_46 rfl ?_
        have hpost : ((-12) : Int32) = if 0 ≤ (nI kk).toInt ∧ (nI kk).toInt < 4 then (if fla (nI kk).toNatClampNeg = -4 then -11 else if 0 ≤ i.toInt ∧ i.toInt < (flg (nI kk).toNatClampNeg).toInt then 1 else -12) else -1 := by
          have hzk := hz kk (by (have t_b4 := b4; have t_hkk := hkk; have t_c5 := neI c5; have t_b12 := b12; have : ((-4) : Int32).toInt = -4 := qI_m4; have tnb_ := nib6 tn2156_ tn2157_ tn2158_ tn2159_ tn2160_ tn2161_; omega))
          have e9 := im1 (x := flg kk) hzk.1 hzk.2
          rw [nI_clamp (by (have t_b4 := b4; have t_hkk := hkk; have t_c5 := neI c5; have t_b12 := b12; have : ((-4) : Int32).toInt = -4 := qI_m4; have tnb_ := nib6 tn2156_ tn2157_ tn2158_ tn2159_ tn2160_ tn2161_; omega)), if_pos (by (have t_b4 := b4; have t_hkk := hkk; have t_c5 := neI c5; have t_b12 := b12; have : ((-4) : Int32).toInt = -4 := qI_m4; have tnb_ := nib6 tn2156_ tn2157_ tn2158_ tn2159_ tn2160_ tn2161_; omega)), if_neg (by first | with_reducible assumption | assumption), if_neg (by (have t_b4 := b4; have t_hkk := hkk; have t_c5 := neI c5; have t_b12 := b12; have : ((-4) : Int32).toInt = -4 := qI_m4; have tnb_ := nib6 tn2156_ tn2157_ tn2158_ tn2159_ tn2160_ tn2161_; omega))]
        obtain ⟨hP9, hD9⟩ := va_sub2 (ws' := [(h0, .inr (11, [.ref st, .int (nI N), .int (nI B), .ref rp, .int vrs, .int vrb, .int vhs, .int vca, .int vxs, .int vxb, .ref tp, .int (nI T), .int vfa, .int vbr, .int vba, .int vsp, .int vhe, .int vtk, .int vva, .ref cu, .ref lt, .ref od, .ref th, .ref be, .ref ln, .int (nI S), .ref ma, .int (nI M), .ref ah, .ref bh, .ref ik, .ref la, .ref lg, .ref ce, .int vto])), (la, .inl (G 0, 4, .inl fla)), (lg, .inl (G 0, 4, .inl flg)), (ce, .inl (G 0, 160, .inl fce))]) hP hD [0, 1, 2, 3] (by decide +kernel) rfl
        refine W.widen (k := 0) (n := 0) (Nat.le_of_ble_eq_true rfl) (Nat.le_of_ble_eq_true rfl) ?_
        exact W.iret (v := (-12)) hx hb hr (fun t ht hW => ⟨⟨(-12), fce, rfl, ⟨hpost, (by clear hpost; have t_b4 := b4; have t_hkk := hkk; have t_c5 := neI c5; have t_b12 := b12; have : ((-4) : Int32).toInt = -4 := qI_m4; have tnb_ := nib6 tn2156_ tn2157_ tn2158_ tn2159_ tn2160_ tn2161_; have tqz_ := qz46_; have z4 : (-4 : Int32).toInt = -4 := (by decide); have z10 : (10 : Int32).toInt = 10 := qI_10; first | (rw [if_neg (fun h9 => by have h8 := h9.1; omega)]; done) | (rw [nI_clamp (by omega), if_neg (fun h9 => h9.2.1 (by first | with_reducible assumption | assumption))]; done) | (have hzk := hz kk (by omega); have e9 := im1 (x := flg kk) hzk.1 hzk.2; rw [nI_clamp (by omega), if_neg (fun h9 => by have h8 := h9.2.2; omega)]; done))⟩, ⟨by rw [ht]; exact hP9, hD9⟩⟩, hS.F ht⟩) hS.2.2 dX11_lay_48
    · skip
      refine lv_bipush (v := (-11)) hx hb dX11_lay_25 rfl ?_
      have hpost : ((-11) : Int32) = if 0 ≤ (nI kk).toInt ∧ (nI kk).toInt < 4 then (if fla (nI kk).toNatClampNeg = -4 then -11 else if 0 ≤ i.toInt ∧ i.toInt < (flg (nI kk).toNatClampNeg).toInt then 1 else -12) else -1 := by
        rw [nI_clamp (by (have t_b4 := b4; have t_hkk := hkk; have t_c5 := eqI c5; have : ((-4) : Int32).toInt = -4 := qI_m4; have tnb_ := nib6 tn2156_ tn2157_ tn2158_ tn2159_ tn2160_ tn2161_; omega)), if_pos (by (have t_b4 := b4; have t_hkk := hkk; have t_c5 := eqI c5; have : ((-4) : Int32).toInt = -4 := qI_m4; have tnb_ := nib6 tn2156_ tn2157_ tn2158_ tn2159_ tn2160_ tn2161_; omega)), if_pos (by first | with_reducible assumption | assumption)]
      obtain ⟨hP9, hD9⟩ := va_sub2 (ws' := [(h0, .inr (11, [.ref st, .int (nI N), .int (nI B), .ref rp, .int vrs, .int vrb, .int vhs, .int vca, .int vxs, .int vxb, .ref tp, .int (nI T), .int vfa, .int vbr, .int vba, .int vsp, .int vhe, .int vtk, .int vva, .ref cu, .ref lt, .ref od, .ref th, .ref be, .ref ln, .int (nI S), .ref ma, .int (nI M), .ref ah, .ref bh, .ref ik, .ref la, .ref lg, .ref ce, .int vto])), (la, .inl (G 0, 4, .inl fla)), (lg, .inl (G 0, 4, .inl flg)), (ce, .inl (G 0, 160, .inl fce))]) hP hD [0, 1, 2, 3] (by decide +kernel) rfl
      refine W.widen (k := 0) (n := 0) (Nat.le_of_ble_eq_true rfl) (Nat.le_of_ble_eq_true rfl) ?_
      exact W.iret (v := (-11)) hx hb hr (fun t ht hW => ⟨⟨(-11), fce, rfl, ⟨hpost, (by clear hpost; have t_b4 := b4; have t_hkk := hkk; have t_c5 := eqI c5; have : ((-4) : Int32).toInt = -4 := qI_m4; have tnb_ := nib6 tn2156_ tn2157_ tn2158_ tn2159_ tn2160_ tn2161_; have tqz_ := qz46_; have z4 : (-4 : Int32).toInt = -4 := (by decide); have z10 : (10 : Int32).toInt = 10 := qI_10; first | (rw [if_neg (fun h9 => by have h8 := h9.1; omega)]; done) | (rw [nI_clamp (by omega), if_neg (fun h9 => h9.2.1 (by first | with_reducible assumption | assumption))]; done) | (have hzk := hz kk (by omega); have e9 := im1 (x := flg kk) hzk.1 hzk.2; rw [nI_clamp (by omega), if_neg (fun h9 => by have h8 := h9.2.2; omega)]; done))⟩, ⟨by rw [ht]; exact hP9, hD9⟩⟩, hS.F ht⟩) hS.2.2 dX11_lay_27
  · skip
    have b13 := if10_n c3
    refine lv_iconst (v := (-1)) hx hb dX11_lay_12 rfl ?_
    have hpost : ((-1) : Int32) = if 0 ≤ k.toInt ∧ k.toInt < 4 then (if fla k.toNatClampNeg = -4 then -11 else if 0 ≤ i.toInt ∧ i.toInt < (flg k.toNatClampNeg).toInt then 1 else -12) else -1 := by
      have t_b13 := b13
      have t_n0 : (nI N).toInt = (N : Int) := tn2156_ ()
      have t_n1 : (nI B).toInt = (B : Int) := tn2157_ ()
      have t_n2 : (nI T).toInt = (T : Int) := tn2158_ ()
      have t_n3 : (nI S).toInt = (S : Int) := tn2159_ ()
      have t_n4 : (nI M).toInt = (M : Int) := tn2160_ ()
      rw [if_neg (by omega)]
    obtain ⟨hP9, hD9⟩ := va_sub2 (ws' := [(h0, .inr (11, [.ref st, .int (nI N), .int (nI B), .ref rp, .int vrs, .int vrb, .int vhs, .int vca, .int vxs, .int vxb, .ref tp, .int (nI T), .int vfa, .int vbr, .int vba, .int vsp, .int vhe, .int vtk, .int vva, .ref cu, .ref lt, .ref od, .ref th, .ref be, .ref ln, .int (nI S), .ref ma, .int (nI M), .ref ah, .ref bh, .ref ik, .ref la, .ref lg, .ref ce, .int vto])), (la, .inl (G 0, 4, .inl fla)), (lg, .inl (G 0, 4, .inl flg)), (ce, .inl (G 0, 160, .inl fce))]) hP hD [0, 1, 2, 3] (by decide +kernel) rfl
    refine W.widen (k := 0) (n := 0) (Nat.le_of_ble_eq_true rfl) (Nat.le_of_ble_eq_true rfl) ?_
    exact W.iret (v := (-1)) hx hb hr (fun t ht hW => ⟨⟨(-1), fce, rfl, ⟨hpost, (by clear hpost; have t_b13 := b13; have tnb_ := nib5 tn2156_ tn2157_ tn2158_ tn2159_ tn2160_; have tqz_ := qz46_; have z4 : (-4 : Int32).toInt = -4 := (by decide); have z10 : (10 : Int32).toInt = 10 := qI_10; first | (rw [if_neg (fun h9 => by have h8 := h9.1; omega)]; done) | (rw [nI_clamp (by omega), if_neg (fun h9 => h9.2.1 (by first | with_reducible assumption | assumption))]; done) | (have hzk := hz kk (by omega); have e9 := im1 (x := flg kk) hzk.1 hzk.2; rw [nI_clamp (by omega), if_neg (fun h9 => by have h8 := h9.2.2; omega)]; done))⟩, ⟨by rw [ht]; exact hP9, hD9⟩⟩, hS.F ht⟩) hS.2.2 dX11_lay_13

set_option maxHeartbeats 1000000 in
set_option maxRecDepth 100000 in
theorem c_X10_layE (l : Launch) (dC : Nat → ClassId) (dI : Nat → Nat → Nat) (G : Nat → ClassId) (sz : Nat) (h0 rd wy tr im kp od ch cr le mk tl sh la si ce fi se : Nat) (tf rf k i v x8 x9 : Int32) (fl fz : Nat → Int32) (rc : Nat → Nat) (F : Nat → Nat → Int32) (hz : ∀ q : Nat, q < 4 → 0 ≤ (fz q).toInt ∧ (fz q).toInt ≤ 40) : Met l yX10_lay (Cond.code yX10_lay cX10_lay 5 (some .int) :: GT) ({ frames := 2, cells := 0, slots := 0, locals := 46 } : Room) (PcW [.ref h0, .int k, .int i, .int v] dC dI G (([(h0, .inr (10, [.ref rd, .ref wy, .ref tr, .ref im, .ref kp, .ref od, .ref ch, .ref cr, .ref le, .ref mk, .ref tl, .ref sh, .int tf, .int rf])), (sh, .inr (6, [.ref la, .ref si, .ref ce, .int x8, .int x9, .ref fi, .ref se])), (la, .inl (G 0, 4, .inl fl)), (si, .inl (G 0, 4, .inl fz)), (ce, .inl (G 4, 4, .inr (.inr (.inr (.inr (fun ir => if ir < 4 then some (rc ir) else none))))))] : va_W) ++ ((((List.range 4).map (fun iq => (rc iq, .inl (G 0, 40, .inl (F iq))))) : va_W) ++ [])) sz) (va_Qi (fun (r : Int32) (u : (Nat → Nat → Int32)) => match u with | u0 => (r = if 0 ≤ k.toInt ∧ k.toInt < 4 then (if fl k.toNatClampNeg = -1 then -11 else if 0 ≤ i.toInt ∧ i.toInt < (fz k.toNatClampNeg).toInt then 1 else -12) else -1) ∧ u0 = (if ((0 ≤ k.toInt ∧ k.toInt < 4) ∧ ¬ fl k.toNatClampNeg = -1 ∧ 0 ≤ i.toInt ∧ i.toInt < (fz k.toNatClampNeg).toInt) then va_up F k.toNatClampNeg (upd (F k.toNatClampNeg) i.toNatClampNeg (nrw (fl k.toNatClampNeg) v)) else F)) (fun (u : (Nat → Nat → Int32)) (t : State) => match u with | u0 => va_P (dC, dI) vwCl (([(h0, .inr (10, [.ref rd, .ref wy, .ref tr, .ref im, .ref kp, .ref od, .ref ch, .ref cr, .ref le, .ref mk, .ref tl, .ref sh, .int tf, .int rf])), (sh, .inr (6, [.ref la, .ref si, .ref ce, .int x8, .int x9, .ref fi, .ref se])), (la, .inl (G 0, 4, .inl fl)), (si, .inl (G 0, 4, .inl fz)), (ce, .inl (G 4, 4, .inr (.inr (.inr (.inr (fun ir => if ir < 4 then some (rc ir) else none))))))] : va_W) ++ ((((List.range 4).map (fun iq => (rc iq, .inl (G 0, 40, .inl (u0 iq))))) : va_W) ++ [])) t.heap ∧ va_D (va_A (([(h0, .inr (10, [.ref rd, .ref wy, .ref tr, .ref im, .ref kp, .ref od, .ref ch, .ref cr, .ref le, .ref mk, .ref tl, .ref sh, .int tf, .int rf])), (sh, .inr (6, [.ref la, .ref si, .ref ce, .int x8, .int x9, .ref fi, .ref se])), (la, .inl (G 0, 4, .inl fl)), (si, .inl (G 0, 4, .inl fz)), (ce, .inl (G 4, 4, .inr (.inr (.inr (.inr (fun ir => if ir < 4 then some (rc ir) else none))))))] : va_W) ++ ((((List.range 4).map (fun iq => (rc iq, .inl (G 0, 40, .inl (F iq))))) : va_W) ++ [])) sz) (([(h0, .inr (10, [.ref rd, .ref wy, .ref tr, .ref im, .ref kp, .ref od, .ref ch, .ref cr, .ref le, .ref mk, .ref tl, .ref sh, .int tf, .int rf])), (sh, .inr (6, [.ref la, .ref si, .ref ce, .int x8, .int x9, .ref fi, .ref se])), (la, .inl (G 0, 4, .inl fl)), (si, .inl (G 0, 4, .inl fz)), (ce, .inl (G 4, 4, .inr (.inr (.inr (.inr (fun ir => if ir < 4 then some (rc ir) else none))))))] : va_W) ++ ((((List.range 4).map (fun iq => (rc iq, .inl (G 0, 40, .inl (u0 iq))))) : va_W) ++ []))) (va_A (([(h0, .inr (10, [.ref rd, .ref wy, .ref tr, .ref im, .ref kp, .ref od, .ref ch, .ref cr, .ref le, .ref mk, .ref tl, .ref sh, .int tf, .int rf])), (sh, .inr (6, [.ref la, .ref si, .ref ce, .int x8, .int x9, .ref fi, .ref se])), (la, .inl (G 0, 4, .inl fl)), (si, .inl (G 0, 4, .inl fz)), (ce, .inl (G 4, 4, .inr (.inr (.inr (.inr (fun ir => if ir < 4 then some (rc ir) else none))))))] : va_W) ++ ((((List.range 4).map (fun iq => (rc iq, .inl (G 0, 40, .inl (F iq))))) : va_W) ++ [])) sz)) 0 0 (va_A (([(h0, .inr (10, [.ref rd, .ref wy, .ref tr, .ref im, .ref kp, .ref od, .ref ch, .ref cr, .ref le, .ref mk, .ref tl, .ref sh, .int tf, .int rf])), (sh, .inr (6, [.ref la, .ref si, .ref ce, .int x8, .int x9, .ref fi, .ref se])), (la, .inl (G 0, 4, .inl fl)), (si, .inl (G 0, 4, .inl fz)), (ce, .inl (G 4, 4, .inr (.inr (.inr (.inr (fun ir => if ir < 4 then some (rc ir) else none))))))] : va_W) ++ ((((List.range 4).map (fun iq => (rc iq, .inl (G 0, 40, .inl (F iq))))) : va_W) ++ [])) sz) := by
  refine Met.ofW (cc := cX10_lay) (maxL := 5) (ret := (some .int)) (by decide) rfl ?_
  intro p e s m args below meth c s₁ Bd hml hv
  obtain ⟨rfl, hsz, hP, hK, hD0⟩ := hv
  have hx := Bd.exec
  have hb := Bd.bytes
  have hr := Bd.returns
  have hg : ∀ w ∈ GT, w.before ([.ref h0, .int k, .int i, .int v] : List Value).toArray s = true := fun w h => atoms_spec (ws := Cond.code yX10_lay cX10_lay 5 (some .int) :: GT) Bd.pre w (List.mem_cons_of_mem _ h)
  have hown : s.vm.findClass RX10 = some m.cls := findClass_of_methodNamed Bd.named
  have hlocks := Bd.notSynchronized
  subst hsz
  have hD := hD0.self (sz := s.heap.size)
  generalize hAe : va_A (([(h0, .inr (10, [.ref rd, .ref wy, .ref tr, .ref im, .ref kp, .ref od, .ref ch, .ref cr, .ref le, .ref mk, .ref tl, .ref sh, .int tf, .int rf])), (sh, .inr (6, [.ref la, .ref si, .ref ce, .int x8, .int x9, .ref fi, .ref se])), (la, .inl (G 0, 4, .inl fl)), (si, .inl (G 0, 4, .inl fz)), (ce, .inl (G 4, 4, .inr (.inr (.inr (.inr (fun ir => if ir < 4 then some (rc ir) else none))))))] : va_W) ++ ((((List.range 4).map (fun iq => (rc iq, .inl (G 0, 40, .inl (F iq))))) : va_W) ++ [])) s.heap.size = A at hD ⊢
  have hA : ∀ q : Nat, s.heap.size ≤ q → A q := fun q h => by rw [← hAe]; exact Or.inr h
  have hS : va_S A s.heap s.heap [] := va_S.rf
  have hl := lv_entry ([.ref h0, .int k, .int i, .int v]) (n := 5) (Nat.le_of_ble_eq_true rfl)
  rw [lg_entry_eq]
  generalize (lg_sl ([.ref h0, .int k, .int i, .int v]) ++ List.replicate (5 - (lg_sl ([.ref h0, .int k, .int i, .int v])).length) Slot.unset).toArray = ls at hl ⊢
  have hl : lv_has ls 5 [(0, .ref h0), (1, .int k), (2, .int i), (3, .int v)] := hl
  refine lv_iload_n hx hb dX10_lay_0 rfl (lv_at hl 1 rfl) ?_
  have hPc := hP.sub (ws' := []) [] rfl
  refine va_calli (va_runSN (As := [.int k]) (rest := []) ⟨hx, hb, hml, hown, hg⟩ (c_X6_isSheet l dC dI G _ k) (kwSN hg hK mfX6_isSheet wn_823 ⟨Nat.le_of_ble_eq_true rfl, Nat.le_of_ble_eq_true rfl⟩) (preSR hK hPc) rfl rfl hl.1 rfl (lv_room (Nat.le_of_ble_eq_true rfl)) dX10_lay_1 ⟨Nat.le_of_ble_eq_true rfl, Nat.le_of_ble_eq_true rfl⟩) hS (fun q h1 h2 => absurd h2 (Nat.not_le.mpr h1)) (fun q h => hA q (Nat.le_trans hS.1 h)) (fun r1 ur1 t H1 locs ht hvm w2 hB hz1 hk1 hS => ?_)
  have hP := keepR hP hk1
  obtain ⟨w2, w2x⟩ := w2
  try simp only [l_ii, show (0 : Int32).toInt = 0 from by decide, show (4 : Int32).toInt = 4 from by decide] at w2
  subst w2
  refine lv_if_ne (tgt := 9) hx hb dX10_lay_4 rfl (fun c3 => ?_) (fun c3 => ?_)
  · skip
    have b4 := if10_p c3
    obtain ⟨kk, hkk, rfl⟩ : ∃ j : Nat, j < 4 ∧ k = nI j := by
      have t_b4 := b4
      exact i32_nat (by omega) (by omega)
    refine lv_aload_n hx hb dX10_lay_9 rfl (lv_at hl 0 rfl) ?_
    refine va_get (D := (dC, dI)) (ci := 10) (v := .ref sh) (C := RX10) (T := TX10) (N := 14) hx hb hg inG10 hown hK.1 hP 0 rfl rfl 11 (Nat.le_of_ble_eq_true rfl) (hg _ wt_313) (fun _ h9 => h9) rfl dX10_lay_10 ?_
    refine lv_iload_n hx hb dX10_lay_13 rfl (lv_at hl 1 rfl) ?_
    refine lv_iload_n hx hb dX10_lay_14 rfl (lv_at hl 2 rfl) ?_
    refine lv_i2l (v := i.toInt64) hx hb dX10_lay_15 rfl ?_
    have hPc := hP.sub (ws' := [(sh, .inr (6, [.ref la, .ref si, .ref ce, .int x8, .int x9, .ref fi, .ref se])), (la, .inl (G 0, 4, .inl fl)), (si, .inl (G 0, 4, .inl fz))]) [1, 2, 3] rfl
    have tn2163_ : nIT kk := fun _ => nI_toInt (by first | omega | (have t_b4 := b4; have t_hkk := hkk; omega))
    refine va_calli (va_runVN (As := [.int (nI kk), .long i.toInt64]) (rest := []) ⟨hx, hb, hml, hown, hg⟩ (c_X6_faultAt l dC dI G _ sh la si ce fi se kk x8 x9 i.toInt64 fl fz (by first | omega | (have t_b4 := b4; have t_hkk := hkk; have t_n0 : (nI kk).toInt = (kk : Int) := tn2163_ (); omega))) (kwVN hg hK mfX6_faultAt wn_838 ⟨Nat.le_of_ble_eq_true rfl, Nat.le_of_ble_eq_true rfl⟩) (preVR hK hPc (ci := 6) (r := (RX6, TX6, 7)) rfl rfl) rfl rfl hl.1 rfl (lv_room (Nat.le_of_ble_eq_true rfl)) dX10_lay_16 ⟨Nat.le_of_ble_eq_true rfl, Nat.le_of_ble_eq_true rfl⟩) hS (fun q h1 h2 => absurd h2 (Nat.not_le.mpr h1)) (fun q h => hA q (Nat.le_trans hS.1 h)) (fun r5 ur5 t H1 locs ht hvm w6 hB hz1 hk1 hS => ?_)
    have hP := keepR hP hk1
    obtain ⟨w6, w6x⟩ := w6
    refine lv_istore (lv' := [(4, .int r5), (0, .ref h0), (1, .int (nI kk)), (2, .int i), (3, .int v)]) hx hb dX10_lay_19 hl (by decide) rfl (fun ls hl => ?_)
    refine lv_iload hx hb dX10_lay_21 (lv_at hl 0 rfl) ?_
    refine lv_if_eq (tgt := 32) hx hb dX10_lay_23 rfl (fun c7 => ?_) (fun c7 => ?_)
    · skip
      have b8 := fz0 w6 c7
      refine lv_aload_n hx hb dX10_lay_32 rfl (lv_at hl 1 rfl) ?_
      refine va_get (D := (dC, dI)) (ci := 10) (v := .ref sh) (C := RX10) (T := TX10) (N := 14) hx hb hg inG10 hown hK.1 hP 0 rfl rfl 11 (Nat.le_of_ble_eq_true rfl) (hg _ wt_313) (fun _ h9 => h9) rfl dX10_lay_33 ?_
      refine lv_iload_n hx hb dX10_lay_36 rfl (lv_at hl 2 rfl) ?_
      refine lv_iload_n hx hb dX10_lay_37 rfl (lv_at hl 3 rfl) ?_
      refine lv_iload_n hx hb dX10_lay_38 rfl (lv_at hl 4 rfl) ?_
      obtain ⟨hPc, hDc, hFc⟩ := va_sub3 (ws' := (([(sh, .inr (6, [.ref la, .ref si, .ref ce, .int x8, .int x9, .ref fi, .ref se])), (la, .inl (G 0, 4, .inl fl)), (si, .inl (G 0, 4, .inl fz)), (ce, .inl (G 4, 4, .inr (.inr (.inr (.inr (fun ir => if ir < 4 then some (rc ir) else none))))))] : va_W) ++ ((((List.range 4).map (fun iq => (rc iq, .inl (G 0, 40, .inl (F iq))))) : va_W) ++ []))) hP hD hS hA [1, 2, 3, 4, 5, 6, 7, 8] (by decide +kernel) rfl
      refine va_callv (va_runVN (As := [.int (nI kk), .int i, .int v]) (rest := []) ⟨hx, hb, hml, hown, hg⟩ (c_X6_fillE l dC dI G _ sh la si ce fi se kk x8 x9 i v fl fz rc F (by omega) hz) (kwVN hg hK mfX6_fill wn_842 ⟨Nat.le_of_ble_eq_true rfl, Nat.le_of_ble_eq_true rfl⟩) (preVW hK hPc hDc (ci := 6) (r := (RX6, TX6, 7)) rfl rfl) rfl rfl hl.1 rfl (lv_room (Nat.le_of_ble_eq_true rfl)) dX10_lay_39 ⟨Nat.le_of_ble_eq_true rfl, Nat.le_of_ble_eq_true rfl⟩) hS (fun q _ h => hFc q h) hFc (fun ur9 t H1 locs ht hvm w10 hB hz1 hk1 hS => ?_)
      obtain ⟨u11, rfl⟩ : ∃ z, z = ur9 := ⟨_, rfl⟩
      obtain ⟨hP1, hD1⟩ := hB
      rw [ht] at hP1
      obtain ⟨hP, hD⟩ := va_join (wr := [(h0, .inr (10, [.ref rd, .ref wy, .ref tr, .ref im, .ref kp, .ref od, .ref ch, .ref cr, .ref le, .ref mk, .ref tl, .ref sh, .int tf, .int rf]))]) (w1 := (([(sh, .inr (6, [.ref la, .ref si, .ref ce, .int x8, .int x9, .ref fi, .ref se])), (la, .inl (G 0, 4, .inl fl)), (si, .inl (G 0, 4, .inl fz)), (ce, .inl (G 4, 4, .inr (.inr (.inr (.inr (fun ir => if ir < 4 then some (rc ir) else none))))))] : va_W) ++ ((((List.range 4).map (fun iq => (rc iq, .inl (G 0, 40, .inl (u11 iq))))) : va_W) ++ []))) hP hD [1, 2, 3, 4, 5, 6, 7, 8] [0] rfl rfl (by decide +kernel) (by decide +kernel) hk1 hFc hP1 hD1
      have w10 : u11 = (if (¬ fl kk = -1 ∧ 0 ≤ i.toInt ∧ i.toInt < (fz kk).toInt) then va_up F kk (upd (F kk) i.toNatClampNeg (nrw (fl kk) v)) else F) := w10
      generalize H1 = H at hP hS ⊢
      refine lv_iconst (v := 1) hx hb dX10_lay_42 rfl ?_
      have hpost : (1 : Int32) = if 0 ≤ (nI kk).toInt ∧ (nI kk).toInt < 4 then (if fl (nI kk).toNatClampNeg = -1 then -11 else if 0 ≤ i.toInt ∧ i.toInt < (fz (nI kk).toNatClampNeg).toInt then 1 else -12) else -1 := by
        have t_b4 := b4
        have t_hkk := hkk
        have t_b8 := b8
        have t_n0 : (nI kk).toInt = (kk : Int) := tn2163_ ()
        rw [nI_clamp (by omega), if_pos (by omega)]
        have q9 := w6
        simp only [l_ii] at q9
        have c9 : r5 = 0 := by assumption
        rw [c9] at q9
        split at q9
        · exact absurd q9 (by decide)
        · rename_i d; rw [if_neg d]; split at q9
          · exact absurd q9 (by decide)
          · rename_i g; rw [if_pos (by omega)]
      obtain ⟨hP9, hD9⟩ := va_sub2 (ws' := (([(h0, .inr (10, [.ref rd, .ref wy, .ref tr, .ref im, .ref kp, .ref od, .ref ch, .ref cr, .ref le, .ref mk, .ref tl, .ref sh, .int tf, .int rf])), (sh, .inr (6, [.ref la, .ref si, .ref ce, .int x8, .int x9, .ref fi, .ref se])), (la, .inl (G 0, 4, .inl fl)), (si, .inl (G 0, 4, .inl fz)), (ce, .inl (G 4, 4, .inr (.inr (.inr (.inr (fun ir => if ir < 4 then some (rc ir) else none))))))] : va_W) ++ ((((List.range 4).map (fun iq => (rc iq, .inl (G 0, 40, .inl (u11 iq))))) : va_W) ++ []))) hP hD [0, 1, 2, 3, 4, 5, 6, 7, 8] (by decide +kernel) rfl
      refine W.widen (k := 0) (n := 0) (Nat.le_of_ble_eq_true rfl) (Nat.le_of_ble_eq_true rfl) ?_
      exact W.iret (v := 1) hx hb hr (fun t ht hW => ⟨⟨1, u11, rfl, ⟨hpost, (by clear hpost; have t_b4 := b4; have t_hkk := hkk; have t_b8 := b8; have t_n0 : (nI kk).toInt = (kk : Int) := tn2163_ (); have tqz_ := qz46_; have z4 : (-4 : Int32).toInt = -4 := (by decide); have z10 : (10 : Int32).toInt = 10 := qI_10; have e64 := l_ii i; have q9 := fa0 w6 (by first | with_reducible assumption | assumption); rw [e64] at q9; have q8 := w10; rw [if_pos q9] at q8; rw [nI_clamp (by omega), if_pos ⟨by omega, q9⟩]; exact q8)⟩, ⟨by rw [ht]; exact hP9, hD9⟩⟩, hS.F ht⟩) hS.2.2 dX10_lay_43
    · skip
      refine lv_bipush (v := (-10)) hx hb dX10_lay_26 rfl ?_
      refine lv_iload hx hb dX10_lay_28 (lv_at hl 0 rfl) ?_
      refine lv_isub hx hb dX10_lay_30 ?_
      have hpost : ((-10) - r5 : Int32) = if 0 ≤ (nI kk).toInt ∧ (nI kk).toInt < 4 then (if fl (nI kk).toNatClampNeg = -1 then -11 else if 0 ≤ i.toInt ∧ i.toInt < (fz (nI kk).toNatClampNeg).toInt then 1 else -12) else -1 := by
        have t_b4 := b4
        have t_hkk := hkk
        have t_c7 := neI c7
        have : (0 : Int32).toInt = 0 := qI_0
        have t_n0 : (nI kk).toInt = (kk : Int) := tn2163_ ()
        rw [nI_clamp (by omega), if_pos (by omega)]
        have q9 := w6
        simp only [l_ii] at q9
        split at q9
        · rename_i d; rw [q9, if_pos d]; decide
        · rename_i d; rw [if_neg d]; split at q9
          · rename_i g; rw [q9, if_neg (by omega)]; decide
          · exact absurd q9 (by first | with_reducible assumption | assumption)
      obtain ⟨hP9, hD9⟩ := va_sub2 (ws' := (([(h0, .inr (10, [.ref rd, .ref wy, .ref tr, .ref im, .ref kp, .ref od, .ref ch, .ref cr, .ref le, .ref mk, .ref tl, .ref sh, .int tf, .int rf])), (sh, .inr (6, [.ref la, .ref si, .ref ce, .int x8, .int x9, .ref fi, .ref se])), (la, .inl (G 0, 4, .inl fl)), (si, .inl (G 0, 4, .inl fz)), (ce, .inl (G 4, 4, .inr (.inr (.inr (.inr (fun ir => if ir < 4 then some (rc ir) else none))))))] : va_W) ++ ((((List.range 4).map (fun iq => (rc iq, .inl (G 0, 40, .inl (F iq))))) : va_W) ++ []))) hP hD [0, 1, 2, 3, 4, 5, 6, 7, 8] (by decide +kernel) rfl
      refine W.widen (k := 0) (n := 0) (Nat.le_of_ble_eq_true rfl) (Nat.le_of_ble_eq_true rfl) ?_
      exact W.iret (v := (-10) - r5) hx hb hr (fun t ht hW => ⟨⟨(-10) - r5, F, rfl, ⟨hpost, (by clear hpost; have t_b4 := b4; have t_hkk := hkk; have t_c7 := neI c7; have : (0 : Int32).toInt = 0 := qI_0; have t_n0 : (nI kk).toInt = (kk : Int) := tn2163_ (); have tqz_ := qz46_; have z4 : (-4 : Int32).toInt = -4 := (by decide); have z10 : (10 : Int32).toInt = 10 := qI_10; have e64 := l_ii i; have q9 := faN w6 (by first | with_reducible assumption | assumption); rw [e64] at q9; rw [nI_clamp (by omega), if_neg (fun h9 => q9 h9.2)])⟩, ⟨by rw [ht]; exact hP9, hD9⟩⟩, hS.F ht⟩) hS.2.2 dX10_lay_31
  · skip
    have b12 := if10_n c3
    refine lv_iconst (v := (-1)) hx hb dX10_lay_7 rfl ?_
    have hpost : ((-1) : Int32) = if 0 ≤ k.toInt ∧ k.toInt < 4 then (if fl k.toNatClampNeg = -1 then -11 else if 0 ≤ i.toInt ∧ i.toInt < (fz k.toNatClampNeg).toInt then 1 else -12) else -1 := by
      have t_b12 := b12
      rw [if_neg (by omega)]
    obtain ⟨hP9, hD9⟩ := va_sub2 (ws' := (([(h0, .inr (10, [.ref rd, .ref wy, .ref tr, .ref im, .ref kp, .ref od, .ref ch, .ref cr, .ref le, .ref mk, .ref tl, .ref sh, .int tf, .int rf])), (sh, .inr (6, [.ref la, .ref si, .ref ce, .int x8, .int x9, .ref fi, .ref se])), (la, .inl (G 0, 4, .inl fl)), (si, .inl (G 0, 4, .inl fz)), (ce, .inl (G 4, 4, .inr (.inr (.inr (.inr (fun ir => if ir < 4 then some (rc ir) else none))))))] : va_W) ++ ((((List.range 4).map (fun iq => (rc iq, .inl (G 0, 40, .inl (F iq))))) : va_W) ++ []))) hP hD [0, 1, 2, 3, 4, 5, 6, 7, 8] (by decide +kernel) rfl
    refine W.widen (k := 0) (n := 0) (Nat.le_of_ble_eq_true rfl) (Nat.le_of_ble_eq_true rfl) ?_
    exact W.iret (v := (-1)) hx hb hr (fun t ht hW => ⟨⟨(-1), F, rfl, ⟨hpost, (by clear hpost; have t_b12 := b12; have tqz_ := qz46_; have z4 : (-4 : Int32).toInt = -4 := (by decide); have z10 : (10 : Int32).toInt = 10 := qI_10; have e64 := l_ii i; rw [if_neg (fun h9 => by have h8 := h9.1; omega)])⟩, ⟨by rw [ht]; exact hP9, hD9⟩⟩, hS.F ht⟩) hS.2.2 dX10_lay_8

set_option maxHeartbeats 1000000 in
set_option maxRecDepth 100000 in
theorem c_X10_sheetE (l : Launch) (dC : Nat → ClassId) (dI : Nat → Nat → Nat) (G : Nat → ClassId) (sz : Nat) (h0 rd wy tr im kp od ch cr le mk tl sh la si ce fi se : Nat) (tf rf k lane n x8 x9 : Int32) (fl fz : Nat → Int32) (rc : Nat → Nat) (F : Nat → Nat → Int32) (hz : ∀ q : Nat, q < 4 → 0 ≤ (fz q).toInt ∧ (fz q).toInt ≤ 40) : Met l yX10_sheet (Cond.code yX10_sheet cX10_sheet 4 (some .int) :: GT) ({ frames := 2, cells := 0, slots := 0, locals := 44 } : Room) (PcW [.ref h0, .int k, .int lane, .int n] dC dI G (([(h0, .inr (10, [.ref rd, .ref wy, .ref tr, .ref im, .ref kp, .ref od, .ref ch, .ref cr, .ref le, .ref mk, .ref tl, .ref sh, .int tf, .int rf])), (sh, .inr (6, [.ref la, .ref si, .ref ce, .int x8, .int x9, .ref fi, .ref se])), (la, .inl (G 0, 4, .inl fl)), (si, .inl (G 0, 4, .inl fz)), (ce, .inl (G 4, 4, .inr (.inr (.inr (.inr (fun ir => if ir < 4 then some (rc ir) else none))))))] : va_W) ++ ((((List.range 4).map (fun iq => (rc iq, .inl (G 0, 40, .inl (F iq))))) : va_W) ++ [])) sz) (va_Qi (fun (r : Int32) (u : (Nat → Int32) × (Nat → Int32) × (Nat → Nat → Int32)) => match u with | (u0, u1, u2) => (r = if (0 ≤ k.toInt ∧ k.toInt < 4) ∧ (0 ≤ lane.toInt ∧ lane.toInt ≤ 2) ∧ n.toInt ≤ 40 then (if n.toInt < 0 then -14 else 1) else -1) ∧ ((u0 = (if ((0 ≤ k.toInt ∧ k.toInt < 4) ∧ (0 ≤ lane.toInt ∧ lane.toInt ≤ 2) ∧ n.toInt ≤ 40 ∧ 0 ≤ n.toInt) then upd fl k.toNatClampNeg lane else fl) ∧ u1 = (if ((0 ≤ k.toInt ∧ k.toInt < 4) ∧ (0 ≤ lane.toInt ∧ lane.toInt ≤ 2) ∧ n.toInt ≤ 40 ∧ 0 ≤ n.toInt) then upd fz k.toNatClampNeg n else fz)) ∧ ∀ q : Nat, q < 4 → 0 ≤ (u1 q).toInt ∧ (u1 q).toInt ≤ 40) ∧ u2 = (if ((0 ≤ k.toInt ∧ k.toInt < 4) ∧ (0 ≤ lane.toInt ∧ lane.toInt ≤ 2) ∧ n.toInt ≤ 40 ∧ 0 ≤ n.toInt) then va_up F k.toNatClampNeg (zpF n.toNatClampNeg (F k.toNatClampNeg)) else F)) (fun (u : (Nat → Int32) × (Nat → Int32) × (Nat → Nat → Int32)) (t : State) => match u with | (u0, u1, u2) => va_P (dC, dI) vwCl (([(h0, .inr (10, [.ref rd, .ref wy, .ref tr, .ref im, .ref kp, .ref od, .ref ch, .ref cr, .ref le, .ref mk, .ref tl, .ref sh, .int tf, .int rf])), (sh, .inr (6, [.ref la, .ref si, .ref ce, .int x8, .int x9, .ref fi, .ref se])), (la, .inl (G 0, 4, .inl u0)), (si, .inl (G 0, 4, .inl u1)), (ce, .inl (G 4, 4, .inr (.inr (.inr (.inr (fun ir => if ir < 4 then some (rc ir) else none))))))] : va_W) ++ ((((List.range 4).map (fun iq => (rc iq, .inl (G 0, 40, .inl (u2 iq))))) : va_W) ++ [])) t.heap ∧ va_D (va_A (([(h0, .inr (10, [.ref rd, .ref wy, .ref tr, .ref im, .ref kp, .ref od, .ref ch, .ref cr, .ref le, .ref mk, .ref tl, .ref sh, .int tf, .int rf])), (sh, .inr (6, [.ref la, .ref si, .ref ce, .int x8, .int x9, .ref fi, .ref se])), (la, .inl (G 0, 4, .inl fl)), (si, .inl (G 0, 4, .inl fz)), (ce, .inl (G 4, 4, .inr (.inr (.inr (.inr (fun ir => if ir < 4 then some (rc ir) else none))))))] : va_W) ++ ((((List.range 4).map (fun iq => (rc iq, .inl (G 0, 40, .inl (F iq))))) : va_W) ++ [])) sz) (([(h0, .inr (10, [.ref rd, .ref wy, .ref tr, .ref im, .ref kp, .ref od, .ref ch, .ref cr, .ref le, .ref mk, .ref tl, .ref sh, .int tf, .int rf])), (sh, .inr (6, [.ref la, .ref si, .ref ce, .int x8, .int x9, .ref fi, .ref se])), (la, .inl (G 0, 4, .inl u0)), (si, .inl (G 0, 4, .inl u1)), (ce, .inl (G 4, 4, .inr (.inr (.inr (.inr (fun ir => if ir < 4 then some (rc ir) else none))))))] : va_W) ++ ((((List.range 4).map (fun iq => (rc iq, .inl (G 0, 40, .inl (u2 iq))))) : va_W) ++ []))) (va_A (([(h0, .inr (10, [.ref rd, .ref wy, .ref tr, .ref im, .ref kp, .ref od, .ref ch, .ref cr, .ref le, .ref mk, .ref tl, .ref sh, .int tf, .int rf])), (sh, .inr (6, [.ref la, .ref si, .ref ce, .int x8, .int x9, .ref fi, .ref se])), (la, .inl (G 0, 4, .inl fl)), (si, .inl (G 0, 4, .inl fz)), (ce, .inl (G 4, 4, .inr (.inr (.inr (.inr (fun ir => if ir < 4 then some (rc ir) else none))))))] : va_W) ++ ((((List.range 4).map (fun iq => (rc iq, .inl (G 0, 40, .inl (F iq))))) : va_W) ++ [])) sz)) 0 0 (va_A (([(h0, .inr (10, [.ref rd, .ref wy, .ref tr, .ref im, .ref kp, .ref od, .ref ch, .ref cr, .ref le, .ref mk, .ref tl, .ref sh, .int tf, .int rf])), (sh, .inr (6, [.ref la, .ref si, .ref ce, .int x8, .int x9, .ref fi, .ref se])), (la, .inl (G 0, 4, .inl fl)), (si, .inl (G 0, 4, .inl fz)), (ce, .inl (G 4, 4, .inr (.inr (.inr (.inr (fun ir => if ir < 4 then some (rc ir) else none))))))] : va_W) ++ ((((List.range 4).map (fun iq => (rc iq, .inl (G 0, 40, .inl (F iq))))) : va_W) ++ [])) sz) := by
  refine Met.ofW (cc := cX10_sheet) (maxL := 4) (ret := (some .int)) (by decide) rfl ?_
  intro p e s m args below meth c s₁ Bd hml hv
  obtain ⟨rfl, hsz, hP, hK, hD0⟩ := hv
  have hx := Bd.exec
  have hb := Bd.bytes
  have hr := Bd.returns
  have hg : ∀ w ∈ GT, w.before ([.ref h0, .int k, .int lane, .int n] : List Value).toArray s = true := fun w h => atoms_spec (ws := Cond.code yX10_sheet cX10_sheet 4 (some .int) :: GT) Bd.pre w (List.mem_cons_of_mem _ h)
  have hown : s.vm.findClass RX10 = some m.cls := findClass_of_methodNamed Bd.named
  have hlocks := Bd.notSynchronized
  subst hsz
  have hD := hD0.self (sz := s.heap.size)
  generalize hAe : va_A (([(h0, .inr (10, [.ref rd, .ref wy, .ref tr, .ref im, .ref kp, .ref od, .ref ch, .ref cr, .ref le, .ref mk, .ref tl, .ref sh, .int tf, .int rf])), (sh, .inr (6, [.ref la, .ref si, .ref ce, .int x8, .int x9, .ref fi, .ref se])), (la, .inl (G 0, 4, .inl fl)), (si, .inl (G 0, 4, .inl fz)), (ce, .inl (G 4, 4, .inr (.inr (.inr (.inr (fun ir => if ir < 4 then some (rc ir) else none))))))] : va_W) ++ ((((List.range 4).map (fun iq => (rc iq, .inl (G 0, 40, .inl (F iq))))) : va_W) ++ [])) s.heap.size = A at hD ⊢
  have hA : ∀ q : Nat, s.heap.size ≤ q → A q := fun q h => by rw [← hAe]; exact Or.inr h
  have hS : va_S A s.heap s.heap [] := va_S.rf
  have hl := lv_entry ([.ref h0, .int k, .int lane, .int n]) (n := 4) (Nat.le_of_ble_eq_true rfl)
  rw [lg_entry_eq]
  generalize (lg_sl ([.ref h0, .int k, .int lane, .int n]) ++ List.replicate (4 - (lg_sl ([.ref h0, .int k, .int lane, .int n])).length) Slot.unset).toArray = ls at hl ⊢
  have hl : lv_has ls 4 [(0, .ref h0), (1, .int k), (2, .int lane), (3, .int n)] := hl
  refine lv_iload_n hx hb dX10_sheet_0 rfl (lv_at hl 1 rfl) ?_
  have hPc := hP.sub (ws' := []) [] rfl
  refine va_calli (va_runSN (As := [.int k]) (rest := []) ⟨hx, hb, hml, hown, hg⟩ (c_X6_isSheet l dC dI G _ k) (kwSN hg hK mfX6_isSheet wn_823 ⟨Nat.le_of_ble_eq_true rfl, Nat.le_of_ble_eq_true rfl⟩) (preSR hK hPc) rfl rfl hl.1 rfl (lv_room (Nat.le_of_ble_eq_true rfl)) dX10_sheet_1 ⟨Nat.le_of_ble_eq_true rfl, Nat.le_of_ble_eq_true rfl⟩) hS (fun q h1 h2 => absurd h2 (Nat.not_le.mpr h1)) (fun q h => hA q (Nat.le_trans hS.1 h)) (fun r1 ur1 t H1 locs ht hvm w2 hB hz1 hk1 hS => ?_)
  have hP := keepR hP hk1
  obtain ⟨w2, w2x⟩ := w2
  try simp only [l_ii, show (0 : Int32).toInt = 0 from by decide, show (4 : Int32).toInt = 4 from by decide] at w2
  subst w2
  refine lv_if_eq (tgt := 20) hx hb dX10_sheet_4 rfl (fun c3 => ?_) (fun c3 => ?_)
  · skip
    have b4 := if10_n c3
    refine lv_iconst (v := (-1)) hx hb dX10_sheet_20 rfl ?_
    have hpost : ((-1) : Int32) = if (0 ≤ k.toInt ∧ k.toInt < 4) ∧ (0 ≤ lane.toInt ∧ lane.toInt ≤ 2) ∧ n.toInt ≤ 40 then (if n.toInt < 0 then -14 else 1) else -1 := by
      have t_b4 := b4
      first | rfl | ((repeat' split) <;> first | rfl | omega)
    obtain ⟨hP9, hD9⟩ := va_sub2 (ws' := (([(h0, .inr (10, [.ref rd, .ref wy, .ref tr, .ref im, .ref kp, .ref od, .ref ch, .ref cr, .ref le, .ref mk, .ref tl, .ref sh, .int tf, .int rf])), (sh, .inr (6, [.ref la, .ref si, .ref ce, .int x8, .int x9, .ref fi, .ref se])), (la, .inl (G 0, 4, .inl fl)), (si, .inl (G 0, 4, .inl fz)), (ce, .inl (G 4, 4, .inr (.inr (.inr (.inr (fun ir => if ir < 4 then some (rc ir) else none))))))] : va_W) ++ ((((List.range 4).map (fun iq => (rc iq, .inl (G 0, 40, .inl (F iq))))) : va_W) ++ []))) hP hD [0, 1, 2, 3, 4, 5, 6, 7, 8] (by decide +kernel) rfl
    refine W.widen (k := 0) (n := 0) (Nat.le_of_ble_eq_true rfl) (Nat.le_of_ble_eq_true rfl) ?_
    exact W.iret (v := (-1)) hx hb hr (fun t ht hW => ⟨⟨(-1), (fl, fz, F), rfl, ⟨hpost, ⟨(by have t_b4 := b4; refine ⟨⟨?_, ?_⟩, hz⟩ <;> rw [if_neg (by omega)]), (by have t_b4 := b4; rw [if_neg (by omega)])⟩⟩, ⟨by rw [ht]; exact hP9, hD9⟩⟩, hS.F ht⟩) hS.2.2 dX10_sheet_21
  · skip
    have b5 := if10_p c3
    refine lv_iload_n hx hb dX10_sheet_7 rfl (lv_at hl 2 rfl) ?_
    have hPc := hP.sub (ws' := []) [] rfl
    refine va_calli (va_runSN (As := [.int lane]) (rest := []) ⟨hx, hb, hml, hown, hg⟩ (c_X6_isLane l dC dI G _ lane) (kwSN hg hK mfX6_isLane wn_826 ⟨Nat.le_of_ble_eq_true rfl, Nat.le_of_ble_eq_true rfl⟩) (preSR hK hPc) rfl rfl hl.1 rfl (lv_room (Nat.le_of_ble_eq_true rfl)) dX10_sheet_8 ⟨Nat.le_of_ble_eq_true rfl, Nat.le_of_ble_eq_true rfl⟩) hS (fun q h1 h2 => absurd h2 (Nat.not_le.mpr h1)) (fun q h => hA q (Nat.le_trans hS.1 h)) (fun r6 ur6 t H1 locs ht hvm w7 hB hz1 hk1 hS => ?_)
    have hP := keepR hP hk1
    obtain ⟨w7, w7x⟩ := w7
    try simp only [l_ii, show (0 : Int32).toInt = 0 from by decide, show (2 : Int32).toInt = 2 from by decide] at w7
    subst w7
    refine lv_if_eq (tgt := 20) hx hb dX10_sheet_11 rfl (fun c8 => ?_) (fun c8 => ?_)
    · skip
      have b9 := if10_n c8
      refine lv_iconst (v := (-1)) hx hb dX10_sheet_20 rfl ?_
      have hpost : ((-1) : Int32) = if (0 ≤ k.toInt ∧ k.toInt < 4) ∧ (0 ≤ lane.toInt ∧ lane.toInt ≤ 2) ∧ n.toInt ≤ 40 then (if n.toInt < 0 then -14 else 1) else -1 := by
        have t_b5 := b5
        have t_b9 := b9
        first | rfl | ((repeat' split) <;> first | rfl | omega)
      obtain ⟨hP9, hD9⟩ := va_sub2 (ws' := (([(h0, .inr (10, [.ref rd, .ref wy, .ref tr, .ref im, .ref kp, .ref od, .ref ch, .ref cr, .ref le, .ref mk, .ref tl, .ref sh, .int tf, .int rf])), (sh, .inr (6, [.ref la, .ref si, .ref ce, .int x8, .int x9, .ref fi, .ref se])), (la, .inl (G 0, 4, .inl fl)), (si, .inl (G 0, 4, .inl fz)), (ce, .inl (G 4, 4, .inr (.inr (.inr (.inr (fun ir => if ir < 4 then some (rc ir) else none))))))] : va_W) ++ ((((List.range 4).map (fun iq => (rc iq, .inl (G 0, 40, .inl (F iq))))) : va_W) ++ []))) hP hD [0, 1, 2, 3, 4, 5, 6, 7, 8] (by decide +kernel) rfl
      refine W.widen (k := 0) (n := 0) (Nat.le_of_ble_eq_true rfl) (Nat.le_of_ble_eq_true rfl) ?_
      exact W.iret (v := (-1)) hx hb hr (fun t ht hW => ⟨⟨(-1), (fl, fz, F), rfl, ⟨hpost, ⟨(by have t_b5 := b5; have t_b9 := b9; refine ⟨⟨?_, ?_⟩, hz⟩ <;> rw [if_neg (by omega)]), (by have t_b5 := b5; have t_b9 := b9; rw [if_neg (by omega)])⟩⟩, ⟨by rw [ht]; exact hP9, hD9⟩⟩, hS.F ht⟩) hS.2.2 dX10_sheet_21
    · skip
      have b10 := if10_p c8
      refine lv_iload_n hx hb dX10_sheet_14 rfl (lv_at hl 3 rfl) ?_
      refine lv_bipush (v := 40) hx hb dX10_sheet_15 rfl ?_
      refine lv_icmp_le (tgt := 22) hx hb dX10_sheet_17 rfl (fun c11 => ?_) (fun c11 => ?_)
      · skip
        refine lv_iload_n hx hb dX10_sheet_22 rfl (lv_at hl 3 rfl) ?_
        refine lv_if_ge (tgt := 29) hx hb dX10_sheet_23 rfl (fun c12 => ?_) (fun c12 => ?_)
        · skip
          obtain ⟨kk, hkk, rfl⟩ : ∃ j : Nat, j < 4 ∧ k = nI j := by
            have t_b5 := b5
            have t_b10 := b10
            have t_c11 := leI c11
            have t_c12 := leI c12
            have : (0 : Int32).toInt = 0 := qI_0
            have : (40 : Int32).toInt = 40 := qI_40
            exact i32_nat (by omega) (by omega)
          obtain ⟨nn, hnn, rfl⟩ : ∃ j : Nat, j < 41 ∧ n = nI j := by
            have t_b5 := b5
            have t_b10 := b10
            have t_c11 := leI c11
            have t_c12 := leI c12
            have t_hkk := hkk
            have : (0 : Int32).toInt = 0 := qI_0
            have : (40 : Int32).toInt = 40 := qI_40
            have tn2164_ : nIT kk := fun _ => nI_toInt (by omega)
            have t_n0 : (nI kk).toInt = (kk : Int) := tn2164_ ()
            exact i32_nat (by omega) (by omega)
          refine lv_aload_n hx hb dX10_sheet_29 rfl (lv_at hl 0 rfl) ?_
          refine va_get (D := (dC, dI)) (ci := 10) (v := .ref sh) (C := RX10) (T := TX10) (N := 14) hx hb hg inG10 hown hK.1 hP 0 rfl rfl 11 (Nat.le_of_ble_eq_true rfl) (hg _ wt_313) (fun _ h9 => h9) rfl dX10_sheet_30 ?_
          refine lv_iload_n hx hb dX10_sheet_33 rfl (lv_at hl 1 rfl) ?_
          refine lv_iload_n hx hb dX10_sheet_34 rfl (lv_at hl 2 rfl) ?_
          refine lv_iload_n hx hb dX10_sheet_35 rfl (lv_at hl 3 rfl) ?_
          obtain ⟨hPc, hDc, hFc⟩ := va_sub3 (ws' := (([(sh, .inr (6, [.ref la, .ref si, .ref ce, .int x8, .int x9, .ref fi, .ref se])), (la, .inl (G 0, 4, .inl fl)), (si, .inl (G 0, 4, .inl fz)), (ce, .inl (G 4, 4, .inr (.inr (.inr (.inr (fun ir => if ir < 4 then some (rc ir) else none))))))] : va_W) ++ ((((List.range 4).map (fun iq => (rc iq, .inl (G 0, 40, .inl (F iq))))) : va_W) ++ []))) hP hD hS hA [1, 2, 3, 4, 5, 6, 7, 8] (by decide +kernel) rfl
          have tn2165_ : nIT kk := fun _ => nI_toInt (by first | omega | (have t_b5 := b5; have t_b10 := b10; have t_c11 := leI c11; have t_c12 := leI c12; have t_hkk := hkk; have t_hnn := hnn; have tqz_ := qz11_; omega))
          have tn2166_ : nIT nn := fun _ => nI_toInt (by first | omega | (have t_b5 := b5; have t_b10 := b10; have t_c11 := leI c11; have t_c12 := leI c12; have t_hkk := hkk; have t_hnn := hnn; have tqz_ := qz11_; omega))
          refine va_callv (va_runVN (As := [.int (nI kk), .int lane, .int (nI nn)]) (rest := []) ⟨hx, hb, hml, hown, hg⟩ (c_X6_renewE l dC dI G _ sh la si ce fi se kk nn x8 x9 lane fl fz rc F (by first | omega | (have t_b5 := b5; have t_b10 := b10; have t_c11 := leI c11; have t_c12 := leI c12; have t_hkk := hkk; have t_hnn := hnn; have tqz_ := qz11_; have tnb_ := nib2 tn2165_ tn2166_; omega)) (by first | omega | (have t_b5 := b5; have t_b10 := b10; have t_c11 := leI c11; have t_c12 := leI c12; have t_hkk := hkk; have t_hnn := hnn; have tqz_ := qz11_; have tnb_ := nib2 tn2165_ tn2166_; omega))) (kwVN hg hK mfX6_renew wn_829 ⟨Nat.le_of_ble_eq_true rfl, Nat.le_of_ble_eq_true rfl⟩) (preVW hK hPc hDc (ci := 6) (r := (RX6, TX6, 7)) rfl rfl) rfl rfl hl.1 rfl (lv_room (Nat.le_of_ble_eq_true rfl)) dX10_sheet_36 ⟨Nat.le_of_ble_eq_true rfl, Nat.le_of_ble_eq_true rfl⟩) hS (fun q _ h => hFc q h) hFc (fun ur13 t H1 locs ht hvm w14 hB hz1 hk1 hS => ?_)
          obtain ⟨u15, u16, u17⟩ := ur13
          obtain ⟨hP1, hD1⟩ := hB
          rw [ht] at hP1
          obtain ⟨hP, hD⟩ := va_join (wr := [(h0, .inr (10, [.ref rd, .ref wy, .ref tr, .ref im, .ref kp, .ref od, .ref ch, .ref cr, .ref le, .ref mk, .ref tl, .ref sh, .int tf, .int rf]))]) (w1 := (([(sh, .inr (6, [.ref la, .ref si, .ref ce, .int x8, .int x9, .ref fi, .ref se])), (la, .inl (G 0, 4, .inl u16)), (si, .inl (G 0, 4, .inl u17)), (ce, .inl (G 4, 4, .inr (.inr (.inr (.inr (fun ir => if ir < 4 then some (rc ir) else none))))))] : va_W) ++ ((((List.range 4).map (fun iq => (rc iq, .inl (G 0, 40, .inl (u15 iq))))) : va_W) ++ []))) hP hD [1, 2, 3, 4, 5, 6, 7, 8] [0] rfl rfl (by decide +kernel) (by decide +kernel) hk1 hFc hP1 hD1
          have w14 : u16 = upd fl kk lane ∧ u17 = upd fz kk (nI nn) ∧ u15 = va_up F kk (zpF nn (F kk)) := w14
          generalize H1 = H at hP hS ⊢
          refine lv_iconst (v := 1) hx hb dX10_sheet_39 rfl ?_
          have hpost : (1 : Int32) = if (0 ≤ (nI kk).toInt ∧ (nI kk).toInt < 4) ∧ (0 ≤ lane.toInt ∧ lane.toInt ≤ 2) ∧ (nI nn).toInt ≤ 40 then (if (nI nn).toInt < 0 then -14 else 1) else -1 := by
            have t_b5 := b5
            have t_b10 := b10
            have t_c11 := leI c11
            have t_c12 := leI c12
            have t_hkk := hkk
            have t_hnn := hnn
            have : (0 : Int32).toInt = 0 := qI_0
            have : (40 : Int32).toInt = 40 := qI_40
            have t_n0 : (nI kk).toInt = (kk : Int) := tn2165_ ()
            have t_n1 : (nI nn).toInt = (nn : Int) := tn2166_ ()
            first | rfl | ((repeat' split) <;> first | rfl | omega)
          obtain ⟨hP9, hD9⟩ := va_sub2 (ws' := (([(h0, .inr (10, [.ref rd, .ref wy, .ref tr, .ref im, .ref kp, .ref od, .ref ch, .ref cr, .ref le, .ref mk, .ref tl, .ref sh, .int tf, .int rf])), (sh, .inr (6, [.ref la, .ref si, .ref ce, .int x8, .int x9, .ref fi, .ref se])), (la, .inl (G 0, 4, .inl u16)), (si, .inl (G 0, 4, .inl u17)), (ce, .inl (G 4, 4, .inr (.inr (.inr (.inr (fun ir => if ir < 4 then some (rc ir) else none))))))] : va_W) ++ ((((List.range 4).map (fun iq => (rc iq, .inl (G 0, 40, .inl (u15 iq))))) : va_W) ++ []))) hP hD [0, 1, 2, 3, 4, 5, 6, 7, 8] (by decide +kernel) rfl
          refine W.widen (k := 0) (n := 0) (Nat.le_of_ble_eq_true rfl) (Nat.le_of_ble_eq_true rfl) ?_
          exact W.iret (v := 1) hx hb hr (fun t ht hW => ⟨⟨1, (u16, u17, u15), rfl, ⟨hpost, ⟨(by have t_b5 := b5; have t_b10 := b10; have t_c11 := leI c11; have t_c12 := leI c12; have t_hkk := hkk; have t_hnn := hnn; have tqz_ := qz11_; have tnb_ := nib2 tn2165_ tn2166_; have q9 := w14; refine ⟨⟨?_, ?_⟩, q9.2.1 ▸ hz_upd hz (by omega)⟩; (rw [if_pos (by omega), nI_clamp (by omega)]; exact q9.1); (rw [if_pos (by omega), nI_clamp (by omega)]; exact q9.2.1)), (by have t_b5 := b5; have t_b10 := b10; have t_c11 := leI c11; have t_c12 := leI c12; have t_hkk := hkk; have t_hnn := hnn; have tqz_ := qz11_; have tnb_ := nib2 tn2165_ tn2166_; rw [if_pos (by omega), nI_clamp (by omega), nI_clamp (by omega)]; exact w14.2.2)⟩⟩, ⟨by rw [ht]; exact hP9, hD9⟩⟩, hS.F ht⟩) hS.2.2 dX10_sheet_40
        · skip
          refine lv_bipush (v := (-14)) hx hb dX10_sheet_26 rfl ?_
          have hpost : ((-14) : Int32) = if (0 ≤ k.toInt ∧ k.toInt < 4) ∧ (0 ≤ lane.toInt ∧ lane.toInt ≤ 2) ∧ n.toInt ≤ 40 then (if n.toInt < 0 then -14 else 1) else -1 := by
            have t_b5 := b5
            have t_b10 := b10
            have t_c11 := leI c11
            have t_c12 := nleI c12
            have : (0 : Int32).toInt = 0 := qI_0
            have : (40 : Int32).toInt = 40 := qI_40
            first | rfl | ((repeat' split) <;> first | rfl | omega)
          obtain ⟨hP9, hD9⟩ := va_sub2 (ws' := (([(h0, .inr (10, [.ref rd, .ref wy, .ref tr, .ref im, .ref kp, .ref od, .ref ch, .ref cr, .ref le, .ref mk, .ref tl, .ref sh, .int tf, .int rf])), (sh, .inr (6, [.ref la, .ref si, .ref ce, .int x8, .int x9, .ref fi, .ref se])), (la, .inl (G 0, 4, .inl fl)), (si, .inl (G 0, 4, .inl fz)), (ce, .inl (G 4, 4, .inr (.inr (.inr (.inr (fun ir => if ir < 4 then some (rc ir) else none))))))] : va_W) ++ ((((List.range 4).map (fun iq => (rc iq, .inl (G 0, 40, .inl (F iq))))) : va_W) ++ []))) hP hD [0, 1, 2, 3, 4, 5, 6, 7, 8] (by decide +kernel) rfl
          refine W.widen (k := 0) (n := 0) (Nat.le_of_ble_eq_true rfl) (Nat.le_of_ble_eq_true rfl) ?_
          exact W.iret (v := (-14)) hx hb hr (fun t ht hW => ⟨⟨(-14), (fl, fz, F), rfl, ⟨hpost, ⟨(by have t_b5 := b5; have t_b10 := b10; have t_c11 := leI c11; have t_c12 := nleI c12; have tqz_ := qz11_; refine ⟨⟨?_, ?_⟩, hz⟩ <;> rw [if_neg (by omega)]), (by have t_b5 := b5; have t_b10 := b10; have t_c11 := leI c11; have t_c12 := nleI c12; have tqz_ := qz11_; rw [if_neg (by omega)])⟩⟩, ⟨by rw [ht]; exact hP9, hD9⟩⟩, hS.F ht⟩) hS.2.2 dX10_sheet_28
      · skip
        refine lv_iconst (v := (-1)) hx hb dX10_sheet_20 rfl ?_
        have hpost : ((-1) : Int32) = if (0 ≤ k.toInt ∧ k.toInt < 4) ∧ (0 ≤ lane.toInt ∧ lane.toInt ≤ 2) ∧ n.toInt ≤ 40 then (if n.toInt < 0 then -14 else 1) else -1 := by
          have t_b5 := b5
          have t_b10 := b10
          have t_c11 := nleI c11
          have : (40 : Int32).toInt = 40 := qI_40
          first | rfl | ((repeat' split) <;> first | rfl | omega)
        obtain ⟨hP9, hD9⟩ := va_sub2 (ws' := (([(h0, .inr (10, [.ref rd, .ref wy, .ref tr, .ref im, .ref kp, .ref od, .ref ch, .ref cr, .ref le, .ref mk, .ref tl, .ref sh, .int tf, .int rf])), (sh, .inr (6, [.ref la, .ref si, .ref ce, .int x8, .int x9, .ref fi, .ref se])), (la, .inl (G 0, 4, .inl fl)), (si, .inl (G 0, 4, .inl fz)), (ce, .inl (G 4, 4, .inr (.inr (.inr (.inr (fun ir => if ir < 4 then some (rc ir) else none))))))] : va_W) ++ ((((List.range 4).map (fun iq => (rc iq, .inl (G 0, 40, .inl (F iq))))) : va_W) ++ []))) hP hD [0, 1, 2, 3, 4, 5, 6, 7, 8] (by decide +kernel) rfl
        refine W.widen (k := 0) (n := 0) (Nat.le_of_ble_eq_true rfl) (Nat.le_of_ble_eq_true rfl) ?_
        exact W.iret (v := (-1)) hx hb hr (fun t ht hW => ⟨⟨(-1), (fl, fz, F), rfl, ⟨hpost, ⟨(by have t_b5 := b5; have t_b10 := b10; have t_c11 := nleI c11; have : (40 : Int32).toInt = 40 := qI_40; refine ⟨⟨?_, ?_⟩, hz⟩ <;> rw [if_neg (by omega)]), (by have t_b5 := b5; have t_b10 := b10; have t_c11 := nleI c11; have : (40 : Int32).toInt = 40 := qI_40; rw [if_neg (by omega)])⟩⟩, ⟨by rw [ht]; exact hP9, hD9⟩⟩, hS.F ht⟩) hS.2.2 dX10_sheet_21

set_option maxHeartbeats 1000000 in
set_option maxRecDepth 100000 in
theorem c_X11_changesO (l : Launch) (dC : Nat → ClassId) (dI : Nat → Nat → Nat) (G : Nat → ClassId) (sz : Nat) (h0 i k st N B rp tp T cu lt od th be ln S ma M ah bh ik la lg ce : Nat) (vrs vrb vhs vca vxs vxb vfa vbr vba vsp vhe vtk vva vto : Int32) (fst : Nat → Int32) (hN : N ≤ 10) (hB : B ≤ 6) (hT : T ≤ 320) (hS0 : S ≤ 8) (hM : M ≤ 6) (hst : OKS fst) (hi : i < 10) (hk : k < 10) : Met l yX11_changes (Cond.code yX11_changes cX11_changes 4 none :: GT) ({ frames := 0, cells := 0, slots := 0, locals := 0 } : Room) (PcW [.ref h0, .int (nI i), .int (nI k)] dC dI G [(h0, .inr (11, [.ref st, .int (nI N), .int (nI B), .ref rp, .int vrs, .int vrb, .int vhs, .int vca, .int vxs, .int vxb, .ref tp, .int (nI T), .int vfa, .int vbr, .int vba, .int vsp, .int vhe, .int vtk, .int vva, .ref cu, .ref lt, .ref od, .ref th, .ref be, .ref ln, .int (nI S), .ref ma, .int (nI M), .ref ah, .ref bh, .ref ik, .ref la, .ref lg, .ref ce, .int vto])), (st, .inl (G 0, 196, .inl fst))] sz) (va_Qv (fun (u : (Nat → Int32)) => match u with | ost => OKS ost ∧ ost = xch fst i k) (fun (u : (Nat → Int32)) (t : State) => match u with | ost => va_P (dC, dI) vwCl [(h0, .inr (11, [.ref st, .int (nI N), .int (nI B), .ref rp, .int vrs, .int vrb, .int vhs, .int vca, .int vxs, .int vxb, .ref tp, .int (nI T), .int vfa, .int vbr, .int vba, .int vsp, .int vhe, .int vtk, .int vva, .ref cu, .ref lt, .ref od, .ref th, .ref be, .ref ln, .int (nI S), .ref ma, .int (nI M), .ref ah, .ref bh, .ref ik, .ref la, .ref lg, .ref ce, .int vto])), (st, .inl (G 0, 196, .inl ost))] t.heap ∧ va_D (va_A [(h0, .inr (11, [.ref st, .int (nI N), .int (nI B), .ref rp, .int vrs, .int vrb, .int vhs, .int vca, .int vxs, .int vxb, .ref tp, .int (nI T), .int vfa, .int vbr, .int vba, .int vsp, .int vhe, .int vtk, .int vva, .ref cu, .ref lt, .ref od, .ref th, .ref be, .ref ln, .int (nI S), .ref ma, .int (nI M), .ref ah, .ref bh, .ref ik, .ref la, .ref lg, .ref ce, .int vto])), (st, .inl (G 0, 196, .inl fst))] sz) [(h0, .inr (11, [.ref st, .int (nI N), .int (nI B), .ref rp, .int vrs, .int vrb, .int vhs, .int vca, .int vxs, .int vxb, .ref tp, .int (nI T), .int vfa, .int vbr, .int vba, .int vsp, .int vhe, .int vtk, .int vva, .ref cu, .ref lt, .ref od, .ref th, .ref be, .ref ln, .int (nI S), .ref ma, .int (nI M), .ref ah, .ref bh, .ref ik, .ref la, .ref lg, .ref ce, .int vto])), (st, .inl (G 0, 196, .inl ost))]) (va_A [(h0, .inr (11, [.ref st, .int (nI N), .int (nI B), .ref rp, .int vrs, .int vrb, .int vhs, .int vca, .int vxs, .int vxb, .ref tp, .int (nI T), .int vfa, .int vbr, .int vba, .int vsp, .int vhe, .int vtk, .int vva, .ref cu, .ref lt, .ref od, .ref th, .ref be, .ref ln, .int (nI S), .ref ma, .int (nI M), .ref ah, .ref bh, .ref ik, .ref la, .ref lg, .ref ce, .int vto])), (st, .inl (G 0, 196, .inl fst))] sz)) 0 0 (va_A [(h0, .inr (11, [.ref st, .int (nI N), .int (nI B), .ref rp, .int vrs, .int vrb, .int vhs, .int vca, .int vxs, .int vxb, .ref tp, .int (nI T), .int vfa, .int vbr, .int vba, .int vsp, .int vhe, .int vtk, .int vva, .ref cu, .ref lt, .ref od, .ref th, .ref be, .ref ln, .int (nI S), .ref ma, .int (nI M), .ref ah, .ref bh, .ref ik, .ref la, .ref lg, .ref ce, .int vto])), (st, .inl (G 0, 196, .inl fst))] sz) := by
  have tn2167_ : nIT N := fun _ => nI_toInt (by omega)
  have tn2168_ : nIT B := fun _ => nI_toInt (by omega)
  have tn2169_ : nIT T := fun _ => nI_toInt (by omega)
  have tn2170_ : nIT S := fun _ => nI_toInt (by omega)
  have tn2171_ : nIT M := fun _ => nI_toInt (by omega)
  refine Met.ofW (cc := cX11_changes) (maxL := 4) (ret := none) (by decide) rfl ?_
  intro p e s m args below meth c s₁ Bd hml hv
  obtain ⟨rfl, hsz, hP, hK, hD0⟩ := hv
  have hx := Bd.exec
  have hb := Bd.bytes
  have hr := Bd.returns
  have hg : ∀ w ∈ GT, w.before ([.ref h0, .int (nI i), .int (nI k)] : List Value).toArray s = true := fun w h => atoms_spec (ws := Cond.code yX11_changes cX11_changes 4 none :: GT) Bd.pre w (List.mem_cons_of_mem _ h)
  have hown : s.vm.findClass RX11 = some m.cls := findClass_of_methodNamed Bd.named
  have hlocks := Bd.notSynchronized
  subst hsz
  have hD := hD0.self (sz := s.heap.size)
  generalize hAe : va_A [(h0, .inr (11, [.ref st, .int (nI N), .int (nI B), .ref rp, .int vrs, .int vrb, .int vhs, .int vca, .int vxs, .int vxb, .ref tp, .int (nI T), .int vfa, .int vbr, .int vba, .int vsp, .int vhe, .int vtk, .int vva, .ref cu, .ref lt, .ref od, .ref th, .ref be, .ref ln, .int (nI S), .ref ma, .int (nI M), .ref ah, .ref bh, .ref ik, .ref la, .ref lg, .ref ce, .int vto])), (st, .inl (G 0, 196, .inl fst))] s.heap.size = A at hD ⊢
  have hA : ∀ q : Nat, s.heap.size ≤ q → A q := fun q h => by rw [← hAe]; exact Or.inr h
  have hS : va_S A s.heap s.heap [] := va_S.rf
  have hl := lv_entry ([.ref h0, .int (nI i), .int (nI k)]) (n := 4) (Nat.le_of_ble_eq_true rfl)
  rw [lg_entry_eq]
  generalize (lg_sl ([.ref h0, .int (nI i), .int (nI k)]) ++ List.replicate (4 - (lg_sl ([.ref h0, .int (nI i), .int (nI k)])).length) Slot.unset).toArray = ls at hl ⊢
  have hl : lv_has ls 4 [(0, .ref h0), (1, .int (nI i)), (2, .int (nI k))] := hl
  refine lv_aload_n hx hb dX11_changes_0 rfl (lv_at hl 0 rfl) ?_
  refine va_get (D := (dC, dI)) (ci := 11) (v := .ref st) (C := RX11) (T := TX11) (N := 35) hx hb hg inG11 hown hK.1 hP 0 rfl rfl 0 (Nat.le_of_ble_eq_true rfl) (hg _ wt_878) (fun _ h9 => h9) rfl dX11_changes_1 ?_
  refine lv_bipush (v := 38) hx hb dX11_changes_4 rfl ?_
  refine lv_iload_n hx hb dX11_changes_6 rfl (lv_at hl 1 rfl) ?_
  refine lv_iadd hx hb dX11_changes_7 ?_
  refine lv_cg (y := nI (38 + i)) (by rw [show (38 : Int32) = nI 38 from rfl]; exact nI_add _ _) ?_
  have tn2172_ : nIT i := fun _ => nI_toInt (by omega)
  have tn2173_ : nIT k := fun _ => nI_toInt (by omega)
  refine va_iald hx hb hK.1 hP 1 0 rfl rfl (vp_in_nI (by first | omega | (have tnb_ := nib7 tn2172_ tn2173_ tn2167_ tn2168_ tn2169_ tn2170_ tn2171_; omega)) (by decide)) dX11_changes_8 ?_
  refine lv_cg (y := fst (38 + i)) (by rw [nI_clamp (by omega)]) ?_
  refine lv_istore_n (lv' := [(3, .int (fst (38 + i))), (0, .ref h0), (1, .int (nI i)), (2, .int (nI k))]) hx hb dX11_changes_9 rfl hl (by decide) rfl (fun ls hl => ?_)
  refine lv_aload_n hx hb dX11_changes_10 rfl (lv_at hl 1 rfl) ?_
  refine va_get (D := (dC, dI)) (ci := 11) (v := .ref st) (C := RX11) (T := TX11) (N := 35) hx hb hg inG11 hown hK.1 hP 0 rfl rfl 0 (Nat.le_of_ble_eq_true rfl) (hg _ wt_878) (fun _ h9 => h9) rfl dX11_changes_11 ?_
  refine lv_bipush (v := 38) hx hb dX11_changes_14 rfl ?_
  refine lv_iload_n hx hb dX11_changes_16 rfl (lv_at hl 2 rfl) ?_
  refine lv_iadd hx hb dX11_changes_17 ?_
  refine lv_cg (y := nI (38 + i)) (by rw [show (38 : Int32) = nI 38 from rfl]; exact nI_add _ _) ?_
  refine lv_aload_n hx hb dX11_changes_18 rfl (lv_at hl 1 rfl) ?_
  refine va_get (D := (dC, dI)) (ci := 11) (v := .ref st) (C := RX11) (T := TX11) (N := 35) hx hb hg inG11 hown hK.1 hP 0 rfl rfl 0 (Nat.le_of_ble_eq_true rfl) (hg _ wt_878) (fun _ h9 => h9) rfl dX11_changes_19 ?_
  refine lv_bipush (v := 38) hx hb dX11_changes_22 rfl ?_
  refine lv_iload_n hx hb dX11_changes_24 rfl (lv_at hl 3 rfl) ?_
  refine lv_iadd hx hb dX11_changes_25 ?_
  refine lv_cg (y := nI (38 + k)) (by rw [show (38 : Int32) = nI 38 from rfl]; exact nI_add _ _) ?_
  refine va_iald hx hb hK.1 hP 1 0 rfl rfl (vp_in_nI (by first | omega | (have tnb_ := nib7 tn2172_ tn2173_ tn2167_ tn2168_ tn2169_ tn2170_ tn2171_; omega)) (by decide)) dX11_changes_26 ?_
  refine lv_cg (y := fst (38 + k)) (by rw [nI_clamp (by omega)]) ?_
  refine va_iast hx hb hK.1 hP hD hS 1 0 rfl rfl (vp_in_nI (by first | omega | (have tnb_ := nib7 tn2172_ tn2173_ tn2167_ tn2168_ tn2169_ tn2170_ tn2171_; omega)) (by decide)) dX11_changes_27 (fun H locs hP hD hS => ?_)
  rw [nI_clamp (by omega)] at hP hD
  refine lv_aload_n hx hb dX11_changes_28 rfl (lv_at hl 1 rfl) ?_
  refine va_get (D := (dC, dI)) (ci := 11) (v := .ref st) (C := RX11) (T := TX11) (N := 35) hx hb hg inG11 hown hK.1 hP 0 rfl rfl 0 (Nat.le_of_ble_eq_true rfl) (hg _ wt_878) (fun _ h9 => h9) rfl dX11_changes_29 ?_
  refine lv_bipush (v := 38) hx hb dX11_changes_32 rfl ?_
  refine lv_iload_n hx hb dX11_changes_34 rfl (lv_at hl 3 rfl) ?_
  refine lv_iadd hx hb dX11_changes_35 ?_
  refine lv_cg (y := nI (38 + k)) (by rw [show (38 : Int32) = nI 38 from rfl]; exact nI_add _ _) ?_
  refine lv_iload_n hx hb dX11_changes_36 rfl (lv_at hl 0 rfl) ?_
  refine va_iast hx hb hK.1 hP hD hS 1 0 rfl rfl (vp_in_nI (by first | omega | (have tnb_ := nib7 tn2172_ tn2173_ tn2167_ tn2168_ tn2169_ tn2170_ tn2171_; omega)) (by decide)) dX11_changes_37 (fun H locs hP hD hS => ?_)
  rw [nI_clamp (by omega)] at hP hD
  obtain ⟨hP9, hD9⟩ := va_sub2 (ws' := [(h0, .inr (11, [.ref st, .int (nI N), .int (nI B), .ref rp, .int vrs, .int vrb, .int vhs, .int vca, .int vxs, .int vxb, .ref tp, .int (nI T), .int vfa, .int vbr, .int vba, .int vsp, .int vhe, .int vtk, .int vva, .ref cu, .ref lt, .ref od, .ref th, .ref be, .ref ln, .int (nI S), .ref ma, .int (nI M), .ref ah, .ref bh, .ref ik, .ref la, .ref lg, .ref ce, .int vto])), (st, .inl (G 0, 196, .inl (upd (upd fst (38 + i) (fst (38 + k))) (38 + k) (fst (38 + i)))))]) hP hD [0, 1] (by decide +kernel) rfl
  refine W.widen (k := 0) (n := 0) (Nat.le_of_ble_eq_true rfl) (Nat.le_of_ble_eq_true rfl) ?_
  exact W.vret hx hb hr (fun t ht hW => ⟨⟨(upd (upd fst (38 + i) (fst (38 + k))) (38 + k) (fst (38 + i))), rfl, ⟨((hst.upd (okS_mv hst (by omega) (by omega) (by omega) (by omega))).upd (okS_mv hst (by omega) (by omega) (by omega) (by omega))), rfl⟩, ⟨by rw [ht]; exact hP9, hD9⟩⟩, hS.F ht⟩) hS.2.2 dX11_changes_38

set_option maxHeartbeats 1000000 in
set_option maxRecDepth 100000 in
theorem c_X11_swapO (l : Launch) (dC : Nat → ClassId) (dI : Nat → Nat → Nat) (G : Nat → ClassId) (sz : Nat) (h0 st N B rp tp T cu lt od th be ln S ma M ah bh ik la lg ce : Nat) (what vrs vrb vhs vca vxs vxb vfa vbr vba vsp vhe vtk vva vto : Int32) (fst : Nat → Int32) (fod : Nat → Int64) (fth : Nat → Int64) (hN : N ≤ 10) (hB : B ≤ 6) (hT : T ≤ 320) (hS0 : S ≤ 8) (hM : M ≤ 6) (hst : OKS fst) : Met l yX11_swap (Cond.code yX11_swap cX11_swap 7 (some .long) :: GT) ({ frames := 4, cells := 0, slots := 0, locals := 99 } : Room) (PcW [.ref h0, .int what] dC dI G [(h0, .inr (11, [.ref st, .int (nI N), .int (nI B), .ref rp, .int vrs, .int vrb, .int vhs, .int vca, .int vxs, .int vxb, .ref tp, .int (nI T), .int vfa, .int vbr, .int vba, .int vsp, .int vhe, .int vtk, .int vva, .ref cu, .ref lt, .ref od, .ref th, .ref be, .ref ln, .int (nI S), .ref ma, .int (nI M), .ref ah, .ref bh, .ref ik, .ref la, .ref lg, .ref ce, .int vto])), (st, .inl (G 0, 196, .inl fst)), (od, .inl (G 1, 10, .inr (.inl fod))), (th, .inl (G 1, 10, .inr (.inl fth)))] sz) (va_Ql (fun (r : Int64) (u : (Nat → Int32) × (Nat → Int64) × (Nat → Int64)) => match u with | (ost, ood, oth) => (True) ∧ OKS ost ∧ ost = fst) (fun (u : (Nat → Int32) × (Nat → Int64) × (Nat → Int64)) (t : State) => match u with | (ost, ood, oth) => va_P (dC, dI) vwCl [(h0, .inr (11, [.ref st, .int (nI N), .int (nI B), .ref rp, .int vrs, .int vrb, .int vhs, .int vca, .int vxs, .int vxb, .ref tp, .int (nI T), .int vfa, .int vbr, .int vba, .int vsp, .int vhe, .int vtk, .int vva, .ref cu, .ref lt, .ref od, .ref th, .ref be, .ref ln, .int (nI S), .ref ma, .int (nI M), .ref ah, .ref bh, .ref ik, .ref la, .ref lg, .ref ce, .int vto])), (st, .inl (G 0, 196, .inl ost)), (od, .inl (G 1, 10, .inr (.inl ood))), (th, .inl (G 1, 10, .inr (.inl oth)))] t.heap ∧ va_D (va_A [(h0, .inr (11, [.ref st, .int (nI N), .int (nI B), .ref rp, .int vrs, .int vrb, .int vhs, .int vca, .int vxs, .int vxb, .ref tp, .int (nI T), .int vfa, .int vbr, .int vba, .int vsp, .int vhe, .int vtk, .int vva, .ref cu, .ref lt, .ref od, .ref th, .ref be, .ref ln, .int (nI S), .ref ma, .int (nI M), .ref ah, .ref bh, .ref ik, .ref la, .ref lg, .ref ce, .int vto])), (st, .inl (G 0, 196, .inl fst)), (od, .inl (G 1, 10, .inr (.inl fod))), (th, .inl (G 1, 10, .inr (.inl fth)))] sz) [(h0, .inr (11, [.ref st, .int (nI N), .int (nI B), .ref rp, .int vrs, .int vrb, .int vhs, .int vca, .int vxs, .int vxb, .ref tp, .int (nI T), .int vfa, .int vbr, .int vba, .int vsp, .int vhe, .int vtk, .int vva, .ref cu, .ref lt, .ref od, .ref th, .ref be, .ref ln, .int (nI S), .ref ma, .int (nI M), .ref ah, .ref bh, .ref ik, .ref la, .ref lg, .ref ce, .int vto])), (st, .inl (G 0, 196, .inl ost)), (od, .inl (G 1, 10, .inr (.inl ood))), (th, .inl (G 1, 10, .inr (.inl oth)))]) (va_A [(h0, .inr (11, [.ref st, .int (nI N), .int (nI B), .ref rp, .int vrs, .int vrb, .int vhs, .int vca, .int vxs, .int vxb, .ref tp, .int (nI T), .int vfa, .int vbr, .int vba, .int vsp, .int vhe, .int vtk, .int vva, .ref cu, .ref lt, .ref od, .ref th, .ref be, .ref ln, .int (nI S), .ref ma, .int (nI M), .ref ah, .ref bh, .ref ik, .ref la, .ref lg, .ref ce, .int vto])), (st, .inl (G 0, 196, .inl fst)), (od, .inl (G 1, 10, .inr (.inl fod))), (th, .inl (G 1, 10, .inr (.inl fth)))] sz)) 0 0 (va_A [(h0, .inr (11, [.ref st, .int (nI N), .int (nI B), .ref rp, .int vrs, .int vrb, .int vhs, .int vca, .int vxs, .int vxb, .ref tp, .int (nI T), .int vfa, .int vbr, .int vba, .int vsp, .int vhe, .int vtk, .int vva, .ref cu, .ref lt, .ref od, .ref th, .ref be, .ref ln, .int (nI S), .ref ma, .int (nI M), .ref ah, .ref bh, .ref ik, .ref la, .ref lg, .ref ce, .int vto])), (st, .inl (G 0, 196, .inl fst)), (od, .inl (G 1, 10, .inr (.inl fod))), (th, .inl (G 1, 10, .inr (.inl fth)))] sz) := by
  have hB_ := hB
  have hM_ := hM
  have hT_ := hT
  have tn2174_ : nIT N := fun _ => nI_toInt (by omega)
  have tn2175_ : nIT B := fun _ => nI_toInt (by omega)
  have tn2176_ : nIT T := fun _ => nI_toInt (by omega)
  have tn2177_ : nIT S := fun _ => nI_toInt (by omega)
  have tn2178_ : nIT M := fun _ => nI_toInt (by omega)
  refine Met.ofW (cc := cX11_swap) (maxL := 7) (ret := (some .long)) (by decide) rfl ?_
  intro p e s m args below meth c s₁ Bd hml hv
  obtain ⟨rfl, hsz, hP, hK, hD0⟩ := hv
  have hx := Bd.exec
  have hb := Bd.bytes
  have hr := Bd.returns
  have hg : ∀ w ∈ GT, w.before ([.ref h0, .int what] : List Value).toArray s = true := fun w h => atoms_spec (ws := Cond.code yX11_swap cX11_swap 7 (some .long) :: GT) Bd.pre w (List.mem_cons_of_mem _ h)
  have hown : s.vm.findClass RX11 = some m.cls := findClass_of_methodNamed Bd.named
  have hlocks := Bd.notSynchronized
  subst hsz
  have hD := hD0.self (sz := s.heap.size)
  generalize hAe : va_A [(h0, .inr (11, [.ref st, .int (nI N), .int (nI B), .ref rp, .int vrs, .int vrb, .int vhs, .int vca, .int vxs, .int vxb, .ref tp, .int (nI T), .int vfa, .int vbr, .int vba, .int vsp, .int vhe, .int vtk, .int vva, .ref cu, .ref lt, .ref od, .ref th, .ref be, .ref ln, .int (nI S), .ref ma, .int (nI M), .ref ah, .ref bh, .ref ik, .ref la, .ref lg, .ref ce, .int vto])), (st, .inl (G 0, 196, .inl fst)), (od, .inl (G 1, 10, .inr (.inl fod))), (th, .inl (G 1, 10, .inr (.inl fth)))] s.heap.size = A at hD ⊢
  have hA : ∀ q : Nat, s.heap.size ≤ q → A q := fun q h => by rw [← hAe]; exact Or.inr h
  have hS : va_S A s.heap s.heap [] := va_S.rf
  have hl := lv_entry ([.ref h0, .int what]) (n := 7) (Nat.le_of_ble_eq_true rfl)
  rw [lg_entry_eq]
  generalize (lg_sl ([.ref h0, .int what]) ++ List.replicate (7 - (lg_sl ([.ref h0, .int what])).length) Slot.unset).toArray = ls at hl ⊢
  have hl : lv_has ls 7 [(0, .ref h0), (1, .int what)] := hl
  refine lv_iload_n hx hb dX11_swap_0 rfl (lv_at hl 1 rfl) ?_
  refine lv_i2l (v := what.toInt64) hx hb dX11_swap_1 rfl ?_
  refine lv_lconst (v := 0) hx hb dX11_swap_2 (by decide) ?_
  refine lv_ldc2 (v := 2) hx hb hown (hg _ wt_1056) dX11_swap_3 ?_
  have hPc := hP.sub (ws' := []) [] rfl
  refine va_calli (va_runS (As := [.long what.toInt64, .long 0, .long 2]) (rest := []) ⟨hx, hb, hml, hown, hg⟩ (c_X11_in l dC dI G _ what.toInt64 0 2) (kwS hg mfX11_in wt_992 ⟨Nat.le_of_ble_eq_true rfl, Nat.le_of_ble_eq_true rfl⟩) (preSR hK hPc) rfl rfl hl.1 rfl (lv_room (Nat.le_of_ble_eq_true rfl)) dX11_swap_6 ⟨Nat.le_of_ble_eq_true rfl, Nat.le_of_ble_eq_true rfl⟩) hS (fun q h1 h2 => absurd h2 (Nat.not_le.mpr h1)) (fun q h => hA q (Nat.le_trans hS.1 h)) (fun r1 ur1 t H1 locs ht hvm w2 hB hz1 hk1 hS => ?_)
  have hP := keepR hP hk1
  obtain ⟨w2, w2x⟩ := w2
  try simp only [l_ii, show (0 : Int64).toInt = 0 from by decide, show (2 : Int64).toInt = 2 from by decide] at w2
  subst w2
  refine lv_if_ne (tgt := 16) hx hb dX11_swap_9 rfl (fun c3 => ?_) (fun c3 => ?_)
  · skip
    have b4 := if10_p c3
    refine lv_aload_n hx hb dX11_swap_16 rfl (lv_at hl 0 rfl) ?_
    refine lv_aload_n hx hb dX11_swap_17 rfl (lv_at hl 0 rfl) ?_
    refine va_get (D := (dC, dI)) (ci := 11) (v := .int (nI N)) (C := RX11) (T := TX11) (N := 35) hx hb hg inG11 hown hK.1 hP 0 rfl rfl 1 (Nat.le_of_ble_eq_true rfl) (hg _ wt_879) (fun _ h9 => h9) rfl dX11_swap_18 ?_
    refine lv_iconst (v := 0) hx hb dX11_swap_21 rfl ?_
    refine lv_bipush (v := (-4)) hx hb dX11_swap_22 rfl ?_
    obtain ⟨hPc, hDc, hFc⟩ := va_sub3 (ws' := [(h0, .inr (11, [.ref st, .int (nI N), .int (nI B), .ref rp, .int vrs, .int vrb, .int vhs, .int vca, .int vxs, .int vxb, .ref tp, .int (nI T), .int vfa, .int vbr, .int vba, .int vsp, .int vhe, .int vtk, .int vva, .ref cu, .ref lt, .ref od, .ref th, .ref be, .ref ln, .int (nI S), .ref ma, .int (nI M), .ref ah, .ref bh, .ref ik, .ref la, .ref lg, .ref ce, .int vto])), (st, .inl (G 0, 196, .inl fst)), (od, .inl (G 1, 10, .inr (.inl fod))), (th, .inl (G 1, 10, .inr (.inl fth)))]) hP hD hS hA [0, 1, 2, 3] (by decide +kernel) rfl
    refine va_callv (va_runV (As := [.int (nI N), .int 0, .int (-4)]) (rest := []) ⟨hx, hb, hml, hown, hg⟩ (c_X11_layOdds l dC dI G _ h0 N st N B rp tp T cu lt od th be ln S ma M ah bh ik la lg ce 0 (-4) vrs vrb vhs vca vxs vxb vfa vbr vba vsp vhe vtk vva vto fst fod fth hN hB_ hT_ hS0 hM_ hst hN) (kwV hg mfX11_layOdds wt_1119 ⟨Nat.le_of_ble_eq_true rfl, Nat.le_of_ble_eq_true rfl⟩) (preVW hK hPc hDc (ci := 11) (r := (RX11, TX11, 35)) rfl rfl) rfl rfl hl.1 rfl (lv_room (Nat.le_of_ble_eq_true rfl)) dX11_swap_24 ⟨Nat.le_of_ble_eq_true rfl, Nat.le_of_ble_eq_true rfl⟩) hS (fun q _ h => hFc q h) hFc (fun ur5 t H1 locs ht hvm w6 hB hz1 hk1 hS => ?_)
    obtain ⟨u7, u8⟩ := ur5
    obtain ⟨hP1, hD1⟩ := hB
    rw [ht] at hP1
    obtain ⟨hP, hD⟩ := va_join (wr := []) (w1 := [(h0, .inr (11, [.ref st, .int (nI N), .int (nI B), .ref rp, .int vrs, .int vrb, .int vhs, .int vca, .int vxs, .int vxb, .ref tp, .int (nI T), .int vfa, .int vbr, .int vba, .int vsp, .int vhe, .int vtk, .int vva, .ref cu, .ref lt, .ref od, .ref th, .ref be, .ref ln, .int (nI S), .ref ma, .int (nI M), .ref ah, .ref bh, .ref ik, .ref la, .ref lg, .ref ce, .int vto])), (st, .inl (G 0, 196, .inl fst)), (od, .inl (G 1, 10, .inr (.inl u7))), (th, .inl (G 1, 10, .inr (.inl u8)))]) hP hD [0, 1, 2, 3] [] rfl rfl (by decide +kernel) (by decide +kernel) hk1 hFc hP1 hD1
    generalize H1 = H at hP hS ⊢
    refine lv_aload_n hx hb dX11_swap_27 rfl (lv_at hl 0 rfl) ?_
    refine va_get (D := (dC, dI)) (ci := 11) (v := .ref od) (C := RX11) (T := TX11) (N := 35) hx hb hg inG11 hown hK.1 hP 0 rfl rfl 21 (Nat.le_of_ble_eq_true rfl) (hg _ wt_899) (fun _ h9 => h9) rfl dX11_swap_28 ?_
    refine lv_iconst (v := 0) hx hb dX11_swap_31 rfl ?_
    refine va_lald hx hb hK.1 hP 2 1 rfl rfl (vp_in_iff.mpr ⟨by decide, by decide⟩) dX11_swap_32 ?_
    refine lv_cgl (y := u7 0) (by rfl) ?_
    refine lv_lstore_n (lv' := [(2, .long (u7 0)), (0, .ref h0), (1, .int what)]) hx hb dX11_swap_33 rfl hl (by decide) rfl (fun ls hl => ?_)
    refine lv_bipush (v := (-4)) hx hb dX11_swap_34 rfl ?_
    refine lv_istore (lv' := [(4, .int (-4)), (2, .long (u7 0)), (0, .ref h0), (1, .int what)]) hx hb dX11_swap_36 hl (by decide) rfl (fun ls hl => ?_)
    refine lv_iconst (v := 0) hx hb dX11_swap_38 rfl ?_
    refine lv_istore (lv' := [(5, .int 0), (4, .int (-4)), (2, .long (u7 0)), (0, .ref h0), (1, .int what)]) hx hb dX11_swap_39 hl (by decide) rfl (fun ls hl => ?_)
    have loop41_15 : ∀ (nf j9 : Nat), N + 1 ≤ j9 + nf → j9 ≤ N → ∀ (y10 : Int32) (y11 : Int64) (g12 : Nat → Int32) (g13 : Nat → Int64) (g14 : Nat → Int64) (H : Heap) (locs : List Loc), (OKS g12 ∧ g12 = fst) → va_P (dC, dI) vwCl [(h0, .inr (11, [.ref st, .int (nI N), .int (nI B), .ref rp, .int vrs, .int vrb, .int vhs, .int vca, .int vxs, .int vxb, .ref tp, .int (nI T), .int vfa, .int vbr, .int vba, .int vsp, .int vhe, .int vtk, .int vva, .ref cu, .ref lt, .ref od, .ref th, .ref be, .ref ln, .int (nI S), .ref ma, .int (nI M), .ref ah, .ref bh, .ref ik, .ref la, .ref lg, .ref ce, .int vto])), (st, .inl (G 0, 196, .inl g12)), (od, .inl (G 1, 10, .inr (.inl g13))), (th, .inl (G 1, 10, .inr (.inl g14)))] H → va_D A [(h0, .inr (11, [.ref st, .int (nI N), .int (nI B), .ref rp, .int vrs, .int vrb, .int vhs, .int vca, .int vxs, .int vxb, .ref tp, .int (nI T), .int vfa, .int vbr, .int vba, .int vsp, .int vhe, .int vtk, .int vva, .ref cu, .ref lt, .ref od, .ref th, .ref be, .ref ln, .int (nI S), .ref ma, .int (nI M), .ref ah, .ref bh, .ref ik, .ref la, .ref lg, .ref ce, .int vto])), (st, .inl (G 0, 196, .inl g12)), (od, .inl (G 1, 10, .inr (.inl g13))), (th, .inl (G 1, 10, .inr (.inl g14)))] → va_S A s.heap H locs → ∀ (ls : Array Slot), lv_has ls 7 [(5, .int (nI j9)), (4, .int y10), (2, .long y11), (0, .ref h0), (1, .int what)] → W p l e (headSpec (Cond.code yX11_swap cX11_swap 7 (some .long) :: GT) ({ frames := 4, cells := 0, slots := 0, locals := 99 } : Room)).room s m ([.ref h0, .int what] : List Value).toArray below meth c H locs 0 0 (MQ below (va_Ql (fun (r : Int64) (u : (Nat → Int32) × (Nat → Int64) × (Nat → Int64)) => match u with | (ost, ood, oth) => (True) ∧ OKS ost ∧ ost = fst) (fun (u : (Nat → Int32) × (Nat → Int64) × (Nat → Int64)) (t : State) => match u with | (ost, ood, oth) => va_P (dC, dI) vwCl [(h0, .inr (11, [.ref st, .int (nI N), .int (nI B), .ref rp, .int vrs, .int vrb, .int vhs, .int vca, .int vxs, .int vxb, .ref tp, .int (nI T), .int vfa, .int vbr, .int vba, .int vsp, .int vhe, .int vtk, .int vva, .ref cu, .ref lt, .ref od, .ref th, .ref be, .ref ln, .int (nI S), .ref ma, .int (nI M), .ref ah, .ref bh, .ref ik, .ref la, .ref lg, .ref ce, .int vto])), (st, .inl (G 0, 196, .inl ost)), (od, .inl (G 1, 10, .inr (.inl ood))), (th, .inl (G 1, 10, .inr (.inl oth)))] t.heap ∧ va_D A [(h0, .inr (11, [.ref st, .int (nI N), .int (nI B), .ref rp, .int vrs, .int vrb, .int vhs, .int vca, .int vxs, .int vxb, .ref tp, .int (nI T), .int vfa, .int vbr, .int vba, .int vsp, .int vhe, .int vtk, .int vva, .ref cu, .ref lt, .ref od, .ref th, .ref be, .ref ln, .int (nI S), .ref ma, .int (nI M), .ref ah, .ref bh, .ref ik, .ref la, .ref lg, .ref ce, .int vto])), (st, .inl (G 0, 196, .inl ost)), (od, .inl (G 1, 10, .inr (.inl ood))), (th, .inl (G 1, 10, .inr (.inl oth)))]) A) ([.ref h0, .int what] : List Value).toArray s 0 0 A) (F0 m 41 ls []) := by
      intro nf
      induction nf with
      | zero => intro j9 h1 h2; exact absurd h1 (by omega)
      | succ nf ih41_15 =>
        intro j9 hn16 hj17 y10 y11 g12 g13 g14 H locs hinv hP hD hS ls hl
        refine lv_iload hx hb dX11_swap_41 (lv_at hl 0 rfl) ?_
        refine lv_aload_n hx hb dX11_swap_43 rfl (lv_at hl 3 rfl) ?_
        refine va_get (D := (dC, dI)) (ci := 11) (v := .int (nI N)) (C := RX11) (T := TX11) (N := 35) hx hb hg inG11 hown hK.1 hP 0 rfl rfl 1 (Nat.le_of_ble_eq_true rfl) (hg _ wt_879) (fun _ h9 => h9) rfl dX11_swap_44 ?_
        refine lv_icmp_ge (tgt := 152) hx hb dX11_swap_47 rfl (fun c18 => ?_) (fun c18 => ?_)
        · skip
          have tn2179_ : nIT j9 := fun _ => nI_toInt (by first | omega | (have t := leI c18; omega))
          have n19 : N ≤ j9 := by have t := leI c18; rw [show (nI (j9)).toInt = ((j9 : Nat) : Int) from tn2179_ ()] at t; rw [show (nI (N)).toInt = ((N : Nat) : Int) from tn2174_ ()] at t; omega
          refine lv_iload hx hb dX11_swap_152 (lv_at hl 1 rfl) ?_
          refine lv_bipush (v := (-4)) hx hb dX11_swap_154 rfl ?_
          have cut182_21 : ∀ (y20 : Int64) (H : Heap) (locs : List Loc), va_P (dC, dI) vwCl [(h0, .inr (11, [.ref st, .int (nI N), .int (nI B), .ref rp, .int vrs, .int vrb, .int vhs, .int vca, .int vxs, .int vxb, .ref tp, .int (nI T), .int vfa, .int vbr, .int vba, .int vsp, .int vhe, .int vtk, .int vva, .ref cu, .ref lt, .ref od, .ref th, .ref be, .ref ln, .int (nI S), .ref ma, .int (nI M), .ref ah, .ref bh, .ref ik, .ref la, .ref lg, .ref ce, .int vto])), (st, .inl (G 0, 196, .inl g12)), (od, .inl (G 1, 10, .inr (.inl g13))), (th, .inl (G 1, 10, .inr (.inl g14)))] H → va_D A [(h0, .inr (11, [.ref st, .int (nI N), .int (nI B), .ref rp, .int vrs, .int vrb, .int vhs, .int vca, .int vxs, .int vxb, .ref tp, .int (nI T), .int vfa, .int vbr, .int vba, .int vsp, .int vhe, .int vtk, .int vva, .ref cu, .ref lt, .ref od, .ref th, .ref be, .ref ln, .int (nI S), .ref ma, .int (nI M), .ref ah, .ref bh, .ref ik, .ref la, .ref lg, .ref ce, .int vto])), (st, .inl (G 0, 196, .inl g12)), (od, .inl (G 1, 10, .inr (.inl g13))), (th, .inl (G 1, 10, .inr (.inl g14)))] → va_S A s.heap H locs → ∀ (ls : Array Slot), lv_has ls 7 [(5, .int (nI j9)), (4, .int y10), (2, .long y11), (0, .ref h0), (1, .int what)] → W p l e (headSpec (Cond.code yX11_swap cX11_swap 7 (some .long) :: GT) ({ frames := 4, cells := 0, slots := 0, locals := 99 } : Room)).room s m ([.ref h0, .int what] : List Value).toArray below meth c H locs 0 0 (MQ below (va_Ql (fun (r : Int64) (u : (Nat → Int32) × (Nat → Int64) × (Nat → Int64)) => match u with | (ost, ood, oth) => (True) ∧ OKS ost ∧ ost = fst) (fun (u : (Nat → Int32) × (Nat → Int64) × (Nat → Int64)) (t : State) => match u with | (ost, ood, oth) => va_P (dC, dI) vwCl [(h0, .inr (11, [.ref st, .int (nI N), .int (nI B), .ref rp, .int vrs, .int vrb, .int vhs, .int vca, .int vxs, .int vxb, .ref tp, .int (nI T), .int vfa, .int vbr, .int vba, .int vsp, .int vhe, .int vtk, .int vva, .ref cu, .ref lt, .ref od, .ref th, .ref be, .ref ln, .int (nI S), .ref ma, .int (nI M), .ref ah, .ref bh, .ref ik, .ref la, .ref lg, .ref ce, .int vto])), (st, .inl (G 0, 196, .inl ost)), (od, .inl (G 1, 10, .inr (.inl ood))), (th, .inl (G 1, 10, .inr (.inl oth)))] t.heap ∧ va_D A [(h0, .inr (11, [.ref st, .int (nI N), .int (nI B), .ref rp, .int vrs, .int vrb, .int vhs, .int vca, .int vxs, .int vxb, .ref tp, .int (nI T), .int vfa, .int vbr, .int vba, .int vsp, .int vhe, .int vtk, .int vva, .ref cu, .ref lt, .ref od, .ref th, .ref be, .ref ln, .int (nI S), .ref ma, .int (nI M), .ref ah, .ref bh, .ref ik, .ref la, .ref lg, .ref ce, .int vto])), (st, .inl (G 0, 196, .inl ost)), (od, .inl (G 1, 10, .inr (.inl ood))), (th, .inl (G 1, 10, .inr (.inl oth)))]) A) ([.ref h0, .int what] : List Value).toArray s 0 0 A) (F0 m 182 ls [.long y20]) := by
            intro y20 H locs hP hD hS ls hl
            have hpost : True := by
              trivial
            obtain ⟨hP9, hD9⟩ := va_sub2 (ws' := [(h0, .inr (11, [.ref st, .int (nI N), .int (nI B), .ref rp, .int vrs, .int vrb, .int vhs, .int vca, .int vxs, .int vxb, .ref tp, .int (nI T), .int vfa, .int vbr, .int vba, .int vsp, .int vhe, .int vtk, .int vva, .ref cu, .ref lt, .ref od, .ref th, .ref be, .ref ln, .int (nI S), .ref ma, .int (nI M), .ref ah, .ref bh, .ref ik, .ref la, .ref lg, .ref ce, .int vto])), (st, .inl (G 0, 196, .inl g12)), (od, .inl (G 1, 10, .inr (.inl g13))), (th, .inl (G 1, 10, .inr (.inl g14)))]) hP hD [0, 1, 2, 3] (by decide +kernel) rfl
            refine W.widen (k := 0) (n := 0) (Nat.le_of_ble_eq_true rfl) (Nat.le_of_ble_eq_true rfl) ?_
            exact W.lret (v := y20) hx hb hr (fun t ht hW => ⟨⟨y20, (g12, g13, g14), rfl, ⟨hpost, hinv⟩, ⟨by rw [ht]; exact hP9, hD9⟩⟩, hS.F ht⟩) hS.2.2 dX11_swap_182
          have cut164_22 : ∀ (H : Heap) (locs : List Loc), va_P (dC, dI) vwCl [(h0, .inr (11, [.ref st, .int (nI N), .int (nI B), .ref rp, .int vrs, .int vrb, .int vhs, .int vca, .int vxs, .int vxb, .ref tp, .int (nI T), .int vfa, .int vbr, .int vba, .int vsp, .int vhe, .int vtk, .int vva, .ref cu, .ref lt, .ref od, .ref th, .ref be, .ref ln, .int (nI S), .ref ma, .int (nI M), .ref ah, .ref bh, .ref ik, .ref la, .ref lg, .ref ce, .int vto])), (st, .inl (G 0, 196, .inl g12)), (od, .inl (G 1, 10, .inr (.inl g13))), (th, .inl (G 1, 10, .inr (.inl g14)))] H → va_D A [(h0, .inr (11, [.ref st, .int (nI N), .int (nI B), .ref rp, .int vrs, .int vrb, .int vhs, .int vca, .int vxs, .int vxb, .ref tp, .int (nI T), .int vfa, .int vbr, .int vba, .int vsp, .int vhe, .int vtk, .int vva, .ref cu, .ref lt, .ref od, .ref th, .ref be, .ref ln, .int (nI S), .ref ma, .int (nI M), .ref ah, .ref bh, .ref ik, .ref la, .ref lg, .ref ce, .int vto])), (st, .inl (G 0, 196, .inl g12)), (od, .inl (G 1, 10, .inr (.inl g13))), (th, .inl (G 1, 10, .inr (.inl g14)))] → va_S A s.heap H locs → ∀ (ls : Array Slot), lv_has ls 7 [(5, .int (nI j9)), (4, .int y10), (2, .long y11), (0, .ref h0), (1, .int what)] → W p l e (headSpec (Cond.code yX11_swap cX11_swap 7 (some .long) :: GT) ({ frames := 4, cells := 0, slots := 0, locals := 99 } : Room)).room s m ([.ref h0, .int what] : List Value).toArray below meth c H locs 0 0 (MQ below (va_Ql (fun (r : Int64) (u : (Nat → Int32) × (Nat → Int64) × (Nat → Int64)) => match u with | (ost, ood, oth) => (True) ∧ OKS ost ∧ ost = fst) (fun (u : (Nat → Int32) × (Nat → Int64) × (Nat → Int64)) (t : State) => match u with | (ost, ood, oth) => va_P (dC, dI) vwCl [(h0, .inr (11, [.ref st, .int (nI N), .int (nI B), .ref rp, .int vrs, .int vrb, .int vhs, .int vca, .int vxs, .int vxb, .ref tp, .int (nI T), .int vfa, .int vbr, .int vba, .int vsp, .int vhe, .int vtk, .int vva, .ref cu, .ref lt, .ref od, .ref th, .ref be, .ref ln, .int (nI S), .ref ma, .int (nI M), .ref ah, .ref bh, .ref ik, .ref la, .ref lg, .ref ce, .int vto])), (st, .inl (G 0, 196, .inl ost)), (od, .inl (G 1, 10, .inr (.inl ood))), (th, .inl (G 1, 10, .inr (.inl oth)))] t.heap ∧ va_D A [(h0, .inr (11, [.ref st, .int (nI N), .int (nI B), .ref rp, .int vrs, .int vrb, .int vhs, .int vca, .int vxs, .int vxb, .ref tp, .int (nI T), .int vfa, .int vbr, .int vba, .int vsp, .int vhe, .int vtk, .int vva, .ref cu, .ref lt, .ref od, .ref th, .ref be, .ref ln, .int (nI S), .ref ma, .int (nI M), .ref ah, .ref bh, .ref ik, .ref la, .ref lg, .ref ce, .int vto])), (st, .inl (G 0, 196, .inl ost)), (od, .inl (G 1, 10, .inr (.inl ood))), (th, .inl (G 1, 10, .inr (.inl oth)))]) A) ([.ref h0, .int what] : List Value).toArray s 0 0 A) (F0 m 164 ls []) := by
            intro  H locs hP hD hS ls hl
            refine lv_iload hx hb dX11_swap_164 (lv_at hl 1 rfl) ?_
            refine lv_i2l (v := y10.toInt64) hx hb dX11_swap_166 rfl ?_
            refine lv_goto (tgt := 182) hx hb dX11_swap_167 rfl ?_
            exact cut182_21 y10.toInt64 _ _ hP hD hS ls (lv_sub hl [0, 1, 2, 3, 4] rfl)
          refine lv_icmp_eq (tgt := 164) hx hb dX11_swap_156 rfl (fun c23 => ?_) (fun c23 => ?_)
          · skip
            exact cut164_22  _ _ hP hD hS ls (lv_sub hl [0, 1, 2, 3, 4] rfl)
          · skip
            refine lv_iload_n hx hb dX11_swap_159 rfl (lv_at hl 4 rfl) ?_
            refine lv_iconst (v := 2) hx hb dX11_swap_160 rfl ?_
            refine lv_icmp_ne (tgt := 170) hx hb dX11_swap_161 rfl (fun c24 => ?_) (fun c24 => ?_)
            · skip
              refine lv_lload_n hx hb dX11_swap_170 rfl (lv_at hl 2 rfl) ?_
              refine lv_aload_n hx hb dX11_swap_171 rfl (lv_at hl 3 rfl) ?_
              refine va_get (D := (dC, dI)) (ci := 11) (v := .int (nI N)) (C := RX11) (T := TX11) (N := 35) hx hb hg inG11 hown hK.1 hP 0 rfl rfl 1 (Nat.le_of_ble_eq_true rfl) (hg _ wt_879) (fun _ h9 => h9) rfl dX11_swap_172 ?_
              have hPc := hP.sub (ws' := []) [] rfl
              refine va_calll (va_runS (As := [.int (nI N)]) (rest := [.long y11]) ⟨hx, hb, hml, hown, hg⟩ (c_X11_power l dC dI G _ N hN) (kwS hg mfX11_power wt_1131 ⟨Nat.le_of_ble_eq_true rfl, Nat.le_of_ble_eq_true rfl⟩) (preSR hK hPc) rfl rfl hl.1 rfl (lv_room (Nat.le_of_ble_eq_true rfl)) dX11_swap_175 ⟨Nat.le_of_ble_eq_true rfl, Nat.le_of_ble_eq_true rfl⟩) hS (fun q h1 h2 => absurd h2 (Nat.not_le.mpr h1)) (fun q h => hA q (Nat.le_trans hS.1 h)) (fun r25 ur25 t H1 locs ht hvm w26 hB hz1 hk1 hS => ?_)
              have hP := keepR hP hk1
              obtain ⟨w26, w26x⟩ := w26
              subst w26
              refine lv_iload_n hx hb dX11_swap_178 rfl (lv_at hl 4 rfl) ?_
              have hPc := hP.sub (ws' := []) [] rfl
              refine va_calll (va_runS (As := [.long y11, .long (powF N), .int what]) (rest := []) ⟨hx, hb, hml, hown, hg⟩ (c_X11_lowest l dC dI G _ what y11 (powF N) (powF_ne (by have t_b4 := b4; have t_hj17 := hj17; have t_n19 := n19; have t_c23 := neI c23; have t_c24 := neI c24; have tqz_ := qz10_; have tnb_ := nib6 tn2174_ tn2175_ tn2176_ tn2177_ tn2178_ tn2179_; omega))) (kwS hg mfX11_lowest wt_1134 ⟨Nat.le_of_ble_eq_true rfl, Nat.le_of_ble_eq_true rfl⟩) (preSR hK hPc) rfl rfl hl.1 rfl (lv_room (Nat.le_of_ble_eq_true rfl)) dX11_swap_179 ⟨Nat.le_of_ble_eq_true rfl, Nat.le_of_ble_eq_true rfl⟩) hS (fun q h1 h2 => absurd h2 (Nat.not_le.mpr h1)) (fun q h => hA q (Nat.le_trans hS.1 h)) (fun r27 ur27 t H1 locs ht hvm w28 hB hz1 hk1 hS => ?_)
              have hP := keepR hP hk1
              obtain ⟨w28, w28x⟩ := w28
              exact cut182_21 r27 _ _ hP hD hS ls (lv_sub hl [0, 1, 2, 3, 4] rfl)
            · skip
              exact cut164_22  _ _ hP hD hS ls (lv_sub hl [0, 1, 2, 3, 4] rfl)
        · skip
          have tn2180_ : nIT j9 := fun _ => nI_toInt (by first | omega | (have t := nleI c18; omega))
          have n29 : j9 < N := by have t := nleI c18; rw [show (nI (j9)).toInt = ((j9 : Nat) : Int) from tn2180_ ()] at t; rw [show (nI (N)).toInt = ((N : Nat) : Int) from tn2174_ ()] at t; omega
          refine lv_iload hx hb dX11_swap_50 (lv_at hl 0 rfl) ?_
          refine lv_iconst (v := 1) hx hb dX11_swap_52 rfl ?_
          refine lv_iadd hx hb dX11_swap_53 ?_
          refine lv_cg (y := nI (j9 + 1)) (by rw [show (1 : Int32) = nI 1 from rfl]; exact nI_add _ _) ?_
          refine lv_istore (lv' := [(6, .int (nI (j9 + 1))), (5, .int (nI j9)), (4, .int y10), (2, .long y11), (0, .ref h0), (1, .int what)]) hx hb dX11_swap_54 hl (by decide) rfl (fun ls hl => ?_)
          have loop56_36 : ∀ (nf j30 : Nat), N + 1 ≤ j30 + nf → j30 ≤ N → (j9 + 1) ≤ j30 → ∀ (y31 : Int32) (y32 : Int64) (g33 : Nat → Int32) (g34 : Nat → Int64) (g35 : Nat → Int64) (H : Heap) (locs : List Loc), (OKS g33 ∧ g33 = fst) → va_P (dC, dI) vwCl [(h0, .inr (11, [.ref st, .int (nI N), .int (nI B), .ref rp, .int vrs, .int vrb, .int vhs, .int vca, .int vxs, .int vxb, .ref tp, .int (nI T), .int vfa, .int vbr, .int vba, .int vsp, .int vhe, .int vtk, .int vva, .ref cu, .ref lt, .ref od, .ref th, .ref be, .ref ln, .int (nI S), .ref ma, .int (nI M), .ref ah, .ref bh, .ref ik, .ref la, .ref lg, .ref ce, .int vto])), (st, .inl (G 0, 196, .inl g33)), (od, .inl (G 1, 10, .inr (.inl g34))), (th, .inl (G 1, 10, .inr (.inl g35)))] H → va_D A [(h0, .inr (11, [.ref st, .int (nI N), .int (nI B), .ref rp, .int vrs, .int vrb, .int vhs, .int vca, .int vxs, .int vxb, .ref tp, .int (nI T), .int vfa, .int vbr, .int vba, .int vsp, .int vhe, .int vtk, .int vva, .ref cu, .ref lt, .ref od, .ref th, .ref be, .ref ln, .int (nI S), .ref ma, .int (nI M), .ref ah, .ref bh, .ref ik, .ref la, .ref lg, .ref ce, .int vto])), (st, .inl (G 0, 196, .inl g33)), (od, .inl (G 1, 10, .inr (.inl g34))), (th, .inl (G 1, 10, .inr (.inl g35)))] → va_S A s.heap H locs → ∀ (ls : Array Slot), lv_has ls 7 [(6, .int (nI j30)), (5, .int (nI j9)), (4, .int y31), (2, .long y32), (0, .ref h0), (1, .int what)] → W p l e (headSpec (Cond.code yX11_swap cX11_swap 7 (some .long) :: GT) ({ frames := 4, cells := 0, slots := 0, locals := 99 } : Room)).room s m ([.ref h0, .int what] : List Value).toArray below meth c H locs 0 0 (MQ below (va_Ql (fun (r : Int64) (u : (Nat → Int32) × (Nat → Int64) × (Nat → Int64)) => match u with | (ost, ood, oth) => (True) ∧ OKS ost ∧ ost = fst) (fun (u : (Nat → Int32) × (Nat → Int64) × (Nat → Int64)) (t : State) => match u with | (ost, ood, oth) => va_P (dC, dI) vwCl [(h0, .inr (11, [.ref st, .int (nI N), .int (nI B), .ref rp, .int vrs, .int vrb, .int vhs, .int vca, .int vxs, .int vxb, .ref tp, .int (nI T), .int vfa, .int vbr, .int vba, .int vsp, .int vhe, .int vtk, .int vva, .ref cu, .ref lt, .ref od, .ref th, .ref be, .ref ln, .int (nI S), .ref ma, .int (nI M), .ref ah, .ref bh, .ref ik, .ref la, .ref lg, .ref ce, .int vto])), (st, .inl (G 0, 196, .inl ost)), (od, .inl (G 1, 10, .inr (.inl ood))), (th, .inl (G 1, 10, .inr (.inl oth)))] t.heap ∧ va_D A [(h0, .inr (11, [.ref st, .int (nI N), .int (nI B), .ref rp, .int vrs, .int vrb, .int vhs, .int vca, .int vxs, .int vxb, .ref tp, .int (nI T), .int vfa, .int vbr, .int vba, .int vsp, .int vhe, .int vtk, .int vva, .ref cu, .ref lt, .ref od, .ref th, .ref be, .ref ln, .int (nI S), .ref ma, .int (nI M), .ref ah, .ref bh, .ref ik, .ref la, .ref lg, .ref ce, .int vto])), (st, .inl (G 0, 196, .inl ost)), (od, .inl (G 1, 10, .inr (.inl ood))), (th, .inl (G 1, 10, .inr (.inl oth)))]) A) ([.ref h0, .int what] : List Value).toArray s 0 0 A) (F0 m 56 ls []) := by
            intro nf
            induction nf with
            | zero => intro j30 h1 h2; exact absurd h1 (by omega)
            | succ nf ih56_36 =>
              intro j30 hn37 hj38 hlo_j30 y31 y32 g33 g34 g35 H locs hinv hP hD hS ls hl
              refine lv_iload hx hb dX11_swap_56 (lv_at hl 0 rfl) ?_
              refine lv_aload_n hx hb dX11_swap_58 rfl (lv_at hl 4 rfl) ?_
              refine va_get (D := (dC, dI)) (ci := 11) (v := .int (nI N)) (C := RX11) (T := TX11) (N := 35) hx hb hg inG11 hown hK.1 hP 0 rfl rfl 1 (Nat.le_of_ble_eq_true rfl) (hg _ wt_879) (fun _ h9 => h9) rfl dX11_swap_59 ?_
              refine lv_icmp_ge (tgt := 146) hx hb dX11_swap_62 rfl (fun c39 => ?_) (fun c39 => ?_)
              · skip
                have tn2181_ : nIT j30 := fun _ => nI_toInt (by first | omega | (have t := leI c39; omega))
                have n40 : N ≤ j30 := by have t := leI c39; rw [show (nI (j30)).toInt = ((j30 : Nat) : Int) from tn2181_ ()] at t; rw [show (nI (N)).toInt = ((N : Nat) : Int) from tn2174_ ()] at t; omega
                refine lv_iinc (v := nI (j9 + 1)) (lv' := [(5, .int (nI (j9 + 1))), (6, .int (nI j30)), (4, .int y31), (2, .long y32), (0, .ref h0), (1, .int what)]) hx hb dX11_swap_146 hl (k := 1) rfl (by rw [show Int32.ofInt 1 = nI 1 from by decide]; exact nI_add _ _) (by decide) rfl (fun ls hl => ?_)
                refine lv_goto (tgt := 41) hx hb dX11_swap_149 rfl ?_
                exact ih41_15 (j9 + 1) (by omega) (by omega) y31 y32 g33 g34 g35 _ _ hinv hP hD hS ls (lv_sub hl [0, 2, 3, 4, 5] rfl)
              · skip
                have tn2182_ : nIT j30 := fun _ => nI_toInt (by first | omega | (have t := nleI c39; omega))
                have n41 : j30 < N := by have t := nleI c39; rw [show (nI (j30)).toInt = ((j30 : Nat) : Int) from tn2182_ ()] at t; rw [show (nI (N)).toInt = ((N : Nat) : Int) from tn2174_ ()] at t; omega
                refine lv_aload_n hx hb dX11_swap_65 rfl (lv_at hl 4 rfl) ?_
                refine lv_iload hx hb dX11_swap_66 (lv_at hl 1 rfl) ?_
                refine lv_iload hx hb dX11_swap_68 (lv_at hl 0 rfl) ?_
                obtain ⟨hPc, hDc, hFc⟩ := va_sub3 (ws' := [(h0, .inr (11, [.ref st, .int (nI N), .int (nI B), .ref rp, .int vrs, .int vrb, .int vhs, .int vca, .int vxs, .int vxb, .ref tp, .int (nI T), .int vfa, .int vbr, .int vba, .int vsp, .int vhe, .int vtk, .int vva, .ref cu, .ref lt, .ref od, .ref th, .ref be, .ref ln, .int (nI S), .ref ma, .int (nI M), .ref ah, .ref bh, .ref ik, .ref la, .ref lg, .ref ce, .int vto])), (st, .inl (G 0, 196, .inl g33))]) hP hD hS hA [0, 1] (by decide +kernel) rfl
                refine va_callv (va_runV (As := [.int (nI j9), .int (nI j30)]) (rest := []) ⟨hx, hb, hml, hown, hg⟩ (c_X11_changesO l dC dI G _ h0 j9 j30 st N B rp tp T cu lt od th be ln S ma M ah bh ik la lg ce vrs vrb vhs vca vxs vxb vfa vbr vba vsp vhe vtk vva vto g33 hN hB_ hT_ hS0 hM_ hinv.1 (by first | omega | (have t_b4 := b4; have t_hj17 := hj17; have t_n29 := n29; have t_hj38 := hj38; have t_hlo_j30 := hlo_j30; have t_n41 := n41; have tnb_ := nib7 tn2174_ tn2175_ tn2176_ tn2177_ tn2178_ tn2180_ tn2182_; omega)) (by first | omega | (have t_b4 := b4; have t_hj17 := hj17; have t_n29 := n29; have t_hj38 := hj38; have t_hlo_j30 := hlo_j30; have t_n41 := n41; have tnb_ := nib7 tn2174_ tn2175_ tn2176_ tn2177_ tn2178_ tn2180_ tn2182_; omega))) (kwV hg mfX11_changes wt_1187 ⟨Nat.le_of_ble_eq_true rfl, Nat.le_of_ble_eq_true rfl⟩) (preVW hK hPc hDc (ci := 11) (r := (RX11, TX11, 35)) rfl rfl) rfl rfl hl.1 rfl (lv_room (Nat.le_of_ble_eq_true rfl)) dX11_swap_70 ⟨Nat.le_of_ble_eq_true rfl, Nat.le_of_ble_eq_true rfl⟩) hS (fun q _ h => hFc q h) hFc (fun ur42 t H1 locs ht hvm w43 hB hz1 hk1 hS => ?_)
                obtain ⟨u44, rfl⟩ : ∃ z, z = ur42 := ⟨_, rfl⟩
                obtain ⟨hP1, hD1⟩ := hB
                rw [ht] at hP1
                obtain ⟨hP, hD⟩ := va_join (wr := [(od, .inl (G 1, 10, .inr (.inl g34))), (th, .inl (G 1, 10, .inr (.inl g35)))]) (w1 := [(h0, .inr (11, [.ref st, .int (nI N), .int (nI B), .ref rp, .int vrs, .int vrb, .int vhs, .int vca, .int vxs, .int vxb, .ref tp, .int (nI T), .int vfa, .int vbr, .int vba, .int vsp, .int vhe, .int vtk, .int vva, .ref cu, .ref lt, .ref od, .ref th, .ref be, .ref ln, .int (nI S), .ref ma, .int (nI M), .ref ah, .ref bh, .ref ik, .ref la, .ref lg, .ref ce, .int vto])), (st, .inl (G 0, 196, .inl u44))]) hP hD [0, 1] [2, 3] rfl rfl (by decide +kernel) (by decide +kernel) hk1 hFc hP1 hD1
                have w43 : OKS u44 ∧ u44 = xch g33 j9 j30 := w43
                generalize H1 = H at hP hS ⊢
                refine lv_aload_n hx hb dX11_swap_73 rfl (lv_at hl 4 rfl) ?_
                refine lv_aload_n hx hb dX11_swap_74 rfl (lv_at hl 4 rfl) ?_
                refine va_get (D := (dC, dI)) (ci := 11) (v := .int (nI N)) (C := RX11) (T := TX11) (N := 35) hx hb hg inG11 hown hK.1 hP 2 rfl rfl 1 (Nat.le_of_ble_eq_true rfl) (hg _ wt_879) (fun _ h9 => h9) rfl dX11_swap_75 ?_
                refine lv_iconst (v := 0) hx hb dX11_swap_78 rfl ?_
                refine lv_bipush (v := (-4)) hx hb dX11_swap_79 rfl ?_
                obtain ⟨hPc, hDc, hFc⟩ := va_sub3 (ws' := [(h0, .inr (11, [.ref st, .int (nI N), .int (nI B), .ref rp, .int vrs, .int vrb, .int vhs, .int vca, .int vxs, .int vxb, .ref tp, .int (nI T), .int vfa, .int vbr, .int vba, .int vsp, .int vhe, .int vtk, .int vva, .ref cu, .ref lt, .ref od, .ref th, .ref be, .ref ln, .int (nI S), .ref ma, .int (nI M), .ref ah, .ref bh, .ref ik, .ref la, .ref lg, .ref ce, .int vto])), (st, .inl (G 0, 196, .inl u44)), (od, .inl (G 1, 10, .inr (.inl g34))), (th, .inl (G 1, 10, .inr (.inl g35)))]) hP hD hS hA [2, 3, 0, 1] (by decide +kernel) rfl
                refine va_callv (va_runV (As := [.int (nI N), .int 0, .int (-4)]) (rest := []) ⟨hx, hb, hml, hown, hg⟩ (c_X11_layOdds l dC dI G _ h0 N st N B rp tp T cu lt od th be ln S ma M ah bh ik la lg ce 0 (-4) vrs vrb vhs vca vxs vxb vfa vbr vba vsp vhe vtk vva vto u44 g34 g35 hN hB_ hT_ hS0 hM_ w43.1 hN) (kwV hg mfX11_layOdds wt_1119 ⟨Nat.le_of_ble_eq_true rfl, Nat.le_of_ble_eq_true rfl⟩) (preVW hK hPc hDc (ci := 11) (r := (RX11, TX11, 35)) rfl rfl) rfl rfl hl.1 rfl (lv_room (Nat.le_of_ble_eq_true rfl)) dX11_swap_81 ⟨Nat.le_of_ble_eq_true rfl, Nat.le_of_ble_eq_true rfl⟩) hS (fun q _ h => hFc q h) hFc (fun ur45 t H1 locs ht hvm w46 hB hz1 hk1 hS => ?_)
                obtain ⟨u47, u48⟩ := ur45
                obtain ⟨hP1, hD1⟩ := hB
                rw [ht] at hP1
                obtain ⟨hP, hD⟩ := va_join (wr := []) (w1 := [(h0, .inr (11, [.ref st, .int (nI N), .int (nI B), .ref rp, .int vrs, .int vrb, .int vhs, .int vca, .int vxs, .int vxb, .ref tp, .int (nI T), .int vfa, .int vbr, .int vba, .int vsp, .int vhe, .int vtk, .int vva, .ref cu, .ref lt, .ref od, .ref th, .ref be, .ref ln, .int (nI S), .ref ma, .int (nI M), .ref ah, .ref bh, .ref ik, .ref la, .ref lg, .ref ce, .int vto])), (st, .inl (G 0, 196, .inl u44)), (od, .inl (G 1, 10, .inr (.inl u47))), (th, .inl (G 1, 10, .inr (.inl u48)))]) hP hD [2, 3, 0, 1] [] rfl rfl (by decide +kernel) (by decide +kernel) hk1 hFc hP1 hD1
                generalize H1 = H at hP hS ⊢
                refine lv_aload_n hx hb dX11_swap_84 rfl (lv_at hl 4 rfl) ?_
                refine lv_iload hx hb dX11_swap_85 (lv_at hl 1 rfl) ?_
                refine lv_iload hx hb dX11_swap_87 (lv_at hl 0 rfl) ?_
                obtain ⟨hPc, hDc, hFc⟩ := va_sub3 (ws' := [(h0, .inr (11, [.ref st, .int (nI N), .int (nI B), .ref rp, .int vrs, .int vrb, .int vhs, .int vca, .int vxs, .int vxb, .ref tp, .int (nI T), .int vfa, .int vbr, .int vba, .int vsp, .int vhe, .int vtk, .int vva, .ref cu, .ref lt, .ref od, .ref th, .ref be, .ref ln, .int (nI S), .ref ma, .int (nI M), .ref ah, .ref bh, .ref ik, .ref la, .ref lg, .ref ce, .int vto])), (st, .inl (G 0, 196, .inl u44))]) hP hD hS hA [0, 1] (by decide +kernel) rfl
                refine va_callv (va_runV (As := [.int (nI j9), .int (nI j30)]) (rest := []) ⟨hx, hb, hml, hown, hg⟩ (c_X11_changesO l dC dI G _ h0 j9 j30 st N B rp tp T cu lt od th be ln S ma M ah bh ik la lg ce vrs vrb vhs vca vxs vxb vfa vbr vba vsp vhe vtk vva vto u44 hN hB_ hT_ hS0 hM_ w43.1 (by first | omega | (have t_b4 := b4; have t_hj17 := hj17; have t_n29 := n29; have t_hj38 := hj38; have t_hlo_j30 := hlo_j30; have t_n41 := n41; have tnb_ := nib7 tn2174_ tn2175_ tn2176_ tn2177_ tn2178_ tn2180_ tn2182_; omega)) (by first | omega | (have t_b4 := b4; have t_hj17 := hj17; have t_n29 := n29; have t_hj38 := hj38; have t_hlo_j30 := hlo_j30; have t_n41 := n41; have tnb_ := nib7 tn2174_ tn2175_ tn2176_ tn2177_ tn2178_ tn2180_ tn2182_; omega))) (kwV hg mfX11_changes wt_1187 ⟨Nat.le_of_ble_eq_true rfl, Nat.le_of_ble_eq_true rfl⟩) (preVW hK hPc hDc (ci := 11) (r := (RX11, TX11, 35)) rfl rfl) rfl rfl hl.1 rfl (lv_room (Nat.le_of_ble_eq_true rfl)) dX11_swap_89 ⟨Nat.le_of_ble_eq_true rfl, Nat.le_of_ble_eq_true rfl⟩) hS (fun q _ h => hFc q h) hFc (fun ur49 t H1 locs ht hvm w50 hB hz1 hk1 hS => ?_)
                obtain ⟨u51, rfl⟩ : ∃ z, z = ur49 := ⟨_, rfl⟩
                obtain ⟨hP1, hD1⟩ := hB
                rw [ht] at hP1
                obtain ⟨hP, hD⟩ := va_join (wr := [(od, .inl (G 1, 10, .inr (.inl u47))), (th, .inl (G 1, 10, .inr (.inl u48)))]) (w1 := [(h0, .inr (11, [.ref st, .int (nI N), .int (nI B), .ref rp, .int vrs, .int vrb, .int vhs, .int vca, .int vxs, .int vxb, .ref tp, .int (nI T), .int vfa, .int vbr, .int vba, .int vsp, .int vhe, .int vtk, .int vva, .ref cu, .ref lt, .ref od, .ref th, .ref be, .ref ln, .int (nI S), .ref ma, .int (nI M), .ref ah, .ref bh, .ref ik, .ref la, .ref lg, .ref ce, .int vto])), (st, .inl (G 0, 196, .inl u51))]) hP hD [0, 1] [2, 3] rfl rfl (by decide +kernel) (by decide +kernel) hk1 hFc hP1 hD1
                have w50 : OKS u51 ∧ u51 = xch u44 j9 j30 := w50
                generalize H1 = H at hP hS ⊢
                have okw50 : OKS u51 ∧ u51 = fst := ⟨w50.1, (by rw [w50.2, w43.2, xch_xch]; exact hinv.2)⟩
                refine lv_aload_n hx hb dX11_swap_92 rfl (lv_at hl 4 rfl) ?_
                refine va_get (D := (dC, dI)) (ci := 11) (v := .ref od) (C := RX11) (T := TX11) (N := 35) hx hb hg inG11 hown hK.1 hP 2 rfl rfl 21 (Nat.le_of_ble_eq_true rfl) (hg _ wt_899) (fun _ h9 => h9) rfl dX11_swap_93 ?_
                refine lv_iconst (v := 0) hx hb dX11_swap_96 rfl ?_
                refine va_lald hx hb hK.1 hP 0 1 rfl rfl (vp_in_iff.mpr ⟨by decide, by decide⟩) dX11_swap_97 ?_
                refine lv_cgl (y := u47 0) (by rfl) ?_
                refine lv_lload_n hx hb dX11_swap_98 rfl (lv_at hl 3 rfl) ?_
                refine W.lcmp hx hb dX11_swap_99 ?_
                have cut116_53 : ∀ (y52 : Int32) (H : Heap) (locs : List Loc), va_P (dC, dI) vwCl [(od, .inl (G 1, 10, .inr (.inl u47))), (th, .inl (G 1, 10, .inr (.inl u48))), (h0, .inr (11, [.ref st, .int (nI N), .int (nI B), .ref rp, .int vrs, .int vrb, .int vhs, .int vca, .int vxs, .int vxb, .ref tp, .int (nI T), .int vfa, .int vbr, .int vba, .int vsp, .int vhe, .int vtk, .int vva, .ref cu, .ref lt, .ref od, .ref th, .ref be, .ref ln, .int (nI S), .ref ma, .int (nI M), .ref ah, .ref bh, .ref ik, .ref la, .ref lg, .ref ce, .int vto])), (st, .inl (G 0, 196, .inl u51))] H → va_D A [(od, .inl (G 1, 10, .inr (.inl u47))), (th, .inl (G 1, 10, .inr (.inl u48))), (h0, .inr (11, [.ref st, .int (nI N), .int (nI B), .ref rp, .int vrs, .int vrb, .int vhs, .int vca, .int vxs, .int vxb, .ref tp, .int (nI T), .int vfa, .int vbr, .int vba, .int vsp, .int vhe, .int vtk, .int vva, .ref cu, .ref lt, .ref od, .ref th, .ref be, .ref ln, .int (nI S), .ref ma, .int (nI M), .ref ah, .ref bh, .ref ik, .ref la, .ref lg, .ref ce, .int vto])), (st, .inl (G 0, 196, .inl u51))] → va_S A s.heap H locs → ∀ (ls : Array Slot), lv_has ls 7 [(6, .int (nI j30)), (5, .int (nI j9)), (4, .int y31), (2, .long y32), (0, .ref h0), (1, .int what)] → W p l e (headSpec (Cond.code yX11_swap cX11_swap 7 (some .long) :: GT) ({ frames := 4, cells := 0, slots := 0, locals := 99 } : Room)).room s m ([.ref h0, .int what] : List Value).toArray below meth c H locs 0 0 (MQ below (va_Ql (fun (r : Int64) (u : (Nat → Int32) × (Nat → Int64) × (Nat → Int64)) => match u with | (ost, ood, oth) => (True) ∧ OKS ost ∧ ost = fst) (fun (u : (Nat → Int32) × (Nat → Int64) × (Nat → Int64)) (t : State) => match u with | (ost, ood, oth) => va_P (dC, dI) vwCl [(h0, .inr (11, [.ref st, .int (nI N), .int (nI B), .ref rp, .int vrs, .int vrb, .int vhs, .int vca, .int vxs, .int vxb, .ref tp, .int (nI T), .int vfa, .int vbr, .int vba, .int vsp, .int vhe, .int vtk, .int vva, .ref cu, .ref lt, .ref od, .ref th, .ref be, .ref ln, .int (nI S), .ref ma, .int (nI M), .ref ah, .ref bh, .ref ik, .ref la, .ref lg, .ref ce, .int vto])), (st, .inl (G 0, 196, .inl ost)), (od, .inl (G 1, 10, .inr (.inl ood))), (th, .inl (G 1, 10, .inr (.inl oth)))] t.heap ∧ va_D A [(h0, .inr (11, [.ref st, .int (nI N), .int (nI B), .ref rp, .int vrs, .int vrb, .int vhs, .int vca, .int vxs, .int vxb, .ref tp, .int (nI T), .int vfa, .int vbr, .int vba, .int vsp, .int vhe, .int vtk, .int vva, .ref cu, .ref lt, .ref od, .ref th, .ref be, .ref ln, .int (nI S), .ref ma, .int (nI M), .ref ah, .ref bh, .ref ik, .ref la, .ref lg, .ref ce, .int vto])), (st, .inl (G 0, 196, .inl ost)), (od, .inl (G 1, 10, .inr (.inl ood))), (th, .inl (G 1, 10, .inr (.inl oth)))]) A) ([.ref h0, .int what] : List Value).toArray s 0 0 A) (F0 m 116 ls [.int y52]) := by
                  intro y52 H locs hP hD hS ls hl
                  refine lv_istore (lv' := [(4, .int y52), (6, .int (nI j30)), (5, .int (nI j9)), (2, .long y32), (0, .ref h0), (1, .int what)]) hx hb dX11_swap_116 hl (by decide) rfl (fun ls hl => ?_)
                  refine lv_aload_n hx hb dX11_swap_118 rfl (lv_at hl 4 rfl) ?_
                  refine va_get (D := (dC, dI)) (ci := 11) (v := .ref od) (C := RX11) (T := TX11) (N := 35) hx hb hg inG11 hown hK.1 hP 2 rfl rfl 21 (Nat.le_of_ble_eq_true rfl) (hg _ wt_899) (fun _ h9 => h9) rfl dX11_swap_119 ?_
                  refine lv_iconst (v := 0) hx hb dX11_swap_122 rfl ?_
                  refine va_lald hx hb hK.1 hP 0 1 rfl rfl (vp_in_iff.mpr ⟨by decide, by decide⟩) dX11_swap_123 ?_
                  refine lv_cgl (y := u47 0) (by rfl) ?_
                  refine lv_lload_n hx hb dX11_swap_124 rfl (lv_at hl 3 rfl) ?_
                  refine W.lcmp hx hb dX11_swap_125 ?_
                  have cut139_55 : ∀ (y54 : Int64) (H : Heap) (locs : List Loc), va_P (dC, dI) vwCl [(od, .inl (G 1, 10, .inr (.inl u47))), (th, .inl (G 1, 10, .inr (.inl u48))), (h0, .inr (11, [.ref st, .int (nI N), .int (nI B), .ref rp, .int vrs, .int vrb, .int vhs, .int vca, .int vxs, .int vxb, .ref tp, .int (nI T), .int vfa, .int vbr, .int vba, .int vsp, .int vhe, .int vtk, .int vva, .ref cu, .ref lt, .ref od, .ref th, .ref be, .ref ln, .int (nI S), .ref ma, .int (nI M), .ref ah, .ref bh, .ref ik, .ref la, .ref lg, .ref ce, .int vto])), (st, .inl (G 0, 196, .inl u51))] H → va_D A [(od, .inl (G 1, 10, .inr (.inl u47))), (th, .inl (G 1, 10, .inr (.inl u48))), (h0, .inr (11, [.ref st, .int (nI N), .int (nI B), .ref rp, .int vrs, .int vrb, .int vhs, .int vca, .int vxs, .int vxb, .ref tp, .int (nI T), .int vfa, .int vbr, .int vba, .int vsp, .int vhe, .int vtk, .int vva, .ref cu, .ref lt, .ref od, .ref th, .ref be, .ref ln, .int (nI S), .ref ma, .int (nI M), .ref ah, .ref bh, .ref ik, .ref la, .ref lg, .ref ce, .int vto])), (st, .inl (G 0, 196, .inl u51))] → va_S A s.heap H locs → ∀ (ls : Array Slot), lv_has ls 7 [(4, .int y52), (6, .int (nI j30)), (5, .int (nI j9)), (2, .long y32), (0, .ref h0), (1, .int what)] → W p l e (headSpec (Cond.code yX11_swap cX11_swap 7 (some .long) :: GT) ({ frames := 4, cells := 0, slots := 0, locals := 99 } : Room)).room s m ([.ref h0, .int what] : List Value).toArray below meth c H locs 0 0 (MQ below (va_Ql (fun (r : Int64) (u : (Nat → Int32) × (Nat → Int64) × (Nat → Int64)) => match u with | (ost, ood, oth) => (True) ∧ OKS ost ∧ ost = fst) (fun (u : (Nat → Int32) × (Nat → Int64) × (Nat → Int64)) (t : State) => match u with | (ost, ood, oth) => va_P (dC, dI) vwCl [(h0, .inr (11, [.ref st, .int (nI N), .int (nI B), .ref rp, .int vrs, .int vrb, .int vhs, .int vca, .int vxs, .int vxb, .ref tp, .int (nI T), .int vfa, .int vbr, .int vba, .int vsp, .int vhe, .int vtk, .int vva, .ref cu, .ref lt, .ref od, .ref th, .ref be, .ref ln, .int (nI S), .ref ma, .int (nI M), .ref ah, .ref bh, .ref ik, .ref la, .ref lg, .ref ce, .int vto])), (st, .inl (G 0, 196, .inl ost)), (od, .inl (G 1, 10, .inr (.inl ood))), (th, .inl (G 1, 10, .inr (.inl oth)))] t.heap ∧ va_D A [(h0, .inr (11, [.ref st, .int (nI N), .int (nI B), .ref rp, .int vrs, .int vrb, .int vhs, .int vca, .int vxs, .int vxb, .ref tp, .int (nI T), .int vfa, .int vbr, .int vba, .int vsp, .int vhe, .int vtk, .int vva, .ref cu, .ref lt, .ref od, .ref th, .ref be, .ref ln, .int (nI S), .ref ma, .int (nI M), .ref ah, .ref bh, .ref ik, .ref la, .ref lg, .ref ce, .int vto])), (st, .inl (G 0, 196, .inl ost)), (od, .inl (G 1, 10, .inr (.inl ood))), (th, .inl (G 1, 10, .inr (.inl oth)))]) A) ([.ref h0, .int what] : List Value).toArray s 0 0 A) (F0 m 139 ls [.long y54]) := by
                    intro y54 H locs hP hD hS ls hl
                    refine lv_lstore_n (lv' := [(2, .long y54), (4, .int y52), (6, .int (nI j30)), (5, .int (nI j9)), (0, .ref h0), (1, .int what)]) hx hb dX11_swap_139 rfl hl (by decide) rfl (fun ls hl => ?_)
                    refine lv_iinc (v := nI (j30 + 1)) (lv' := [(6, .int (nI (j30 + 1))), (2, .long y54), (4, .int y52), (5, .int (nI j9)), (0, .ref h0), (1, .int what)]) hx hb dX11_swap_140 hl (k := 2) rfl (by rw [show Int32.ofInt 1 = nI 1 from by decide]; exact nI_add _ _) (by decide) rfl (fun ls hl => ?_)
                    refine lv_goto (tgt := 56) hx hb dX11_swap_143 rfl ?_
                    exact ih56_36 (j30 + 1) (by omega) (by omega) (by omega) y52 y54 u51 u47 u48 _ _ okw50 (hP.sub [2, 3, 0, 1] rfl) (hD.sub [2, 3, 0, 1] (by decide) rfl) hS ls (lv_sub hl [0, 3, 2, 1, 4, 5] rfl)
                  refine lv_if_ge (tgt := 138) hx hb dX11_swap_126 rfl (fun c56 => ?_) (fun c56 => ?_)
                  · skip
                    refine lv_lload_n hx hb dX11_swap_138 rfl (lv_at hl 3 rfl) ?_
                    exact cut139_55 y32 _ _ hP hD hS ls (lv_sub hl [0, 1, 2, 3, 4, 5] rfl)
                  · skip
                    refine lv_aload_n hx hb dX11_swap_129 rfl (lv_at hl 4 rfl) ?_
                    refine va_get (D := (dC, dI)) (ci := 11) (v := .ref od) (C := RX11) (T := TX11) (N := 35) hx hb hg inG11 hown hK.1 hP 2 rfl rfl 21 (Nat.le_of_ble_eq_true rfl) (hg _ wt_899) (fun _ h9 => h9) rfl dX11_swap_130 ?_
                    refine lv_iconst (v := 0) hx hb dX11_swap_133 rfl ?_
                    refine va_lald hx hb hK.1 hP 0 1 rfl rfl (vp_in_iff.mpr ⟨by decide, by decide⟩) dX11_swap_134 ?_
                    refine lv_cgl (y := u47 0) (by rfl) ?_
                    refine lv_goto (tgt := 139) hx hb dX11_swap_135 rfl ?_
                    exact cut139_55 (u47 0) _ _ hP hD hS ls (lv_sub hl [0, 1, 2, 3, 4, 5] rfl)
                refine lv_if_ge (tgt := 114) hx hb dX11_swap_100 rfl (fun c57 => ?_) (fun c57 => ?_)
                · skip
                  refine lv_iload hx hb dX11_swap_114 (lv_at hl 2 rfl) ?_
                  exact cut116_53 y31 _ _ hP hD hS ls (lv_sub hl [0, 1, 2, 3, 4, 5] rfl)
                · skip
                  refine lv_bipush (v := 10) hx hb dX11_swap_103 rfl ?_
                  refine lv_iload hx hb dX11_swap_105 (lv_at hl 1 rfl) ?_
                  refine lv_imul hx hb dX11_swap_107 ?_
                  refine lv_cg (y := nI (10 * j9)) (by rw [show (10 : Int32) = nI 10 from rfl]; exact pk_mul _ _) ?_
                  refine lv_iload hx hb dX11_swap_108 (lv_at hl 0 rfl) ?_
                  refine lv_iadd hx hb dX11_swap_110 ?_
                  refine lv_cg (y := nI ((10 * j9) + j30)) (by exact nI_add _ _) ?_
                  refine lv_goto (tgt := 116) hx hb dX11_swap_111 rfl ?_
                  exact cut116_53 (nI ((10 * j9) + j30)) _ _ hP hD hS ls (lv_sub hl [0, 1, 2, 3, 4, 5] rfl)
          exact loop56_36 (N + 1) (j9 + 1) (by omega) (by omega) (by omega) y10 y11 g12 g13 g14 _ _ hinv hP hD hS ls (lv_sub hl [0, 1, 2, 3, 4, 5] rfl)
    exact loop41_15 (N + 1) 0 (by omega) (by omega) (-4) (u7 0) fst u7 u8 _ _ ⟨hst, rfl⟩ hP hD hS ls (lv_sub hl [0, 1, 2, 3, 4] rfl)
  · skip
    have b58 := if10_n c3
    refine lv_ldc2 (v := (-1)) hx hb hown (hg _ wt_1118) dX11_swap_12 ?_
    have hpost : True := by
      trivial
    obtain ⟨hP9, hD9⟩ := va_sub2 (ws' := [(h0, .inr (11, [.ref st, .int (nI N), .int (nI B), .ref rp, .int vrs, .int vrb, .int vhs, .int vca, .int vxs, .int vxb, .ref tp, .int (nI T), .int vfa, .int vbr, .int vba, .int vsp, .int vhe, .int vtk, .int vva, .ref cu, .ref lt, .ref od, .ref th, .ref be, .ref ln, .int (nI S), .ref ma, .int (nI M), .ref ah, .ref bh, .ref ik, .ref la, .ref lg, .ref ce, .int vto])), (st, .inl (G 0, 196, .inl fst)), (od, .inl (G 1, 10, .inr (.inl fod))), (th, .inl (G 1, 10, .inr (.inl fth)))]) hP hD [0, 1, 2, 3] (by decide +kernel) rfl
    refine W.widen (k := 0) (n := 0) (Nat.le_of_ble_eq_true rfl) (Nat.le_of_ble_eq_true rfl) ?_
    exact W.lret (v := (-1)) hx hb hr (fun t ht hW => ⟨⟨(-1), (fst, fod, fth), rfl, ⟨hpost, ⟨hst, rfl⟩⟩, ⟨by rw [ht]; exact hP9, hD9⟩⟩, hS.F ht⟩) hS.2.2 dX11_swap_15

def OR (f O : Nat → Int32) : Prop := ∀ i : Nat, i < 10 → O i = f i
def SO (o : Nat) (st O : Nat → Int32) : Prop := ∀ i : Nat, i < 10 → st (o + i) = O i
theorem OR.set {C : Prop} [Decidable C] {j : Nat} {v : Int32} {f O : Nat → Int32} (h : OR f O) : OR (if C then upd f j v else f) (if C then upd O j v else O) := by
  split
  · intro i hi
    show (if i = j then v else O i) = (if i = j then v else f i)
    rw [h i hi]
  · exact h
theorem SO.set {C : Prop} [Decidable C] {o j : Nat} {v : Int32} {st O : Nat → Int32} (h : SO o st O) : SO o (if C then upd st (o + j) v else st) (if C then upd O j v else O) := by
  split
  · intro i hi
    show (if o + i = o + j then v else st (o + i)) = (if i = j then v else O i)
    by_cases e : i = j
    · rw [if_pos e, if_pos (by omega)]
    · rw [if_neg e, if_neg (by omega)]; exact h i hi
  · exact h
theorem SO.oth {C : Prop} [Decidable C] {o j : Nat} {v : Int32} {st O : Nat → Int32} (h : SO o st O) (ho : C → j < o ∨ o + 10 ≤ j) : SO o (if C then upd st j v else st) O := by
  split
  · rename_i c
    intro i hi
    have := ho c
    exact (if_neg (by omega)).trans (h i hi)
  · exact h
theorem rdO_pt {a b o o2 : Nat → Int32} {i : Nat} (h : o i = o2 i) : ∀ n : Nat, rdO a b o n i = rdO a b o2 n i := by
  intro n
  induction n with
  | zero => exact h
  | succ n ih =>
    show (if i = (a n).toNatClampNeg then b n else rdO a b o n i) = (if i = (a n).toNatClampNeg then b n else rdO a b o2 n i)
    rw [ih]
theorem rdF_pt {N B m : Nat} {a b o o2 : Nat → Int32} {i : Nat} (h : o i = o2 i) : rdF N B a b m o i = rdF N B a b m o2 i := by
  unfold rdF
  split
  · exact h
  · exact rdO_pt h m
theorem rdF_cg {N B m : Nat} {a b a2 b2 o : Nat → Int32} (ha : ∀ q : Nat, q < m → a q = a2 q) (hb : ∀ q : Nat, q < m → b q = b2 q) : rdF N B a b m o = rdF N B a2 b2 m o := by
  unfold rdF
  rw [rdI_cg ha hb m 0 (by omega), rdO_cg ha hb m (Nat.le_refl m)]
theorem rdR_cg {N B m : Nat} {a b a2 b2 : Nat → Int32} (ha : ∀ q : Nat, q < m → a q = a2 q) (hb : ∀ q : Nat, q < m → b q = b2 q) : rdR N B a b m = rdR N B a2 b2 m := by
  unfold rdR
  rw [rdI_cg ha hb m 0 (by omega)]
/-- pairs that are taken lie within the size -/
theorem tpK_in {L lane : Int32} {z f : Int} {n q : Nat} (h : q < tpK L lane z f n) : 0 ≤ f + 2 * (q : Int) ∧ f + 2 * (q : Int) + 1 < z := by
  unfold tpK at h
  split at h
  · have go : ∀ (n s : Nat), s ≤ q → q < tpM z f n s → 0 ≤ f + 2 * (q : Int) ∧ f + 2 * (q : Int) + 1 < z := by
      intro n
      induction n with
      | zero => intro s h1 h2; exact absurd (show q < s from h2) (by omega)
      | succ n ih =>
        intro s h1 h2
        have h3 : q < (if 0 ≤ f + 2 * (s : Int) ∧ f + 2 * (s : Int) + 1 < z then tpM z f n (s + 1) else s) := h2
        by_cases c : 0 ≤ f + 2 * (s : Int) ∧ f + 2 * (s : Int) + 1 < z
        · rw [if_pos c] at h3
          by_cases e : s = q
          · rw [← e]; exact c
          · exact ih (s + 1) (by omega) h3
        · rw [if_neg c] at h3; exact absurd h3 (by omega)
    exact go n 0 (Nat.zero_le q) h
  · exact absurd h (Nat.not_lt_zero q)
def CEc (Z : Nat → Int32) (F : Nat → Nat → Int32) (C : Nat → Int32) : Prop := ∀ k i : Nat, k < 4 → (i : Int) < (Z k).toInt → F k i = C (40 * k + i)
def CEr (Z fc C : Nat → Int32) : Prop := ∀ k i : Nat, k < 4 → (i : Int) < (Z k).toInt → fc (40 * k + i) = C (40 * k + i)

theorem OR.cpy {f e O : Nat → Int32} (h : OR f O) : OR (va_cpy f e 0 0 10) O := fun i hi => (h i hi).trans (cpy_i hi).symm
theorem OR.kp {k c : Int32} {f e O O1 : Nat → Int32} (h : OR f O) (h1 : OR e O1) : OR (if k = c then va_cpy f e 0 0 10 else e) (if k = c then O else O1) := by
  split
  · exact h.cpy
  · exact h1
theorem OR.bk {k : Int32} {K f a b O O1 O2 : Nat → Int32} (h : OR f O) (h1 : OR a O1) (h2 : OR b O2) : OR (if k = 0 ∧ ¬ K 0 = 0 then va_cpy a f 0 0 10 else if k = 1 ∧ ¬ K 1 = 0 then va_cpy b f 0 0 10 else f) (bkW k K O O1 O2) := by
  unfold bkW
  split
  · exact h1.cpy
  · split
    · exact h2.cpy
    · exact h
def txO (f : Nat → Int32) (T : Nat) (O : Nat → Int32) : Nat → Int32 := if 0 < (txF f T).toInt then O else fun i => (TQ f T).1.2.2.2.2.2.2.2 (38 + i)
theorem OR.text {f : Nat → Int32} {T : Nat} {f3 O : Nat → Int32} (h3 : T ≤ 320) {x3 : Int32} {g1 g2 g3 g4 g5 g6 : Nat → Int32} (h : OR f3 O) : OR (if (cFN T (cRA f T x3 g1 g2 g3 g4 g5 g6).1).1 = 0 then va_cpy ((cRA f T x3 g1 g2 g3 g4 g5 g6).1.2.2.2.2.2.2.2.2.2.2.1) f3 0 0 10 else f3) (txO f T O) := by
  have ts := text_sim (f := f) h3 x3 g1 g2 g3 g4 g5 g6 0 0 0 0 (fun _ => 0)
  unfold txO txF TQ
  generalize cRA f T x3 g1 g2 g3 g4 g5 g6 = Q at ts ⊢
  generalize txQ f T 0 0 0 0 (fun _ => 0) = X at ts ⊢
  rcases ts with ⟨p, q, _, w, _⟩ | g
  · rw [if_pos p, q, if_neg (by decide)]
    obtain ⟨⟨w1, w2, w3, w4, w5, w6⟩, w7, w8, w9, w10, w11⟩ := w
    exact OR.cpy (fun i hi => w10 i hi)
  · rw [if_neg g.m, if_pos g.pos]
    exact h
theorem SO.text {f : Nat → Int32} {T : Nat} {st O : Nat → Int32} (h3 : T ≤ 320) {ba : Int32} {he : Nat} {tk va : Int32} {fp : Nat → Int32} (h : SO 38 st O) : SO 38 (if 0 < (txE (txQ f T ba he tk va fp).1).1.toInt then st else cpF 49 (txQ f T ba he tk va fp).1.2.2.2.2.2.2.2 st) (txO f T O) := by
  have ta := text_sim (f := f) h3 0 (fun _ => 0) (fun _ => 0) (fun _ => 0) (fun _ => 0) (fun _ => 0) (fun _ => 0) 0 0 0 0 (fun _ => 0)
  have tb := text_sim (f := f) h3 0 (fun _ => 0) (fun _ => 0) (fun _ => 0) (fun _ => 0) (fun _ => 0) (fun _ => 0) ba he tk va fp
  unfold txO txF TQ
  generalize cRA f T 0 (fun _ => 0) (fun _ => 0) (fun _ => 0) (fun _ => 0) (fun _ => 0) (fun _ => 0) = Q at ta tb ⊢
  generalize txQ f T 0 0 0 0 (fun _ => 0) = X0 at ta ⊢
  generalize txQ f T ba he tk va fp = X at tb ⊢
  rcases ta with ⟨p, q, _, w, _⟩ | g
  · rcases tb with ⟨p', q', _, w', _⟩ | g'
    · rw [q, q', if_neg (by decide), if_neg (by decide)]
      obtain ⟨_, _, _, _, w10, _⟩ := w
      obtain ⟨_, _, _, _, v10, _⟩ := w'
      intro i hi
      show (if 38 + i < 49 then X.1.2.2.2.2.2.2.2 (38 + i) else st (38 + i)) = X0.1.2.2.2.2.2.2.2 (38 + i)
      rw [if_pos (by omega)]
      exact (v10 i hi).trans (w10 i hi).symm
    · exact absurd p g'.m
  · rcases tb with ⟨p', q', _, w', _⟩ | g'
    · exact absurd p' g.m
    · rw [if_pos g.pos, if_pos g'.pos]
      exact h
theorem SO.texto {o : Nat} {st fp O : Nat → Int32} {C : Prop} [Decidable C] (h : SO o st O) (ho : 49 ≤ o) : SO o (if C then st else cpF 49 fp st) O := by
  split
  · exact h
  · intro i hi
    exact (if_neg (by omega)).trans (h i hi)
theorem SO.kp0 {k : Int32} {st O : Nat → Int32} (h : SO 38 st O) : SO 38 (if 0 ≤ k.toInt ∧ k.toInt < 2 then cpj 0 (49 * (k.toNatClampNeg + 1)) 49 st else st) O := by
  split
  · intro i hi
    exact (cpj_out (by omega)).trans (h i hi)
  · exact h
theorem SO.kp1 {k : Int32} {st O O1 : Nat → Int32} (h : SO 38 st O) (h1 : SO 87 st O1) : SO 87 (if 0 ≤ k.toInt ∧ k.toInt < 2 then cpj 0 (49 * (k.toNatClampNeg + 1)) 49 st else st) (if k = 0 then O else O1) := by
  by_cases c : 0 ≤ k.toInt ∧ k.toInt < 2
  · rw [if_pos c]
    rcases k01 c with e | e
    · subst e
      rw [if_pos rfl]
      intro i hi
      have q : cpj 0 (49 * ((0 : Int32).toNatClampNeg + 1)) 49 st (49 + (38 + i)) = st (0 + (38 + i)) := cpj_in (by omega)
      rw [Nat.zero_add, ← Nat.add_assoc] at q
      exact q.trans (h i hi)
    · subst e
      rw [if_neg (by decide)]
      intro i hi
      have e1 : (1 : Int32).toNatClampNeg = 1 := by decide
      rw [e1]
      exact (cpj_out (by omega)).trans (h1 i hi)
  · rw [if_neg c, if_neg (fun e => c (by rw [e]; decide))]
    exact h1
theorem SO.kp2 {k : Int32} {st O O2 : Nat → Int32} (h : SO 38 st O) (h2 : SO 136 st O2) : SO 136 (if 0 ≤ k.toInt ∧ k.toInt < 2 then cpj 0 (49 * (k.toNatClampNeg + 1)) 49 st else st) (if k = 1 then O else O2) := by
  by_cases c : 0 ≤ k.toInt ∧ k.toInt < 2
  · rw [if_pos c]
    rcases k01 c with e | e
    · subst e
      rw [if_neg (by decide)]
      intro i hi
      have e1 : (0 : Int32).toNatClampNeg = 0 := by decide
      rw [e1]
      exact (cpj_out (by omega)).trans (h2 i hi)
    · subst e
      rw [if_pos rfl]
      intro i hi
      have q : cpj 0 (49 * ((1 : Int32).toNatClampNeg + 1)) 49 st (98 + (38 + i)) = st (0 + (38 + i)) := cpj_in (by omega)
      rw [Nat.zero_add, ← Nat.add_assoc] at q
      exact q.trans (h i hi)
  · rw [if_neg c, if_neg (fun e => c (by rw [e]; decide))]
    exact h2

set_option maxHeartbeats 1000000 in
set_option maxRecDepth 100000 in
theorem c_X3_addE (l : Launch) (dC : Nat → ClassId) (dI : Nat → Nat → Nat) (G : Nat → ClassId) (sz : Nat) (h0 m1 m2 S : Nat) (i g : Int32) (z1 z2 : Nat → Int32) (hS0 : S ≤ 6) : Met l yX3_add (Cond.code yX3_add cX3_add 3 (some .boolean) :: GT) ({ frames := 0, cells := 0, slots := 0, locals := 0 } : Room) (PcW [.ref h0, .int i, .int g] dC dI G [(h0, .inr (3, [.int (nI S), .ref m1, .ref m2])), (m1, .inl (G 0, 6, .inl z1)), (m2, .inl (G 0, 6, .inl z2))] sz) (va_Qi (fun (r : Int32) (u : Nat × (Nat → Int32) × (Nat → Int32)) => match u with | (u0, u1, u2) => (r = if S < 6 then 1 else 0) ∧ u0 = (if S < 6 then S + 1 else S) ∧ u1 = (if S < 6 then upd z1 S i else z1) ∧ u2 = (if S < 6 then upd z2 S g else z2)) (fun (u : Nat × (Nat → Int32) × (Nat → Int32)) (t : State) => match u with | (u0, u1, u2) => va_P (dC, dI) vwCl [(h0, .inr (3, [.int (nI u0), .ref m1, .ref m2])), (m1, .inl (G 0, 6, .inl u1)), (m2, .inl (G 0, 6, .inl u2))] t.heap ∧ va_D (va_A [(h0, .inr (3, [.int (nI S), .ref m1, .ref m2])), (m1, .inl (G 0, 6, .inl z1)), (m2, .inl (G 0, 6, .inl z2))] sz) [(h0, .inr (3, [.int (nI u0), .ref m1, .ref m2])), (m1, .inl (G 0, 6, .inl u1)), (m2, .inl (G 0, 6, .inl u2))]) (va_A [(h0, .inr (3, [.int (nI S), .ref m1, .ref m2])), (m1, .inl (G 0, 6, .inl z1)), (m2, .inl (G 0, 6, .inl z2))] sz)) 0 0 (va_A [(h0, .inr (3, [.int (nI S), .ref m1, .ref m2])), (m1, .inl (G 0, 6, .inl z1)), (m2, .inl (G 0, 6, .inl z2))] sz) := by
  have tn2211_ : nIT S := fun _ => nI_toInt (by omega)
  refine Met.ofW (cc := cX3_add) (maxL := 3) (ret := (some .boolean)) (by decide) rfl ?_
  intro p e s m args below meth c s₁ Bd hml hv
  obtain ⟨rfl, hsz, hP, hK, hD0⟩ := hv
  have hx := Bd.exec
  have hb := Bd.bytes
  have hr := Bd.returns
  have hg : ∀ w ∈ GT, w.before ([.ref h0, .int i, .int g] : List Value).toArray s = true := fun w h => atoms_spec (ws := Cond.code yX3_add cX3_add 3 (some .boolean) :: GT) Bd.pre w (List.mem_cons_of_mem _ h)
  have hown : s.vm.findClass RX3 = some m.cls := findClass_of_methodNamed Bd.named
  have hlocks := Bd.notSynchronized
  subst hsz
  have hD := hD0.self (sz := s.heap.size)
  generalize hAe : va_A [(h0, .inr (3, [.int (nI S), .ref m1, .ref m2])), (m1, .inl (G 0, 6, .inl z1)), (m2, .inl (G 0, 6, .inl z2))] s.heap.size = A at hD ⊢
  have hA : ∀ q : Nat, s.heap.size ≤ q → A q := fun q h => by rw [← hAe]; exact Or.inr h
  have hS : va_S A s.heap s.heap [] := va_S.rf
  have hl := lv_entry ([.ref h0, .int i, .int g]) (n := 3) (Nat.le_of_ble_eq_true rfl)
  rw [lg_entry_eq]
  generalize (lg_sl ([.ref h0, .int i, .int g]) ++ List.replicate (3 - (lg_sl ([.ref h0, .int i, .int g])).length) Slot.unset).toArray = ls at hl ⊢
  have hl : lv_has ls 3 [(0, .ref h0), (1, .int i), (2, .int g)] := hl
  refine lv_aload_n hx hb dX3_add_0 rfl (lv_at hl 0 rfl) ?_
  refine va_get (D := (dC, dI)) (ci := 3) (v := .int (nI S)) (C := RX3) (T := TX3) (N := 3) hx hb hg inG3 hown hK.1 hP 0 rfl rfl 0 (Nat.le_of_ble_eq_true rfl) (hg _ wt_240) (fun _ h9 => h9) rfl dX3_add_1 ?_
  refine lv_if_lt (tgt := 16) hx hb dX3_add_4 rfl (fun c1 => ?_) (fun c1 => ?_)
  · skip
    have t_c1 := ltI c1
    have : (0 : Int32).toInt = 0 := qI_0
    have t_n0 : (nI S).toInt = (S : Int) := tn2211_ ()
    exfalso; omega
  · skip
    have n2 : 0 ≤ S := by have t := nltI c1; rw [show (nI (S)).toInt = ((S : Nat) : Int) from tn2211_ ()] at t; have : (0 : Int32).toInt = 0 := qI_0; omega
    refine lv_aload_n hx hb dX3_add_7 rfl (lv_at hl 0 rfl) ?_
    refine va_get (D := (dC, dI)) (ci := 3) (v := .int (nI S)) (C := RX3) (T := TX3) (N := 3) hx hb hg inG3 hown hK.1 hP 0 rfl rfl 0 (Nat.le_of_ble_eq_true rfl) (hg _ wt_240) (fun _ h9 => h9) rfl dX3_add_8 ?_
    refine lv_bipush (v := 6) hx hb dX3_add_11 rfl ?_
    refine lv_icmp_lt (tgt := 18) hx hb dX3_add_13 rfl (fun c3 => ?_) (fun c3 => ?_)
    · skip
      have n4 : S < 6 := by have t := ltI c3; rw [show (nI (S)).toInt = ((S : Nat) : Int) from tn2211_ ()] at t; have : (6 : Int32).toInt = 6 := qI_6; omega
      refine lv_aload_n hx hb dX3_add_18 rfl (lv_at hl 0 rfl) ?_
      refine va_get (D := (dC, dI)) (ci := 3) (v := .ref m1) (C := RX3) (T := TX3) (N := 3) hx hb hg inG3 hown hK.1 hP 0 rfl rfl 1 (Nat.le_of_ble_eq_true rfl) (hg _ wt_242) (fun _ h9 => h9) rfl dX3_add_19 ?_
      refine lv_aload_n hx hb dX3_add_22 rfl (lv_at hl 0 rfl) ?_
      refine va_get (D := (dC, dI)) (ci := 3) (v := .int (nI S)) (C := RX3) (T := TX3) (N := 3) hx hb hg inG3 hown hK.1 hP 0 rfl rfl 0 (Nat.le_of_ble_eq_true rfl) (hg _ wt_240) (fun _ h9 => h9) rfl dX3_add_23 ?_
      refine lv_iload_n hx hb dX3_add_26 rfl (lv_at hl 1 rfl) ?_
      refine va_iast hx hb hK.1 hP hD hS 1 0 rfl rfl (vp_in_nI (by first | omega | (have t_n2 := n2; have t_n4 := n4; have t_n0 : (nI S).toInt = (S : Int) := tn2211_ (); omega)) (by decide)) dX3_add_27 (fun H locs hP hD hS => ?_)
      rw [nI_clamp (by omega)] at hP hD
      refine lv_aload_n hx hb dX3_add_28 rfl (lv_at hl 0 rfl) ?_
      refine va_get (D := (dC, dI)) (ci := 3) (v := .ref m2) (C := RX3) (T := TX3) (N := 3) hx hb hg inG3 hown hK.1 hP 0 rfl rfl 2 (Nat.le_of_ble_eq_true rfl) (hg _ wt_243) (fun _ h9 => h9) rfl dX3_add_29 ?_
      refine lv_aload_n hx hb dX3_add_32 rfl (lv_at hl 0 rfl) ?_
      refine va_get (D := (dC, dI)) (ci := 3) (v := .int (nI S)) (C := RX3) (T := TX3) (N := 3) hx hb hg inG3 hown hK.1 hP 0 rfl rfl 0 (Nat.le_of_ble_eq_true rfl) (hg _ wt_240) (fun _ h9 => h9) rfl dX3_add_33 ?_
      refine lv_iload_n hx hb dX3_add_36 rfl (lv_at hl 2 rfl) ?_
      refine va_iast hx hb hK.1 hP hD hS 2 0 rfl rfl (vp_in_nI (by first | omega | (have t_n2 := n2; have t_n4 := n4; have t_n0 : (nI S).toInt = (S : Int) := tn2211_ (); omega)) (by decide)) dX3_add_37 (fun H locs hP hD hS => ?_)
      rw [nI_clamp (by omega)] at hP hD
      refine lv_aload_n hx hb dX3_add_38 rfl (lv_at hl 0 rfl) ?_
      refine lv_dup hx hb dX3_add_39 rfl ?_
      refine va_get (D := (dC, dI)) (ci := 3) (v := .int (nI S)) (C := RX3) (T := TX3) (N := 3) hx hb hg inG3 hown hK.1 hP 0 rfl rfl 0 (Nat.le_of_ble_eq_true rfl) (hg _ wt_240) (fun _ h9 => h9) rfl dX3_add_40 ?_
      refine lv_iconst (v := 1) hx hb dX3_add_43 rfl ?_
      refine lv_iadd hx hb dX3_add_44 ?_
      refine lv_cg (y := nI (S + 1)) (by rw [show (1 : Int32) = nI 1 from rfl]; exact nI_add _ _) ?_
      refine va_put (D := (dC, dI)) (ci := 3) (v := .int (nI (S + 1))) (ty := .int) (C := RX3) (T := TX3) (N := 3) hx hb hg inG3 tyX3 tyX3_ok nmX3 hown hK.1 hP hD hS 0 rfl rfl 0 (Nat.le_of_ble_eq_true rfl) (hg _ wt_240) (fun _ h9 => h9) rfl (by decide +kernel) rfl rfl (Nat.le_of_ble_eq_true rfl) dX3_add_45 (fun H locs hP hD hS => ?_)
      refine lv_iconst (v := 1) hx hb dX3_add_48 rfl ?_
      have hpost : (1 : Int32) = if S < 6 then 1 else 0 := by
        have t_n2 := n2
        have t_n4 := n4
        have t_n0 : (nI S).toInt = (S : Int) := tn2211_ ()
        first | rfl | ((repeat' split) <;> first | rfl | omega)
      obtain ⟨hP9, hD9⟩ := va_sub2 (ws' := [(h0, .inr (3, [.int (nI (S + 1)), .ref m1, .ref m2])), (m1, .inl (G 0, 6, .inl (upd z1 S i))), (m2, .inl (G 0, 6, .inl (upd z2 S g)))]) hP hD [0, 1, 2] (by decide +kernel) rfl
      refine W.widen (k := 0) (n := 0) (Nat.le_of_ble_eq_true rfl) (Nat.le_of_ble_eq_true rfl) ?_
      exact W.zret (v := 1) hx hb hr (by first | rfl | decide | exact rfl) (fun t ht hW => ⟨⟨1, ((S + 1), (upd z1 S i), (upd z2 S g)), rfl, ⟨hpost, (by have t_n2 := n2; have t_n4 := n4; have t_n0 : (nI S).toInt = (S : Int) := tn2211_ (); first | (rw [if_pos (by omega), if_pos (by omega), if_pos (by omega)]; exact ⟨rfl, rfl, rfl⟩) | (rw [if_neg (by omega), if_neg (by omega), if_neg (by omega)]; exact ⟨rfl, rfl, rfl⟩))⟩, ⟨by rw [ht]; exact hP9, hD9⟩⟩, hS.F ht⟩) hS.2.2 dX3_add_49
    · skip
      have n5 : 6 ≤ S := by have t := nltI c3; rw [show (nI (S)).toInt = ((S : Nat) : Int) from tn2211_ ()] at t; have : (6 : Int32).toInt = 6 := qI_6; omega
      refine lv_iconst (v := 0) hx hb dX3_add_16 rfl ?_
      have hpost : (0 : Int32) = if S < 6 then 1 else 0 := by
        have t_n2 := n2
        have t_n5 := n5
        have t_n0 : (nI S).toInt = (S : Int) := tn2211_ ()
        first | rfl | ((repeat' split) <;> first | rfl | omega)
      obtain ⟨hP9, hD9⟩ := va_sub2 (ws' := [(h0, .inr (3, [.int (nI S), .ref m1, .ref m2])), (m1, .inl (G 0, 6, .inl z1)), (m2, .inl (G 0, 6, .inl z2))]) hP hD [0, 1, 2] (by decide +kernel) rfl
      refine W.widen (k := 0) (n := 0) (Nat.le_of_ble_eq_true rfl) (Nat.le_of_ble_eq_true rfl) ?_
      exact W.zret (v := 0) hx hb hr (by first | rfl | decide | exact rfl) (fun t ht hW => ⟨⟨0, (S, z1, z2), rfl, ⟨hpost, (by have t_n2 := n2; have t_n5 := n5; have t_n0 : (nI S).toInt = (S : Int) := tn2211_ (); first | (rw [if_pos (by omega), if_pos (by omega), if_pos (by omega)]; exact ⟨rfl, rfl, rfl⟩) | (rw [if_neg (by omega), if_neg (by omega), if_neg (by omega)]; exact ⟨rfl, rfl, rfl⟩))⟩, ⟨by rw [ht]; exact hP9, hD9⟩⟩, hS.F ht⟩) hS.2.2 dX3_add_17

set_option maxHeartbeats 1000000 in
set_option maxRecDepth 100000 in
theorem c_X10_markR (l : Launch) (dC : Nat → ClassId) (dI : Nat → Nat → Nat) (G : Nat → ClassId) (sz : Nat) (h0 rd wy tr im kp od ch cr le mk tl sh a1 a2 a3 a4 a5 a6 N B D m1 m2 S : Nat) (tf rf i d : Int32) (z1 z2 : Nat → Int32) (hN_N : N ≤ 10) (hB_B : B ≤ 6) (hD_D : 1 ≤ D ∧ D ≤ 9) (hS0 : S ≤ 6) : Met l yX10_mark (Cond.code yX10_mark cX10_mark 3 (some .int) :: GT) ({ frames := 1, cells := 0, slots := 0, locals := 22 } : Room) (PcW [.ref h0, .int i, .int d] dC dI G [(h0, .inr (10, [.ref rd, .ref wy, .ref tr, .ref im, .ref kp, .ref od, .ref ch, .ref cr, .ref le, .ref mk, .ref tl, .ref sh, .int tf, .int rf])), (wy, .inr (9, [.int (nI N), .int (nI B), .int (nI D), .ref a1, .ref a2, .ref a3, .ref a4, .ref a5, .ref a6])), (mk, .inr (3, [.int (nI S), .ref m1, .ref m2])), (m1, .inl (G 0, 6, .inl z1)), (m2, .inl (G 0, 6, .inl z2))] sz) (va_Qi (fun (r : Int32) (u : Nat × (Nat → Int32) × (Nat → Int32)) => match u with | (u0, u1, u2) => (r = if ((0 ≤ i.toInt ∧ i.toInt < ((N : Nat) : Int)) ∧ 0 ≤ d.toInt ∧ d.toInt ≤ 9) then (if S < 6 then nI (S + 1) else -3) else -1) ∧ (u0 = (if ((0 ≤ i.toInt ∧ i.toInt < ((N : Nat) : Int)) ∧ 0 ≤ d.toInt ∧ d.toInt ≤ 9) ∧ S < 6 then S + 1 else S) ∧ u0 ≤ 6) ∧ u1 = (if ((0 ≤ i.toInt ∧ i.toInt < ((N : Nat) : Int)) ∧ 0 ≤ d.toInt ∧ d.toInt ≤ 9) ∧ S < 6 then upd z1 S i else z1) ∧ u2 = (if ((0 ≤ i.toInt ∧ i.toInt < ((N : Nat) : Int)) ∧ 0 ≤ d.toInt ∧ d.toInt ≤ 9) ∧ S < 6 then upd z2 S d else z2)) (fun (u : Nat × (Nat → Int32) × (Nat → Int32)) (t : State) => match u with | (u0, u1, u2) => va_P (dC, dI) vwCl [(h0, .inr (10, [.ref rd, .ref wy, .ref tr, .ref im, .ref kp, .ref od, .ref ch, .ref cr, .ref le, .ref mk, .ref tl, .ref sh, .int tf, .int rf])), (wy, .inr (9, [.int (nI N), .int (nI B), .int (nI D), .ref a1, .ref a2, .ref a3, .ref a4, .ref a5, .ref a6])), (mk, .inr (3, [.int (nI u0), .ref m1, .ref m2])), (m1, .inl (G 0, 6, .inl u1)), (m2, .inl (G 0, 6, .inl u2))] t.heap ∧ va_D (va_A [(h0, .inr (10, [.ref rd, .ref wy, .ref tr, .ref im, .ref kp, .ref od, .ref ch, .ref cr, .ref le, .ref mk, .ref tl, .ref sh, .int tf, .int rf])), (wy, .inr (9, [.int (nI N), .int (nI B), .int (nI D), .ref a1, .ref a2, .ref a3, .ref a4, .ref a5, .ref a6])), (mk, .inr (3, [.int (nI S), .ref m1, .ref m2])), (m1, .inl (G 0, 6, .inl z1)), (m2, .inl (G 0, 6, .inl z2))] sz) [(h0, .inr (10, [.ref rd, .ref wy, .ref tr, .ref im, .ref kp, .ref od, .ref ch, .ref cr, .ref le, .ref mk, .ref tl, .ref sh, .int tf, .int rf])), (wy, .inr (9, [.int (nI N), .int (nI B), .int (nI D), .ref a1, .ref a2, .ref a3, .ref a4, .ref a5, .ref a6])), (mk, .inr (3, [.int (nI u0), .ref m1, .ref m2])), (m1, .inl (G 0, 6, .inl u1)), (m2, .inl (G 0, 6, .inl u2))]) (va_A [(h0, .inr (10, [.ref rd, .ref wy, .ref tr, .ref im, .ref kp, .ref od, .ref ch, .ref cr, .ref le, .ref mk, .ref tl, .ref sh, .int tf, .int rf])), (wy, .inr (9, [.int (nI N), .int (nI B), .int (nI D), .ref a1, .ref a2, .ref a3, .ref a4, .ref a5, .ref a6])), (mk, .inr (3, [.int (nI S), .ref m1, .ref m2])), (m1, .inl (G 0, 6, .inl z1)), (m2, .inl (G 0, 6, .inl z2))] sz)) 0 0 (va_A [(h0, .inr (10, [.ref rd, .ref wy, .ref tr, .ref im, .ref kp, .ref od, .ref ch, .ref cr, .ref le, .ref mk, .ref tl, .ref sh, .int tf, .int rf])), (wy, .inr (9, [.int (nI N), .int (nI B), .int (nI D), .ref a1, .ref a2, .ref a3, .ref a4, .ref a5, .ref a6])), (mk, .inr (3, [.int (nI S), .ref m1, .ref m2])), (m1, .inl (G 0, 6, .inl z1)), (m2, .inl (G 0, 6, .inl z2))] sz) := by
  have tn2216_ : nIT N := fun _ => nI_toInt (by omega)
  have tn2217_ : nIT B := fun _ => nI_toInt (by omega)
  have tn2218_ : nIT D := fun _ => nI_toInt (by omega)
  have tn2219_ : nIT S := fun _ => nI_toInt (by omega)
  refine Met.ofW (cc := cX10_mark) (maxL := 3) (ret := (some .int)) (by decide) rfl ?_
  intro p e s m args below meth c s₁ Bd hml hv
  obtain ⟨rfl, hsz, hP, hK, hD0⟩ := hv
  have hx := Bd.exec
  have hb := Bd.bytes
  have hr := Bd.returns
  have hg : ∀ w ∈ GT, w.before ([.ref h0, .int i, .int d] : List Value).toArray s = true := fun w h => atoms_spec (ws := Cond.code yX10_mark cX10_mark 3 (some .int) :: GT) Bd.pre w (List.mem_cons_of_mem _ h)
  have hown : s.vm.findClass RX10 = some m.cls := findClass_of_methodNamed Bd.named
  have hlocks := Bd.notSynchronized
  subst hsz
  have hD := hD0.self (sz := s.heap.size)
  generalize hAe : va_A [(h0, .inr (10, [.ref rd, .ref wy, .ref tr, .ref im, .ref kp, .ref od, .ref ch, .ref cr, .ref le, .ref mk, .ref tl, .ref sh, .int tf, .int rf])), (wy, .inr (9, [.int (nI N), .int (nI B), .int (nI D), .ref a1, .ref a2, .ref a3, .ref a4, .ref a5, .ref a6])), (mk, .inr (3, [.int (nI S), .ref m1, .ref m2])), (m1, .inl (G 0, 6, .inl z1)), (m2, .inl (G 0, 6, .inl z2))] s.heap.size = A at hD ⊢
  have hA : ∀ q : Nat, s.heap.size ≤ q → A q := fun q h => by rw [← hAe]; exact Or.inr h
  have hS : va_S A s.heap s.heap [] := va_S.rf
  have hl := lv_entry ([.ref h0, .int i, .int d]) (n := 3) (Nat.le_of_ble_eq_true rfl)
  rw [lg_entry_eq]
  generalize (lg_sl ([.ref h0, .int i, .int d]) ++ List.replicate (3 - (lg_sl ([.ref h0, .int i, .int d])).length) Slot.unset).toArray = ls at hl ⊢
  have hl : lv_has ls 3 [(0, .ref h0), (1, .int i), (2, .int d)] := hl
  refine lv_aload_n hx hb dX10_mark_0 rfl (lv_at hl 0 rfl) ?_
  refine va_get (D := (dC, dI)) (ci := 10) (v := .ref wy) (C := RX10) (T := TX10) (N := 14) hx hb hg inG10 hown hK.1 hP 0 rfl rfl 1 (Nat.le_of_ble_eq_true rfl) (hg _ wt_303) (fun _ h9 => h9) rfl dX10_mark_1 ?_
  refine lv_iload_n hx hb dX10_mark_4 rfl (lv_at hl 1 rfl) ?_
  have hPc := hP.sub (ws' := [(wy, .inr (9, [.int (nI N), .int (nI B), .int (nI D), .ref a1, .ref a2, .ref a3, .ref a4, .ref a5, .ref a6]))]) [1] rfl
  refine va_calli (va_runVN (As := [.int i]) (rest := []) ⟨hx, hb, hml, hown, hg⟩ (c_X9_hasStretch l dC dI G _ wy a1 a2 a3 a4 a5 a6 N B D i hN_N hB_B hD_D) (kwVN hg hK mfX9_hasStretch wn_527 ⟨Nat.le_of_ble_eq_true rfl, Nat.le_of_ble_eq_true rfl⟩) (preVR hK hPc (ci := 9) (r := (RX9, TX9, 9)) rfl rfl) rfl rfl hl.1 rfl (lv_room (Nat.le_of_ble_eq_true rfl)) dX10_mark_5 ⟨Nat.le_of_ble_eq_true rfl, Nat.le_of_ble_eq_true rfl⟩) hS (fun q h1 h2 => absurd h2 (Nat.not_le.mpr h1)) (fun q h => hA q (Nat.le_trans hS.1 h)) (fun r1 ur1 t H1 locs ht hvm w2 hB hz1 hk1 hS => ?_)
  have hP := keepR hP hk1
  obtain ⟨w2, w2x⟩ := w2
  try simp only [l_ii, show (0 : Int32).toInt = 0 from by decide] at w2
  try rw [show (nI (N)).toInt = ((N : Nat) : Int) from tn2216_ ()] at w2
  subst w2
  refine lv_if_eq (tgt := 18) hx hb dX10_mark_8 rfl (fun c3 => ?_) (fun c3 => ?_)
  · skip
    have b4 := if10_n c3
    refine lv_iconst (v := (-1)) hx hb dX10_mark_18 rfl ?_
    have hpost : ((-1) : Int32) = if ((0 ≤ i.toInt ∧ i.toInt < ((N : Nat) : Int)) ∧ 0 ≤ d.toInt ∧ d.toInt ≤ 9) then (if S < 6 then nI (S + 1) else -3) else -1 := by
      have t_b4 := b4
      have t_n0 : (nI N).toInt = (N : Int) := tn2216_ ()
      have t_n1 : (nI B).toInt = (B : Int) := tn2217_ ()
      have t_n2 : (nI D).toInt = (D : Int) := tn2218_ ()
      have t_n3 : (nI S).toInt = (S : Int) := tn2219_ ()
      have z0 : (0 : Int32).toInt = 0 := qI_0
      have z1 : (1 : Int32).toInt = 1 := qI_1
      have z2 : (2 : Int32).toInt = 2 := qI_2
      have z3 : (3 : Int32).toInt = 3 := qI_3
      have z5 : (5 : Int32).toInt = 5 := qI_5
      have z9 : (9 : Int32).toInt = 9 := qI_9
      have z20 : (20 : Int32).toInt = 20 := qI_20
      have z4 : (-4 : Int32).toInt = -4 := (by decide)
      have z10 : (10 : Int32).toInt = 10 := qI_10
      rw [if_neg (by omega)]
    obtain ⟨hP9, hD9⟩ := va_sub2 (ws' := [(h0, .inr (10, [.ref rd, .ref wy, .ref tr, .ref im, .ref kp, .ref od, .ref ch, .ref cr, .ref le, .ref mk, .ref tl, .ref sh, .int tf, .int rf])), (wy, .inr (9, [.int (nI N), .int (nI B), .int (nI D), .ref a1, .ref a2, .ref a3, .ref a4, .ref a5, .ref a6])), (mk, .inr (3, [.int (nI S), .ref m1, .ref m2])), (m1, .inl (G 0, 6, .inl z1)), (m2, .inl (G 0, 6, .inl z2))]) hP hD [0, 1, 2, 3, 4] (by decide +kernel) rfl
    refine W.widen (k := 0) (n := 0) (Nat.le_of_ble_eq_true rfl) (Nat.le_of_ble_eq_true rfl) ?_
    exact W.iret (v := (-1)) hx hb hr (fun t ht hW => ⟨⟨(-1), (S, z1, z2), rfl, ⟨hpost, (by have t_b4 := b4; have tnb_ := nib4 tn2216_ tn2217_ tn2218_ tn2219_; have tqz_ := qz46_; have z4 : (-4 : Int32).toInt = -4 := (by decide); have z10 : (10 : Int32).toInt = 10 := qI_10; refine ⟨⟨?_, by omega⟩, ?_, ?_⟩ <;> rw [if_neg (by omega)])⟩, ⟨by rw [ht]; exact hP9, hD9⟩⟩, hS.F ht⟩) hS.2.2 dX10_mark_19
  · skip
    have b5 := if10_p c3
    refine lv_iload_n hx hb dX10_mark_11 rfl (lv_at hl 2 rfl) ?_
    have hPc := hP.sub (ws' := []) [] rfl
    refine va_calli (va_runS (As := [.int d]) (rest := []) ⟨hx, hb, hml, hown, hg⟩ (c_X10_isDepth l dC dI G _ d) (kwS hg mfX10_isDepth wt_649 ⟨Nat.le_of_ble_eq_true rfl, Nat.le_of_ble_eq_true rfl⟩) (preSR hK hPc) rfl rfl hl.1 rfl (lv_room (Nat.le_of_ble_eq_true rfl)) dX10_mark_12 ⟨Nat.le_of_ble_eq_true rfl, Nat.le_of_ble_eq_true rfl⟩) hS (fun q h1 h2 => absurd h2 (Nat.not_le.mpr h1)) (fun q h => hA q (Nat.le_trans hS.1 h)) (fun r6 ur6 t H1 locs ht hvm w7 hB hz1 hk1 hS => ?_)
    have hP := keepR hP hk1
    obtain ⟨w7, w7x⟩ := w7
    try simp only [l_ii, show (0 : Int32).toInt = 0 from by decide, show (9 : Int32).toInt = 9 from by decide] at w7
    subst w7
    refine lv_if_ne (tgt := 20) hx hb dX10_mark_15 rfl (fun c8 => ?_) (fun c8 => ?_)
    · skip
      have b9 := if10_p c8
      refine lv_aload_n hx hb dX10_mark_20 rfl (lv_at hl 0 rfl) ?_
      refine va_get (D := (dC, dI)) (ci := 10) (v := .ref mk) (C := RX10) (T := TX10) (N := 14) hx hb hg inG10 hown hK.1 hP 0 rfl rfl 9 (Nat.le_of_ble_eq_true rfl) (hg _ wt_311) (fun _ h9 => h9) rfl dX10_mark_21 ?_
      refine lv_iload_n hx hb dX10_mark_24 rfl (lv_at hl 1 rfl) ?_
      refine lv_iload_n hx hb dX10_mark_25 rfl (lv_at hl 2 rfl) ?_
      obtain ⟨hPc, hDc, hFc⟩ := va_sub3 (ws' := [(mk, .inr (3, [.int (nI S), .ref m1, .ref m2])), (m1, .inl (G 0, 6, .inl z1)), (m2, .inl (G 0, 6, .inl z2))]) hP hD hS hA [2, 3, 4] (by decide +kernel) rfl
      refine va_calli (va_runVN (As := [.int i, .int d]) (rest := []) ⟨hx, hb, hml, hown, hg⟩ (c_X3_addE l dC dI G _ mk m1 m2 S i d z1 z2 hS0) (kwVN hg hK mfX3_add wn_755 ⟨Nat.le_of_ble_eq_true rfl, Nat.le_of_ble_eq_true rfl⟩) (preVW hK hPc hDc (ci := 3) (r := (RX3, TX3, 3)) rfl rfl) rfl rfl hl.1 rfl (lv_room (Nat.le_of_ble_eq_true rfl)) dX10_mark_26 ⟨Nat.le_of_ble_eq_true rfl, Nat.le_of_ble_eq_true rfl⟩) hS (fun q _ h => hFc q h) hFc (fun r10 ur10 t H1 locs ht hvm w11 hB hz1 hk1 hS => ?_)
      obtain ⟨u12, u13, u14⟩ := ur10
      obtain ⟨hP1, hD1⟩ := hB
      rw [ht] at hP1
      obtain ⟨hP, hD⟩ := va_join (wr := [(h0, .inr (10, [.ref rd, .ref wy, .ref tr, .ref im, .ref kp, .ref od, .ref ch, .ref cr, .ref le, .ref mk, .ref tl, .ref sh, .int tf, .int rf])), (wy, .inr (9, [.int (nI N), .int (nI B), .int (nI D), .ref a1, .ref a2, .ref a3, .ref a4, .ref a5, .ref a6]))]) (w1 := [(mk, .inr (3, [.int (nI u12), .ref m1, .ref m2])), (m1, .inl (G 0, 6, .inl u13)), (m2, .inl (G 0, 6, .inl u14))]) hP hD [2, 3, 4] [0, 1] rfl rfl (by decide +kernel) (by decide +kernel) hk1 hFc hP1 hD1
      generalize H1 = H at hP hS ⊢
      obtain ⟨w11, w11x⟩ := w11
      refine lv_if_eq (tgt := 42) hx hb dX10_mark_29 rfl (fun c15 => ?_) (fun c15 => ?_)
      · skip
        refine lv_bipush (v := (-3)) hx hb dX10_mark_42 rfl ?_
        have hpost : ((-3) : Int32) = if ((0 ≤ i.toInt ∧ i.toInt < ((N : Nat) : Int)) ∧ 0 ≤ d.toInt ∧ d.toInt ≤ 9) then (if S < 6 then nI (S + 1) else -3) else -1 := by
          rw [if_pos (by (have t_b5 := b5; have t_b9 := b9; have t_c15 := eqI c15; have : (0 : Int32).toInt = 0 := qI_0; have tnb_ := nib4 tn2216_ tn2217_ tn2218_ tn2219_; have tqz_ := qz46_; have z4 : (-4 : Int32).toInt = -4 := (by decide); have z10 : (10 : Int32).toInt = 10 := qI_10; omega))]
          have q9 := w11
          have q7 := w11x.1
          by_cases h8 : S < 6
          · rw [if_pos h8] at q9 q7; rw [if_pos h8]; first | done | (rw [q7]; done) | (exfalso; exact absurd q9 (by first | with_reducible assumption | assumption)) | (exfalso; simp_all; done)
          · rw [if_neg h8] at q9 q7; rw [if_neg h8]; first | done | rfl | (exfalso; exact absurd q9 (by first | with_reducible assumption | assumption)) | (exfalso; simp_all; done)
        obtain ⟨hP9, hD9⟩ := va_sub2 (ws' := [(h0, .inr (10, [.ref rd, .ref wy, .ref tr, .ref im, .ref kp, .ref od, .ref ch, .ref cr, .ref le, .ref mk, .ref tl, .ref sh, .int tf, .int rf])), (wy, .inr (9, [.int (nI N), .int (nI B), .int (nI D), .ref a1, .ref a2, .ref a3, .ref a4, .ref a5, .ref a6])), (mk, .inr (3, [.int (nI u12), .ref m1, .ref m2])), (m1, .inl (G 0, 6, .inl u13)), (m2, .inl (G 0, 6, .inl u14))]) hP hD [0, 1, 2, 3, 4] (by decide +kernel) rfl
        refine W.widen (k := 0) (n := 0) (Nat.le_of_ble_eq_true rfl) (Nat.le_of_ble_eq_true rfl) ?_
        exact W.iret (v := (-3)) hx hb hr (fun t ht hW => ⟨⟨(-3), (u12, u13, u14), rfl, ⟨hpost, (by have t_b5 := b5; have t_b9 := b9; have t_c15 := eqI c15; have : (0 : Int32).toInt = 0 := qI_0; have tnb_ := nib4 tn2216_ tn2217_ tn2218_ tn2219_; have tqz_ := qz46_; have z4 : (-4 : Int32).toInt = -4 := (by decide); have z10 : (10 : Int32).toInt = 10 := qI_10; have hx9 := w11x; by_cases h8 : S < 6; (rw [if_pos h8, if_pos h8, if_pos h8] at hx9; exact ⟨⟨by rw [if_pos ⟨by omega, h8⟩]; exact hx9.1, by omega⟩, by rw [if_pos ⟨by omega, h8⟩]; exact hx9.2.1, by rw [if_pos ⟨by omega, h8⟩]; exact hx9.2.2⟩); (rw [if_neg h8, if_neg h8, if_neg h8] at hx9; exact ⟨⟨by rw [if_neg (fun h9 => h8 h9.2)]; exact hx9.1, by omega⟩, by rw [if_neg (fun h9 => h8 h9.2)]; exact hx9.2.1, by rw [if_neg (fun h9 => h8 h9.2)]; exact hx9.2.2⟩))⟩, ⟨by rw [ht]; exact hP9, hD9⟩⟩, hS.F ht⟩) hS.2.2 dX10_mark_44
      · skip
        refine lv_aload_n hx hb dX10_mark_32 rfl (lv_at hl 0 rfl) ?_
        refine va_get (D := (dC, dI)) (ci := 10) (v := .ref mk) (C := RX10) (T := TX10) (N := 14) hx hb hg inG10 hown hK.1 hP 0 rfl rfl 9 (Nat.le_of_ble_eq_true rfl) (hg _ wt_311) (fun _ h9 => h9) rfl dX10_mark_33 ?_
        refine va_getN (D := (dC, dI)) (ci := 3) (v := .int (nI u12)) (C := RX3) (T := TX3) (N := 3) hx hb hg inG3 hown hK.1 hP 2 rfl rfl 0 (Nat.le_of_ble_eq_true rfl) (hK.nest wn_241) (fun _ h9 => h9) rfl dX10_mark_36 ?_
        refine lv_goto (tgt := 44) hx hb dX10_mark_39 rfl ?_
        have hpost : (nI u12 : Int32) = if ((0 ≤ i.toInt ∧ i.toInt < ((N : Nat) : Int)) ∧ 0 ≤ d.toInt ∧ d.toInt ≤ 9) then (if S < 6 then nI (S + 1) else -3) else -1 := by
          rw [if_pos (by (have t_b5 := b5; have t_b9 := b9; have t_c15 := neI c15; have : (0 : Int32).toInt = 0 := qI_0; have tnb_ := nib4 tn2216_ tn2217_ tn2218_ tn2219_; have tqz_ := qz46_; have z4 : (-4 : Int32).toInt = -4 := (by decide); have z10 : (10 : Int32).toInt = 10 := qI_10; omega))]
          have q9 := w11
          have q7 := w11x.1
          by_cases h8 : S < 6
          · rw [if_pos h8] at q9 q7; rw [if_pos h8]; first | done | (rw [q7]; done) | (exfalso; exact absurd q9 (by first | with_reducible assumption | assumption)) | (exfalso; simp_all; done)
          · rw [if_neg h8] at q9 q7; rw [if_neg h8]; first | done | rfl | (exfalso; exact absurd q9 (by first | with_reducible assumption | assumption)) | (exfalso; simp_all; done)
        obtain ⟨hP9, hD9⟩ := va_sub2 (ws' := [(h0, .inr (10, [.ref rd, .ref wy, .ref tr, .ref im, .ref kp, .ref od, .ref ch, .ref cr, .ref le, .ref mk, .ref tl, .ref sh, .int tf, .int rf])), (wy, .inr (9, [.int (nI N), .int (nI B), .int (nI D), .ref a1, .ref a2, .ref a3, .ref a4, .ref a5, .ref a6])), (mk, .inr (3, [.int (nI u12), .ref m1, .ref m2])), (m1, .inl (G 0, 6, .inl u13)), (m2, .inl (G 0, 6, .inl u14))]) hP hD [0, 1, 2, 3, 4] (by decide +kernel) rfl
        refine W.widen (k := 0) (n := 0) (Nat.le_of_ble_eq_true rfl) (Nat.le_of_ble_eq_true rfl) ?_
        exact W.iret (v := nI u12) hx hb hr (fun t ht hW => ⟨⟨nI u12, (u12, u13, u14), rfl, ⟨hpost, (by have t_b5 := b5; have t_b9 := b9; have t_c15 := neI c15; have : (0 : Int32).toInt = 0 := qI_0; have tnb_ := nib4 tn2216_ tn2217_ tn2218_ tn2219_; have tqz_ := qz46_; have z4 : (-4 : Int32).toInt = -4 := (by decide); have z10 : (10 : Int32).toInt = 10 := qI_10; have hx9 := w11x; by_cases h8 : S < 6; (rw [if_pos h8, if_pos h8, if_pos h8] at hx9; exact ⟨⟨by rw [if_pos ⟨by omega, h8⟩]; exact hx9.1, by omega⟩, by rw [if_pos ⟨by omega, h8⟩]; exact hx9.2.1, by rw [if_pos ⟨by omega, h8⟩]; exact hx9.2.2⟩); (rw [if_neg h8, if_neg h8, if_neg h8] at hx9; exact ⟨⟨by rw [if_neg (fun h9 => h8 h9.2)]; exact hx9.1, by omega⟩, by rw [if_neg (fun h9 => h8 h9.2)]; exact hx9.2.1, by rw [if_neg (fun h9 => h8 h9.2)]; exact hx9.2.2⟩))⟩, ⟨by rw [ht]; exact hP9, hD9⟩⟩, hS.F ht⟩) hS.2.2 dX10_mark_44
    · skip
      have b16 := if10_n c8
      refine lv_iconst (v := (-1)) hx hb dX10_mark_18 rfl ?_
      have hpost : ((-1) : Int32) = if ((0 ≤ i.toInt ∧ i.toInt < ((N : Nat) : Int)) ∧ 0 ≤ d.toInt ∧ d.toInt ≤ 9) then (if S < 6 then nI (S + 1) else -3) else -1 := by
        have t_b5 := b5
        have t_b16 := b16
        have t_n0 : (nI N).toInt = (N : Int) := tn2216_ ()
        have t_n1 : (nI B).toInt = (B : Int) := tn2217_ ()
        have t_n2 : (nI D).toInt = (D : Int) := tn2218_ ()
        have t_n3 : (nI S).toInt = (S : Int) := tn2219_ ()
        have z0 : (0 : Int32).toInt = 0 := qI_0
        have z1 : (1 : Int32).toInt = 1 := qI_1
        have z2 : (2 : Int32).toInt = 2 := qI_2
        have z3 : (3 : Int32).toInt = 3 := qI_3
        have z5 : (5 : Int32).toInt = 5 := qI_5
        have z9 : (9 : Int32).toInt = 9 := qI_9
        have z20 : (20 : Int32).toInt = 20 := qI_20
        have z4 : (-4 : Int32).toInt = -4 := (by decide)
        have z10 : (10 : Int32).toInt = 10 := qI_10
        rw [if_neg (by omega)]
      obtain ⟨hP9, hD9⟩ := va_sub2 (ws' := [(h0, .inr (10, [.ref rd, .ref wy, .ref tr, .ref im, .ref kp, .ref od, .ref ch, .ref cr, .ref le, .ref mk, .ref tl, .ref sh, .int tf, .int rf])), (wy, .inr (9, [.int (nI N), .int (nI B), .int (nI D), .ref a1, .ref a2, .ref a3, .ref a4, .ref a5, .ref a6])), (mk, .inr (3, [.int (nI S), .ref m1, .ref m2])), (m1, .inl (G 0, 6, .inl z1)), (m2, .inl (G 0, 6, .inl z2))]) hP hD [0, 1, 2, 3, 4] (by decide +kernel) rfl
      refine W.widen (k := 0) (n := 0) (Nat.le_of_ble_eq_true rfl) (Nat.le_of_ble_eq_true rfl) ?_
      exact W.iret (v := (-1)) hx hb hr (fun t ht hW => ⟨⟨(-1), (S, z1, z2), rfl, ⟨hpost, (by have t_b5 := b5; have t_b16 := b16; have tnb_ := nib4 tn2216_ tn2217_ tn2218_ tn2219_; have tqz_ := qz46_; have z4 : (-4 : Int32).toInt = -4 := (by decide); have z10 : (10 : Int32).toInt = 10 := qI_10; refine ⟨⟨?_, by omega⟩, ?_, ?_⟩ <;> rw [if_neg (by omega)])⟩, ⟨by rw [ht]; exact hP9, hD9⟩⟩, hS.F ht⟩) hS.2.2 dX10_mark_19

set_option maxHeartbeats 1000000 in
set_option maxRecDepth 100000 in
theorem c_X11_markR (l : Launch) (dC : Nat → ClassId) (dI : Nat → Nat → Nat) (G : Nat → ClassId) (sz : Nat) (h0 st N B rp tp T cu lt od th be ln S ma M ah bh ik la lg ce : Nat) (i d vrs vrb vhs vca vxs vxb vfa vbr vba vsp vhe vtk vva vto : Int32) (fma : Nat → Int32) (hN : N ≤ 10) (hB : B ≤ 6) (hT : T ≤ 320) (hS0 : S ≤ 8) (hM : M ≤ 6) : Met l yX11_mark (Cond.code yX11_mark cX11_mark 3 (some .int) :: GT) ({ frames := 2, cells := 0, slots := 0, locals := 46 } : Room) (PcW [.ref h0, .int i, .int d] dC dI G [(h0, .inr (11, [.ref st, .int (nI N), .int (nI B), .ref rp, .int vrs, .int vrb, .int vhs, .int vca, .int vxs, .int vxb, .ref tp, .int (nI T), .int vfa, .int vbr, .int vba, .int vsp, .int vhe, .int vtk, .int vva, .ref cu, .ref lt, .ref od, .ref th, .ref be, .ref ln, .int (nI S), .ref ma, .int (nI M), .ref ah, .ref bh, .ref ik, .ref la, .ref lg, .ref ce, .int vto])), (ma, .inl (G 0, 12, .inl fma))] sz) (va_Qi (fun (r : Int32) (u : Nat × (Nat → Int32)) => match u with | (oM, oma) => (r = if ((0 ≤ i.toInt ∧ i.toInt < ((N : Nat) : Int)) ∧ 0 ≤ d.toInt ∧ d.toInt ≤ 9) then (if M < 6 then nI (M + 1) else -3) else -1) ∧ (oM = (if ((0 ≤ i.toInt ∧ i.toInt < ((N : Nat) : Int)) ∧ 0 ≤ d.toInt ∧ d.toInt ≤ 9) ∧ M < 6 then M + 1 else M) ∧ oM ≤ 6) ∧ oma = (if ((0 ≤ i.toInt ∧ i.toInt < ((N : Nat) : Int)) ∧ 0 ≤ d.toInt ∧ d.toInt ≤ 9) ∧ M < 6 then upd (upd fma (2 * M) i) (2 * M + 1) d else fma)) (fun (u : Nat × (Nat → Int32)) (t : State) => match u with | (oM, oma) => va_P (dC, dI) vwCl [(h0, .inr (11, [.ref st, .int (nI N), .int (nI B), .ref rp, .int vrs, .int vrb, .int vhs, .int vca, .int vxs, .int vxb, .ref tp, .int (nI T), .int vfa, .int vbr, .int vba, .int vsp, .int vhe, .int vtk, .int vva, .ref cu, .ref lt, .ref od, .ref th, .ref be, .ref ln, .int (nI S), .ref ma, .int (nI oM), .ref ah, .ref bh, .ref ik, .ref la, .ref lg, .ref ce, .int vto])), (ma, .inl (G 0, 12, .inl oma))] t.heap ∧ va_D (va_A [(h0, .inr (11, [.ref st, .int (nI N), .int (nI B), .ref rp, .int vrs, .int vrb, .int vhs, .int vca, .int vxs, .int vxb, .ref tp, .int (nI T), .int vfa, .int vbr, .int vba, .int vsp, .int vhe, .int vtk, .int vva, .ref cu, .ref lt, .ref od, .ref th, .ref be, .ref ln, .int (nI S), .ref ma, .int (nI M), .ref ah, .ref bh, .ref ik, .ref la, .ref lg, .ref ce, .int vto])), (ma, .inl (G 0, 12, .inl fma))] sz) [(h0, .inr (11, [.ref st, .int (nI N), .int (nI B), .ref rp, .int vrs, .int vrb, .int vhs, .int vca, .int vxs, .int vxb, .ref tp, .int (nI T), .int vfa, .int vbr, .int vba, .int vsp, .int vhe, .int vtk, .int vva, .ref cu, .ref lt, .ref od, .ref th, .ref be, .ref ln, .int (nI S), .ref ma, .int (nI oM), .ref ah, .ref bh, .ref ik, .ref la, .ref lg, .ref ce, .int vto])), (ma, .inl (G 0, 12, .inl oma))]) (va_A [(h0, .inr (11, [.ref st, .int (nI N), .int (nI B), .ref rp, .int vrs, .int vrb, .int vhs, .int vca, .int vxs, .int vxb, .ref tp, .int (nI T), .int vfa, .int vbr, .int vba, .int vsp, .int vhe, .int vtk, .int vva, .ref cu, .ref lt, .ref od, .ref th, .ref be, .ref ln, .int (nI S), .ref ma, .int (nI M), .ref ah, .ref bh, .ref ik, .ref la, .ref lg, .ref ce, .int vto])), (ma, .inl (G 0, 12, .inl fma))] sz)) 0 0 (va_A [(h0, .inr (11, [.ref st, .int (nI N), .int (nI B), .ref rp, .int vrs, .int vrb, .int vhs, .int vca, .int vxs, .int vxb, .ref tp, .int (nI T), .int vfa, .int vbr, .int vba, .int vsp, .int vhe, .int vtk, .int vva, .ref cu, .ref lt, .ref od, .ref th, .ref be, .ref ln, .int (nI S), .ref ma, .int (nI M), .ref ah, .ref bh, .ref ik, .ref la, .ref lg, .ref ce, .int vto])), (ma, .inl (G 0, 12, .inl fma))] sz) := by
  have hB_ := hB
  have hM_ := hM
  have hT_ := hT
  have tn2225_ : nIT N := fun _ => nI_toInt (by omega)
  have tn2226_ : nIT B := fun _ => nI_toInt (by omega)
  have tn2227_ : nIT T := fun _ => nI_toInt (by omega)
  have tn2228_ : nIT S := fun _ => nI_toInt (by omega)
  have tn2229_ : nIT M := fun _ => nI_toInt (by omega)
  refine Met.ofW (cc := cX11_mark) (maxL := 3) (ret := (some .int)) (by decide) rfl ?_
  intro p e s m args below meth c s₁ Bd hml hv
  obtain ⟨rfl, hsz, hP, hK, hD0⟩ := hv
  have hx := Bd.exec
  have hb := Bd.bytes
  have hr := Bd.returns
  have hg : ∀ w ∈ GT, w.before ([.ref h0, .int i, .int d] : List Value).toArray s = true := fun w h => atoms_spec (ws := Cond.code yX11_mark cX11_mark 3 (some .int) :: GT) Bd.pre w (List.mem_cons_of_mem _ h)
  have hown : s.vm.findClass RX11 = some m.cls := findClass_of_methodNamed Bd.named
  have hlocks := Bd.notSynchronized
  subst hsz
  have hD := hD0.self (sz := s.heap.size)
  generalize hAe : va_A [(h0, .inr (11, [.ref st, .int (nI N), .int (nI B), .ref rp, .int vrs, .int vrb, .int vhs, .int vca, .int vxs, .int vxb, .ref tp, .int (nI T), .int vfa, .int vbr, .int vba, .int vsp, .int vhe, .int vtk, .int vva, .ref cu, .ref lt, .ref od, .ref th, .ref be, .ref ln, .int (nI S), .ref ma, .int (nI M), .ref ah, .ref bh, .ref ik, .ref la, .ref lg, .ref ce, .int vto])), (ma, .inl (G 0, 12, .inl fma))] s.heap.size = A at hD ⊢
  have hA : ∀ q : Nat, s.heap.size ≤ q → A q := fun q h => by rw [← hAe]; exact Or.inr h
  have hS : va_S A s.heap s.heap [] := va_S.rf
  have hl := lv_entry ([.ref h0, .int i, .int d]) (n := 3) (Nat.le_of_ble_eq_true rfl)
  rw [lg_entry_eq]
  generalize (lg_sl ([.ref h0, .int i, .int d]) ++ List.replicate (3 - (lg_sl ([.ref h0, .int i, .int d])).length) Slot.unset).toArray = ls at hl ⊢
  have hl : lv_has ls 3 [(0, .ref h0), (1, .int i), (2, .int d)] := hl
  refine lv_aload_n hx hb dX11_mark_0 rfl (lv_at hl 0 rfl) ?_
  refine lv_iload_n hx hb dX11_mark_1 rfl (lv_at hl 1 rfl) ?_
  have hPc := hP.sub (ws' := [(h0, .inr (11, [.ref st, .int (nI N), .int (nI B), .ref rp, .int vrs, .int vrb, .int vhs, .int vca, .int vxs, .int vxb, .ref tp, .int (nI T), .int vfa, .int vbr, .int vba, .int vsp, .int vhe, .int vtk, .int vva, .ref cu, .ref lt, .ref od, .ref th, .ref be, .ref ln, .int (nI S), .ref ma, .int (nI M), .ref ah, .ref bh, .ref ik, .ref la, .ref lg, .ref ce, .int vto]))]) [0] rfl
  refine va_calli (va_runV (As := [.int i]) (rest := []) ⟨hx, hb, hml, hown, hg⟩ (c_X11_isStretch l dC dI G _ h0 st N B rp tp T cu lt od th be ln S ma M ah bh ik la lg ce i vrs vrb vhs vca vxs vxb vfa vbr vba vsp vhe vtk vva vto hN hB_ hT_ hS0 hM_) (kwV hg mfX11_isStretch wt_1052 ⟨Nat.le_of_ble_eq_true rfl, Nat.le_of_ble_eq_true rfl⟩) (preVR hK hPc (ci := 11) (r := (RX11, TX11, 35)) rfl rfl) rfl rfl hl.1 rfl (lv_room (Nat.le_of_ble_eq_true rfl)) dX11_mark_2 ⟨Nat.le_of_ble_eq_true rfl, Nat.le_of_ble_eq_true rfl⟩) hS (fun q h1 h2 => absurd h2 (Nat.not_le.mpr h1)) (fun q h => hA q (Nat.le_trans hS.1 h)) (fun r1 ur1 t H1 locs ht hvm w2 hB hz1 hk1 hS => ?_)
  have hP := keepR hP hk1
  obtain ⟨w2, w2x⟩ := w2
  try simp only [l_ii, show (0 : Int32).toInt = 0 from by decide] at w2
  try rw [show (nI (N)).toInt = ((N : Nat) : Int) from tn2225_ ()] at w2
  subst w2
  refine lv_if_eq (tgt := 20) hx hb dX11_mark_5 rfl (fun c3 => ?_) (fun c3 => ?_)
  · skip
    have b4 := if10_n c3
    refine lv_iconst (v := (-1)) hx hb dX11_mark_20 rfl ?_
    have hpost : ((-1) : Int32) = if ((0 ≤ i.toInt ∧ i.toInt < ((N : Nat) : Int)) ∧ 0 ≤ d.toInt ∧ d.toInt ≤ 9) then (if M < 6 then nI (M + 1) else -3) else -1 := by
      have t_b4 := b4
      have t_n0 : (nI N).toInt = (N : Int) := tn2225_ ()
      have t_n1 : (nI B).toInt = (B : Int) := tn2226_ ()
      have t_n2 : (nI T).toInt = (T : Int) := tn2227_ ()
      have t_n3 : (nI S).toInt = (S : Int) := tn2228_ ()
      have t_n4 : (nI M).toInt = (M : Int) := tn2229_ ()
      have z0 : (0 : Int32).toInt = 0 := qI_0
      have z1 : (1 : Int32).toInt = 1 := qI_1
      have z2 : (2 : Int32).toInt = 2 := qI_2
      have z3 : (3 : Int32).toInt = 3 := qI_3
      have z5 : (5 : Int32).toInt = 5 := qI_5
      have z9 : (9 : Int32).toInt = 9 := qI_9
      have z20 : (20 : Int32).toInt = 20 := qI_20
      have z4 : (-4 : Int32).toInt = -4 := (by decide)
      have z10 : (10 : Int32).toInt = 10 := qI_10
      rw [if_neg (by omega)]
    obtain ⟨hP9, hD9⟩ := va_sub2 (ws' := [(h0, .inr (11, [.ref st, .int (nI N), .int (nI B), .ref rp, .int vrs, .int vrb, .int vhs, .int vca, .int vxs, .int vxb, .ref tp, .int (nI T), .int vfa, .int vbr, .int vba, .int vsp, .int vhe, .int vtk, .int vva, .ref cu, .ref lt, .ref od, .ref th, .ref be, .ref ln, .int (nI S), .ref ma, .int (nI M), .ref ah, .ref bh, .ref ik, .ref la, .ref lg, .ref ce, .int vto])), (ma, .inl (G 0, 12, .inl fma))]) hP hD [0, 1] (by decide +kernel) rfl
    refine W.widen (k := 0) (n := 0) (Nat.le_of_ble_eq_true rfl) (Nat.le_of_ble_eq_true rfl) ?_
    exact W.iret (v := (-1)) hx hb hr (fun t ht hW => ⟨⟨(-1), (M, fma), rfl, ⟨hpost, ⟨(by have t_b4 := b4; have tnb_ := nib5 tn2225_ tn2226_ tn2227_ tn2228_ tn2229_; have tqz_ := qz46_; have z4 : (-4 : Int32).toInt = -4 := (by decide); have z10 : (10 : Int32).toInt = 10 := qI_10; refine ⟨?_, by omega⟩; first | (rw [if_neg (by omega)]; done) | (rw [if_pos ⟨by omega, by omega⟩]; done)), (by have t_b4 := b4; have tnb_ := nib5 tn2225_ tn2226_ tn2227_ tn2228_ tn2229_; have tqz_ := qz46_; have z4 : (-4 : Int32).toInt = -4 := (by decide); have z10 : (10 : Int32).toInt = 10 := qI_10; first | (rw [if_neg (by omega)]; done) | (rw [if_pos ⟨by omega, by omega⟩]; done))⟩⟩, ⟨by rw [ht]; exact hP9, hD9⟩⟩, hS.F ht⟩) hS.2.2 dX11_mark_21
  · skip
    have b5 := if10_p c3
    refine lv_iload_n hx hb dX11_mark_8 rfl (lv_at hl 2 rfl) ?_
    refine lv_i2l (v := d.toInt64) hx hb dX11_mark_9 rfl ?_
    refine lv_lconst (v := 0) hx hb dX11_mark_10 (by decide) ?_
    refine lv_ldc2 (v := 9) hx hb hown (hg _ wt_1069) dX11_mark_11 ?_
    have hPc := hP.sub (ws' := []) [] rfl
    refine va_calli (va_runS (As := [.long d.toInt64, .long 0, .long 9]) (rest := []) ⟨hx, hb, hml, hown, hg⟩ (c_X11_in l dC dI G _ d.toInt64 0 9) (kwS hg mfX11_in wt_992 ⟨Nat.le_of_ble_eq_true rfl, Nat.le_of_ble_eq_true rfl⟩) (preSR hK hPc) rfl rfl hl.1 rfl (lv_room (Nat.le_of_ble_eq_true rfl)) dX11_mark_14 ⟨Nat.le_of_ble_eq_true rfl, Nat.le_of_ble_eq_true rfl⟩) hS (fun q h1 h2 => absurd h2 (Nat.not_le.mpr h1)) (fun q h => hA q (Nat.le_trans hS.1 h)) (fun r6 ur6 t H1 locs ht hvm w7 hB hz1 hk1 hS => ?_)
    have hP := keepR hP hk1
    obtain ⟨w7, w7x⟩ := w7
    try simp only [l_ii, show (0 : Int64).toInt = 0 from by decide, show (9 : Int64).toInt = 9 from by decide] at w7
    subst w7
    refine lv_if_ne (tgt := 22) hx hb dX11_mark_17 rfl (fun c8 => ?_) (fun c8 => ?_)
    · skip
      have b9 := if10_p c8
      refine lv_aload_n hx hb dX11_mark_22 rfl (lv_at hl 0 rfl) ?_
      refine va_get (D := (dC, dI)) (ci := 11) (v := .int (nI M)) (C := RX11) (T := TX11) (N := 35) hx hb hg inG11 hown hK.1 hP 0 rfl rfl 27 (Nat.le_of_ble_eq_true rfl) (hg _ wt_905) (fun _ h9 => h9) rfl dX11_mark_23 ?_
      refine lv_bipush (v := 6) hx hb dX11_mark_26 rfl ?_
      refine lv_icmp_ne (tgt := 34) hx hb dX11_mark_28 rfl (fun c10 => ?_) (fun c10 => ?_)
      · skip
        have n11 : M ≠ 6 := by have t := neI c10; rw [show (nI (M)).toInt = ((M : Nat) : Int) from tn2229_ ()] at t; have : (6 : Int32).toInt = 6 := qI_6; omega
        refine lv_aload_n hx hb dX11_mark_34 rfl (lv_at hl 0 rfl) ?_
        refine va_get (D := (dC, dI)) (ci := 11) (v := .ref ma) (C := RX11) (T := TX11) (N := 35) hx hb hg inG11 hown hK.1 hP 0 rfl rfl 26 (Nat.le_of_ble_eq_true rfl) (hg _ wt_904) (fun _ h9 => h9) rfl dX11_mark_35 ?_
        refine lv_iconst (v := 2) hx hb dX11_mark_38 rfl ?_
        refine lv_aload_n hx hb dX11_mark_39 rfl (lv_at hl 0 rfl) ?_
        refine va_get (D := (dC, dI)) (ci := 11) (v := .int (nI M)) (C := RX11) (T := TX11) (N := 35) hx hb hg inG11 hown hK.1 hP 0 rfl rfl 27 (Nat.le_of_ble_eq_true rfl) (hg _ wt_905) (fun _ h9 => h9) rfl dX11_mark_40 ?_
        refine lv_imul hx hb dX11_mark_43 ?_
        refine lv_cg (y := nI (2 * M)) (by rw [show (2 : Int32) = nI 2 from rfl]; exact pk_mul _ _) ?_
        refine lv_iload_n hx hb dX11_mark_44 rfl (lv_at hl 1 rfl) ?_
        refine va_iast hx hb hK.1 hP hD hS 1 0 rfl rfl (vp_in_nI (by first | omega | (have t_b5 := b5; have t_b9 := b9; have t_n11 := n11; have tnb_ := nib5 tn2225_ tn2226_ tn2227_ tn2228_ tn2229_; omega)) (by decide)) dX11_mark_45 (fun H locs hP hD hS => ?_)
        rw [nI_clamp (by omega)] at hP hD
        refine lv_aload_n hx hb dX11_mark_46 rfl (lv_at hl 0 rfl) ?_
        refine va_get (D := (dC, dI)) (ci := 11) (v := .ref ma) (C := RX11) (T := TX11) (N := 35) hx hb hg inG11 hown hK.1 hP 0 rfl rfl 26 (Nat.le_of_ble_eq_true rfl) (hg _ wt_904) (fun _ h9 => h9) rfl dX11_mark_47 ?_
        refine lv_iconst (v := 2) hx hb dX11_mark_50 rfl ?_
        refine lv_aload_n hx hb dX11_mark_51 rfl (lv_at hl 0 rfl) ?_
        refine va_get (D := (dC, dI)) (ci := 11) (v := .int (nI M)) (C := RX11) (T := TX11) (N := 35) hx hb hg inG11 hown hK.1 hP 0 rfl rfl 27 (Nat.le_of_ble_eq_true rfl) (hg _ wt_905) (fun _ h9 => h9) rfl dX11_mark_52 ?_
        refine lv_imul hx hb dX11_mark_55 ?_
        refine lv_cg (y := nI (2 * M)) (by rw [show (2 : Int32) = nI 2 from rfl]; exact pk_mul _ _) ?_
        refine lv_iconst (v := 1) hx hb dX11_mark_56 rfl ?_
        refine lv_iadd hx hb dX11_mark_57 ?_
        refine lv_cg (y := nI ((2 * M) + 1)) (by rw [show (1 : Int32) = nI 1 from rfl]; exact nI_add _ _) ?_
        refine lv_iload_n hx hb dX11_mark_58 rfl (lv_at hl 2 rfl) ?_
        refine va_iast hx hb hK.1 hP hD hS 1 0 rfl rfl (vp_in_nI (by first | omega | (have t_b5 := b5; have t_b9 := b9; have t_n11 := n11; have tnb_ := nib5 tn2225_ tn2226_ tn2227_ tn2228_ tn2229_; omega)) (by decide)) dX11_mark_59 (fun H locs hP hD hS => ?_)
        rw [nI_clamp (by omega)] at hP hD
        refine lv_aload_n hx hb dX11_mark_60 rfl (lv_at hl 0 rfl) ?_
        refine lv_dup hx hb dX11_mark_61 rfl ?_
        refine va_get (D := (dC, dI)) (ci := 11) (v := .int (nI M)) (C := RX11) (T := TX11) (N := 35) hx hb hg inG11 hown hK.1 hP 0 rfl rfl 27 (Nat.le_of_ble_eq_true rfl) (hg _ wt_905) (fun _ h9 => h9) rfl dX11_mark_62 ?_
        refine lv_iconst (v := 1) hx hb dX11_mark_65 rfl ?_
        refine lv_iadd hx hb dX11_mark_66 ?_
        refine lv_cg (y := nI (M + 1)) (by rw [show (1 : Int32) = nI 1 from rfl]; exact nI_add _ _) ?_
        refine va_put (D := (dC, dI)) (ci := 11) (v := .int (nI (M + 1))) (ty := .int) (C := RX11) (T := TX11) (N := 35) hx hb hg inG11 tyX11 tyX11_ok nmX11 hown hK.1 hP hD hS 0 rfl rfl 27 (Nat.le_of_ble_eq_true rfl) (hg _ wt_905) (fun _ h9 => h9) rfl (by decide +kernel) rfl rfl (Nat.le_of_ble_eq_true rfl) dX11_mark_67 (fun H locs hP hD hS => ?_)
        refine lv_aload_n hx hb dX11_mark_70 rfl (lv_at hl 0 rfl) ?_
        refine va_get (D := (dC, dI)) (ci := 11) (v := .int (nI (M + 1))) (C := RX11) (T := TX11) (N := 35) hx hb hg inG11 hown hK.1 hP 0 rfl rfl 27 (Nat.le_of_ble_eq_true rfl) (hg _ wt_905) (fun _ h9 => h9) rfl dX11_mark_71 ?_
        have hpost : (nI (M + 1) : Int32) = if ((0 ≤ i.toInt ∧ i.toInt < ((N : Nat) : Int)) ∧ 0 ≤ d.toInt ∧ d.toInt ≤ 9) then (if M < 6 then nI (M + 1) else -3) else -1 := by
          have t_b5 := b5
          have t_b9 := b9
          have t_n11 := n11
          have t_n0 : (nI N).toInt = (N : Int) := tn2225_ ()
          have t_n1 : (nI B).toInt = (B : Int) := tn2226_ ()
          have t_n2 : (nI T).toInt = (T : Int) := tn2227_ ()
          have t_n3 : (nI S).toInt = (S : Int) := tn2228_ ()
          have t_n4 : (nI M).toInt = (M : Int) := tn2229_ ()
          have z0 : (0 : Int32).toInt = 0 := qI_0
          have z1 : (1 : Int32).toInt = 1 := qI_1
          have z2 : (2 : Int32).toInt = 2 := qI_2
          have z3 : (3 : Int32).toInt = 3 := qI_3
          have z5 : (5 : Int32).toInt = 5 := qI_5
          have z9 : (9 : Int32).toInt = 9 := qI_9
          have z20 : (20 : Int32).toInt = 20 := qI_20
          have z4 : (-4 : Int32).toInt = -4 := (by decide)
          have z10 : (10 : Int32).toInt = 10 := qI_10
          rw [if_pos (by omega), if_pos (by omega)]
        obtain ⟨hP9, hD9⟩ := va_sub2 (ws' := [(h0, .inr (11, [.ref st, .int (nI N), .int (nI B), .ref rp, .int vrs, .int vrb, .int vhs, .int vca, .int vxs, .int vxb, .ref tp, .int (nI T), .int vfa, .int vbr, .int vba, .int vsp, .int vhe, .int vtk, .int vva, .ref cu, .ref lt, .ref od, .ref th, .ref be, .ref ln, .int (nI S), .ref ma, .int (nI (M + 1)), .ref ah, .ref bh, .ref ik, .ref la, .ref lg, .ref ce, .int vto])), (ma, .inl (G 0, 12, .inl (upd (upd fma (2 * M) i) ((2 * M) + 1) d)))]) hP hD [0, 1] (by decide +kernel) rfl
        refine W.widen (k := 0) (n := 0) (Nat.le_of_ble_eq_true rfl) (Nat.le_of_ble_eq_true rfl) ?_
        exact W.iret (v := nI (M + 1)) hx hb hr (fun t ht hW => ⟨⟨nI (M + 1), ((M + 1), (upd (upd fma (2 * M) i) ((2 * M) + 1) d)), rfl, ⟨hpost, ⟨(by have t_b5 := b5; have t_b9 := b9; have t_n11 := n11; have tnb_ := nib5 tn2225_ tn2226_ tn2227_ tn2228_ tn2229_; have tqz_ := qz46_; have z4 : (-4 : Int32).toInt = -4 := (by decide); have z10 : (10 : Int32).toInt = 10 := qI_10; refine ⟨?_, by omega⟩; first | (rw [if_neg (by omega)]; done) | (rw [if_pos ⟨by omega, by omega⟩]; done)), (by have t_b5 := b5; have t_b9 := b9; have t_n11 := n11; have tnb_ := nib5 tn2225_ tn2226_ tn2227_ tn2228_ tn2229_; have tqz_ := qz46_; have z4 : (-4 : Int32).toInt = -4 := (by decide); have z10 : (10 : Int32).toInt = 10 := qI_10; first | (rw [if_neg (by omega)]; done) | (rw [if_pos ⟨by omega, by omega⟩]; done))⟩⟩, ⟨by rw [ht]; exact hP9, hD9⟩⟩, hS.F ht⟩) hS.2.2 dX11_mark_74
      · skip
        have n12 : M = 6 := by have t := eqI c10; rw [show (nI (M)).toInt = ((M : Nat) : Int) from tn2229_ ()] at t; have : (6 : Int32).toInt = 6 := qI_6; omega
        refine lv_bipush (v := (-3)) hx hb dX11_mark_31 rfl ?_
        have hpost : ((-3) : Int32) = if ((0 ≤ i.toInt ∧ i.toInt < ((N : Nat) : Int)) ∧ 0 ≤ d.toInt ∧ d.toInt ≤ 9) then (if M < 6 then nI (M + 1) else -3) else -1 := by
          have t_b5 := b5
          have t_b9 := b9
          have t_n12 := n12
          have t_n0 : (nI N).toInt = (N : Int) := tn2225_ ()
          have t_n1 : (nI B).toInt = (B : Int) := tn2226_ ()
          have t_n2 : (nI T).toInt = (T : Int) := tn2227_ ()
          have t_n3 : (nI S).toInt = (S : Int) := tn2228_ ()
          have t_n4 : (nI M).toInt = (M : Int) := tn2229_ ()
          have z0 : (0 : Int32).toInt = 0 := qI_0
          have z1 : (1 : Int32).toInt = 1 := qI_1
          have z2 : (2 : Int32).toInt = 2 := qI_2
          have z3 : (3 : Int32).toInt = 3 := qI_3
          have z5 : (5 : Int32).toInt = 5 := qI_5
          have z9 : (9 : Int32).toInt = 9 := qI_9
          have z20 : (20 : Int32).toInt = 20 := qI_20
          have z4 : (-4 : Int32).toInt = -4 := (by decide)
          have z10 : (10 : Int32).toInt = 10 := qI_10
          rw [if_pos (by omega), if_neg (by omega)]
        obtain ⟨hP9, hD9⟩ := va_sub2 (ws' := [(h0, .inr (11, [.ref st, .int (nI N), .int (nI B), .ref rp, .int vrs, .int vrb, .int vhs, .int vca, .int vxs, .int vxb, .ref tp, .int (nI T), .int vfa, .int vbr, .int vba, .int vsp, .int vhe, .int vtk, .int vva, .ref cu, .ref lt, .ref od, .ref th, .ref be, .ref ln, .int (nI S), .ref ma, .int (nI M), .ref ah, .ref bh, .ref ik, .ref la, .ref lg, .ref ce, .int vto])), (ma, .inl (G 0, 12, .inl fma))]) hP hD [0, 1] (by decide +kernel) rfl
        refine W.widen (k := 0) (n := 0) (Nat.le_of_ble_eq_true rfl) (Nat.le_of_ble_eq_true rfl) ?_
        exact W.iret (v := (-3)) hx hb hr (fun t ht hW => ⟨⟨(-3), (M, fma), rfl, ⟨hpost, ⟨(by have t_b5 := b5; have t_b9 := b9; have t_n12 := n12; have tnb_ := nib5 tn2225_ tn2226_ tn2227_ tn2228_ tn2229_; have tqz_ := qz46_; have z4 : (-4 : Int32).toInt = -4 := (by decide); have z10 : (10 : Int32).toInt = 10 := qI_10; refine ⟨?_, by omega⟩; first | (rw [if_neg (by omega)]; done) | (rw [if_pos ⟨by omega, by omega⟩]; done)), (by have t_b5 := b5; have t_b9 := b9; have t_n12 := n12; have tnb_ := nib5 tn2225_ tn2226_ tn2227_ tn2228_ tn2229_; have tqz_ := qz46_; have z4 : (-4 : Int32).toInt = -4 := (by decide); have z10 : (10 : Int32).toInt = 10 := qI_10; first | (rw [if_neg (by omega)]; done) | (rw [if_pos ⟨by omega, by omega⟩]; done))⟩⟩, ⟨by rw [ht]; exact hP9, hD9⟩⟩, hS.F ht⟩) hS.2.2 dX11_mark_33
    · skip
      have b13 := if10_n c8
      refine lv_iconst (v := (-1)) hx hb dX11_mark_20 rfl ?_
      have hpost : ((-1) : Int32) = if ((0 ≤ i.toInt ∧ i.toInt < ((N : Nat) : Int)) ∧ 0 ≤ d.toInt ∧ d.toInt ≤ 9) then (if M < 6 then nI (M + 1) else -3) else -1 := by
        have t_b5 := b5
        have t_b13 := b13
        have t_n0 : (nI N).toInt = (N : Int) := tn2225_ ()
        have t_n1 : (nI B).toInt = (B : Int) := tn2226_ ()
        have t_n2 : (nI T).toInt = (T : Int) := tn2227_ ()
        have t_n3 : (nI S).toInt = (S : Int) := tn2228_ ()
        have t_n4 : (nI M).toInt = (M : Int) := tn2229_ ()
        have z0 : (0 : Int32).toInt = 0 := qI_0
        have z1 : (1 : Int32).toInt = 1 := qI_1
        have z2 : (2 : Int32).toInt = 2 := qI_2
        have z3 : (3 : Int32).toInt = 3 := qI_3
        have z5 : (5 : Int32).toInt = 5 := qI_5
        have z9 : (9 : Int32).toInt = 9 := qI_9
        have z20 : (20 : Int32).toInt = 20 := qI_20
        have z4 : (-4 : Int32).toInt = -4 := (by decide)
        have z10 : (10 : Int32).toInt = 10 := qI_10
        rw [if_neg (by omega)]
      obtain ⟨hP9, hD9⟩ := va_sub2 (ws' := [(h0, .inr (11, [.ref st, .int (nI N), .int (nI B), .ref rp, .int vrs, .int vrb, .int vhs, .int vca, .int vxs, .int vxb, .ref tp, .int (nI T), .int vfa, .int vbr, .int vba, .int vsp, .int vhe, .int vtk, .int vva, .ref cu, .ref lt, .ref od, .ref th, .ref be, .ref ln, .int (nI S), .ref ma, .int (nI M), .ref ah, .ref bh, .ref ik, .ref la, .ref lg, .ref ce, .int vto])), (ma, .inl (G 0, 12, .inl fma))]) hP hD [0, 1] (by decide +kernel) rfl
      refine W.widen (k := 0) (n := 0) (Nat.le_of_ble_eq_true rfl) (Nat.le_of_ble_eq_true rfl) ?_
      exact W.iret (v := (-1)) hx hb hr (fun t ht hW => ⟨⟨(-1), (M, fma), rfl, ⟨hpost, ⟨(by have t_b5 := b5; have t_b13 := b13; have tnb_ := nib5 tn2225_ tn2226_ tn2227_ tn2228_ tn2229_; have tqz_ := qz46_; have z4 : (-4 : Int32).toInt = -4 := (by decide); have z10 : (10 : Int32).toInt = 10 := qI_10; refine ⟨?_, by omega⟩; first | (rw [if_neg (by omega)]; done) | (rw [if_pos ⟨by omega, by omega⟩]; done)), (by have t_b5 := b5; have t_b13 := b13; have tnb_ := nib5 tn2225_ tn2226_ tn2227_ tn2228_ tn2229_; have tqz_ := qz46_; have z4 : (-4 : Int32).toInt = -4 := (by decide); have z10 : (10 : Int32).toInt = 10 := qI_10; first | (rw [if_neg (by omega)]; done) | (rw [if_pos ⟨by omega, by omega⟩]; done))⟩⟩, ⟨by rw [ht]; exact hP9, hD9⟩⟩, hS.F ht⟩) hS.2.2 dX11_mark_21

-- a drop, and then a stretch: the same as both at once
-- Euclid
def sdN (st : Nat → Int32) : Nat := (st 48 + 5).toNatClampNeg
theorem sdN_ok {st : Nat → Int32} (h : okS 48 (st 48)) : st 48 + 5 = nI (sdN st) ∧ 1 ≤ sdN st ∧ sdN st ≤ 9 := by
  obtain ⟨k, e, h1, h2⟩ := start_nat h
  have e2 : sdN st = k := by
    unfold sdN
    rw [e, nI_clamp (by omega)]
  rw [e2]
  exact ⟨e, h1, h2⟩
def rhO (st : Nat → Int32) (i : Nat) (q : Int32) : Int32 := if i = 0 then rhN st i (st (38 + i)).toNatClampNeg q else rhB st i (st (38 + i - 1)).toNatClampNeg (st (38 + i)).toNatClampNeg q

set_option maxHeartbeats 1000000 in
set_option maxRecDepth 100000 in
theorem c_X11_startNowS (l : Launch) (dC : Nat → ClassId) (dI : Nat → Nat → Nat) (G : Nat → ClassId) (sz : Nat) (h0 st N B rp tp T cu lt od th be ln S ma M ah bh ik la lg ce : Nat) (vrs vrb vhs vca vxs vxb vfa vbr vba vsp vhe vtk vva vto : Int32) (fst : Nat → Int32) (hN : N ≤ 10) (hB : B ≤ 6) (hT : T ≤ 320) (hS0 : S ≤ 8) (hM : M ≤ 6) (hst : OKS fst) : Met l yX11_startNow (Cond.code yX11_startNow cX11_startNow 1 (some .int) :: GT) ({ frames := 0, cells := 0, slots := 0, locals := 0 } : Room) (PcR [.ref h0] dC dI G [(h0, .inr (11, [.ref st, .int (nI N), .int (nI B), .ref rp, .int vrs, .int vrb, .int vhs, .int vca, .int vxs, .int vxb, .ref tp, .int (nI T), .int vfa, .int vbr, .int vba, .int vsp, .int vhe, .int vtk, .int vva, .ref cu, .ref lt, .ref od, .ref th, .ref be, .ref ln, .int (nI S), .ref ma, .int (nI M), .ref ah, .ref bh, .ref ik, .ref la, .ref lg, .ref ce, .int vto])), (st, .inl (G 0, 196, .inl fst))] sz) (va_Qi (fun (r : Int32) (u : Unit) => match u with | _ => (r = nI (sdN fst) ∧ 1 ≤ sdN fst ∧ sdN fst ≤ 9) ∧ True) (fun _ _ => True) (fun q : Nat => sz ≤ q)) 0 0 (fun q : Nat => sz ≤ q) := by
  refine Met.ofW (cc := cX11_startNow) (maxL := 1) (ret := (some .int)) (by decide) rfl ?_
  intro p e s m args below meth c s₁ Bd hml hv
  obtain ⟨rfl, hsz, hP, hK⟩ := hv
  have hx := Bd.exec
  have hb := Bd.bytes
  have hr := Bd.returns
  have hg : ∀ w ∈ GT, w.before ([.ref h0] : List Value).toArray s = true := fun w h => atoms_spec (ws := Cond.code yX11_startNow cX11_startNow 1 (some .int) :: GT) Bd.pre w (List.mem_cons_of_mem _ h)
  have hown : s.vm.findClass RX11 = some m.cls := findClass_of_methodNamed Bd.named
  have hlocks := Bd.notSynchronized
  subst hsz
  have hA : ∀ q : Nat, s.heap.size ≤ q → (fun q : Nat => s.heap.size ≤ q) q := fun _ h => h
  have hS : va_S (fun q : Nat => s.heap.size ≤ q) s.heap s.heap [] := va_S.rf
  have hl := lv_entry ([.ref h0]) (n := 1) (Nat.le_of_ble_eq_true rfl)
  rw [lg_entry_eq]
  generalize (lg_sl ([.ref h0]) ++ List.replicate (1 - (lg_sl ([.ref h0])).length) Slot.unset).toArray = ls at hl ⊢
  have hl : lv_has ls 1 [(0, .ref h0)] := hl
  refine lv_aload_n hx hb dX11_startNow_0 rfl (lv_at hl 0 rfl) ?_
  refine va_get (D := (dC, dI)) (ci := 11) (v := .ref st) (C := RX11) (T := TX11) (N := 35) hx hb hg inG11 hown hK.1 hP 0 rfl rfl 0 (Nat.le_of_ble_eq_true rfl) (hg _ wt_878) (fun _ h9 => h9) rfl dX11_startNow_1 ?_
  refine lv_bipush (v := 48) hx hb dX11_startNow_4 rfl ?_
  refine va_iald hx hb hK.1 hP 1 0 rfl rfl (vp_in_iff.mpr ⟨by decide, by decide⟩) dX11_startNow_6 ?_
  refine lv_cg (y := fst 48) (by rfl) ?_
  refine lv_iconst (v := 5) hx hb dX11_startNow_7 rfl ?_
  refine lv_iadd hx hb dX11_startNow_8 ?_
  have hpost : ((fst 48) + 5 : Int32) = nI (sdN fst) ∧ 1 ≤ sdN fst ∧ sdN fst ≤ 9 := by
    exact sdN_ok (hst 48 (by omega))
  refine W.widen (k := 0) (n := 0) (Nat.le_of_ble_eq_true rfl) (Nat.le_of_ble_eq_true rfl) ?_
  exact W.iret (v := (fst 48) + 5) hx hb hr (fun t ht hW => ⟨⟨(fst 48) + 5, (), rfl, ⟨hpost, trivial⟩, trivial⟩, hS.F ht⟩) hS.2.2 dX11_startNow_9

set_option maxHeartbeats 1000000 in
set_option maxRecDepth 100000 in
theorem c_X11_orderedHarmE (l : Launch) (dC : Nat → ClassId) (dI : Nat → Nat → Nat) (G : Nat → ClassId) (sz : Nat) (h0 i st N B rp tp T cu lt od th be ln S ma M ah bh ik la lg ce : Nat) (q vrs vrb vhs vca vxs vxb vfa vbr vba vsp vhe vtk vva vto : Int32) (fst : Nat → Int32) (hN : N ≤ 10) (hB : B ≤ 6) (hT : T ≤ 320) (hS0 : S ≤ 8) (hM : M ≤ 6) (hi : i < 10) (hst : OKS fst) : Met l yX11_orderedHarm (Cond.code yX11_orderedHarm cX11_orderedHarm 3 (some .int) :: GT) ({ frames := 2, cells := 0, slots := 0, locals := 50 } : Room) (PcR [.ref h0, .int (nI i), .int q] dC dI G [(h0, .inr (11, [.ref st, .int (nI N), .int (nI B), .ref rp, .int vrs, .int vrb, .int vhs, .int vca, .int vxs, .int vxb, .ref tp, .int (nI T), .int vfa, .int vbr, .int vba, .int vsp, .int vhe, .int vtk, .int vva, .ref cu, .ref lt, .ref od, .ref th, .ref be, .ref ln, .int (nI S), .ref ma, .int (nI M), .ref ah, .ref bh, .ref ik, .ref la, .ref lg, .ref ce, .int vto])), (st, .inl (G 0, 196, .inl fst))] sz) (va_Qi (fun (r : Int32) (u : Unit) => match u with | _ => (r = rhO fst i q) ∧ True) (fun _ _ => True) (fun q : Nat => sz ≤ q)) 0 0 (fun q : Nat => sz ≤ q) := by
  have hB_ := hB
  have hM_ := hM
  have hT_ := hT
  have tn2258_ : nIT N := fun _ => nI_toInt (by omega)
  have tn2259_ : nIT B := fun _ => nI_toInt (by omega)
  have tn2260_ : nIT T := fun _ => nI_toInt (by omega)
  have tn2261_ : nIT S := fun _ => nI_toInt (by omega)
  have tn2262_ : nIT M := fun _ => nI_toInt (by omega)
  refine Met.ofW (cc := cX11_orderedHarm) (maxL := 3) (ret := (some .int)) (by decide) rfl ?_
  intro p e s m args below meth c s₁ Bd hml hv
  obtain ⟨rfl, hsz, hP, hK⟩ := hv
  have hx := Bd.exec
  have hb := Bd.bytes
  have hr := Bd.returns
  have hg : ∀ w ∈ GT, w.before ([.ref h0, .int (nI i), .int q] : List Value).toArray s = true := fun w h => atoms_spec (ws := Cond.code yX11_orderedHarm cX11_orderedHarm 3 (some .int) :: GT) Bd.pre w (List.mem_cons_of_mem _ h)
  have hown : s.vm.findClass RX11 = some m.cls := findClass_of_methodNamed Bd.named
  have hlocks := Bd.notSynchronized
  subst hsz
  have hA : ∀ q : Nat, s.heap.size ≤ q → (fun q : Nat => s.heap.size ≤ q) q := fun _ h => h
  have hS : va_S (fun q : Nat => s.heap.size ≤ q) s.heap s.heap [] := va_S.rf
  have hl := lv_entry ([.ref h0, .int (nI i), .int q]) (n := 3) (Nat.le_of_ble_eq_true rfl)
  rw [lg_entry_eq]
  generalize (lg_sl ([.ref h0, .int (nI i), .int q]) ++ List.replicate (3 - (lg_sl ([.ref h0, .int (nI i), .int q])).length) Slot.unset).toArray = ls at hl ⊢
  have hl : lv_has ls 3 [(0, .ref h0), (1, .int (nI i)), (2, .int q)] := hl
  refine lv_aload_n hx hb dX11_orderedHarm_0 rfl (lv_at hl 0 rfl) ?_
  refine lv_iload_n hx hb dX11_orderedHarm_1 rfl (lv_at hl 1 rfl) ?_
  refine lv_iload_n hx hb dX11_orderedHarm_2 rfl (lv_at hl 1 rfl) ?_
  refine lv_if_ne (tgt := 11) hx hb dX11_orderedHarm_3 rfl (fun c1 => ?_) (fun c1 => ?_)
  · skip
    have tn2263_ : nIT i := fun _ => nI_toInt (by first | omega | (have t := neI c1; omega))
    have n2 : i ≠ 0 := by have t := neI c1; rw [show (nI (i)).toInt = ((i : Nat) : Int) from tn2263_ ()] at t; have : (0 : Int32).toInt = 0 := qI_0; omega
    refine lv_aload_n hx hb dX11_orderedHarm_11 rfl (lv_at hl 0 rfl) ?_
    refine va_get (D := (dC, dI)) (ci := 11) (v := .ref st) (C := RX11) (T := TX11) (N := 35) hx hb hg inG11 hown hK.1 hP 0 rfl rfl 0 (Nat.le_of_ble_eq_true rfl) (hg _ wt_878) (fun _ h9 => h9) rfl dX11_orderedHarm_12 ?_
    refine lv_bipush (v := 38) hx hb dX11_orderedHarm_15 rfl ?_
    refine lv_iload_n hx hb dX11_orderedHarm_17 rfl (lv_at hl 1 rfl) ?_
    refine lv_iadd hx hb dX11_orderedHarm_18 ?_
    refine lv_cg (y := nI (38 + i)) (by rw [show (38 : Int32) = nI 38 from rfl]; exact nI_add _ _) ?_
    refine lv_iconst (v := 1) hx hb dX11_orderedHarm_19 rfl ?_
    refine lv_isub hx hb dX11_orderedHarm_20 ?_
    refine lv_cg (y := nI ((38 + i) - 1)) (by rw [show (1 : Int32) = nI 1 from rfl]; exact pk_sub (by have t_n2 := n2; have tnb_ := nib6 tn2263_ tn2258_ tn2259_ tn2260_ tn2261_ tn2262_; omega)) ?_
    refine va_iald hx hb hK.1 hP 1 0 rfl rfl (vp_in_nI (by first | omega | (have t_n2 := n2; have tnb_ := nib6 tn2263_ tn2258_ tn2259_ tn2260_ tn2261_ tn2262_; omega)) (by decide)) dX11_orderedHarm_21 ?_
    refine lv_cg (y := fst ((38 + i) - 1)) (by rw [nI_clamp (by omega)]) ?_
    obtain ⟨o1, ho1, eo1⟩ := ord_nat hst (q := ((38 + i) - 1)) (by omega) (by omega) (by omega)
    refine lv_cg (y := nI o1) eo1 ?_
    refine lv_aload_n hx hb dX11_orderedHarm_22 rfl (lv_at hl 0 rfl) ?_
    refine va_get (D := (dC, dI)) (ci := 11) (v := .ref st) (C := RX11) (T := TX11) (N := 35) hx hb hg inG11 hown hK.1 hP 0 rfl rfl 0 (Nat.le_of_ble_eq_true rfl) (hg _ wt_878) (fun _ h9 => h9) rfl dX11_orderedHarm_23 ?_
    refine lv_bipush (v := 38) hx hb dX11_orderedHarm_26 rfl ?_
    refine lv_iload_n hx hb dX11_orderedHarm_28 rfl (lv_at hl 1 rfl) ?_
    refine lv_iadd hx hb dX11_orderedHarm_29 ?_
    refine lv_cg (y := nI (38 + i)) (by rw [show (38 : Int32) = nI 38 from rfl]; exact nI_add _ _) ?_
    have tn2264_ : nIT o1 := fun _ => nI_toInt (by first | omega | (have t_n2 := n2; have t_ho1 := ho1; omega))
    refine va_iald hx hb hK.1 hP 1 0 rfl rfl (vp_in_nI (by first | omega | (have t_n2 := n2; have t_ho1 := ho1; have tnb_ := nib7 tn2263_ tn2258_ tn2259_ tn2260_ tn2261_ tn2262_ tn2264_; omega)) (by decide)) dX11_orderedHarm_30 ?_
    refine lv_cg (y := fst (38 + i)) (by rw [nI_clamp (by omega)]) ?_
    obtain ⟨o2, ho2, eo2⟩ := ord_nat hst (q := (38 + i)) (by omega) (by omega) (by omega)
    refine lv_cg (y := nI o2) eo2 ?_
    refine lv_iload_n hx hb dX11_orderedHarm_31 rfl (lv_at hl 2 rfl) ?_
    have hPc := hP.sub (ws' := [(h0, .inr (11, [.ref st, .int (nI N), .int (nI B), .ref rp, .int vrs, .int vrb, .int vhs, .int vca, .int vxs, .int vxb, .ref tp, .int (nI T), .int vfa, .int vbr, .int vba, .int vsp, .int vhe, .int vtk, .int vva, .ref cu, .ref lt, .ref od, .ref th, .ref be, .ref ln, .int (nI S), .ref ma, .int (nI M), .ref ah, .ref bh, .ref ik, .ref la, .ref lg, .ref ce, .int vto])), (st, .inl (G 0, 196, .inl fst))]) [0, 1] rfl
    have tn2265_ : nIT o2 := fun _ => nI_toInt (by first | omega | (have t_n2 := n2; have t_ho1 := ho1; have t_ho2 := ho2; omega))
    refine va_calli (va_runV (As := [.int (nI i), .int (nI o1), .int (nI o2), .int q]) (rest := []) ⟨hx, hb, hml, hown, hg⟩ (c_X11_harmOfB l dC dI G _ h0 i o1 o2 st N B rp tp T cu lt od th be ln S ma M ah bh ik la lg ce q vrs vrb vhs vca vxs vxb vfa vbr vba vsp vhe vtk vva vto fst hN hB_ hT_ hS0 hM_ hi (by first | omega | (have t_n2 := n2; have t_ho1 := ho1; have t_ho2 := ho2; have tnb_ := nib8 tn2263_ tn2258_ tn2259_ tn2260_ tn2261_ tn2262_ tn2264_ tn2265_; omega)) (by first | omega | (have t_n2 := n2; have t_ho1 := ho1; have t_ho2 := ho2; have tnb_ := nib8 tn2263_ tn2258_ tn2259_ tn2260_ tn2261_ tn2262_ tn2264_ tn2265_; omega))) (kwV hg mfX11_harmOf wt_1106 ⟨Nat.le_of_ble_eq_true rfl, Nat.le_of_ble_eq_true rfl⟩) (preVR hK hPc (ci := 11) (r := (RX11, TX11, 35)) rfl rfl) rfl rfl hl.1 rfl (lv_room (Nat.le_of_ble_eq_true rfl)) dX11_orderedHarm_32 ⟨Nat.le_of_ble_eq_true rfl, Nat.le_of_ble_eq_true rfl⟩) hS (fun q h1 h2 => absurd h2 (Nat.not_le.mpr h1)) (fun q h => hA q (Nat.le_trans hS.1 h)) (fun r3 ur3 t H1 locs ht hvm w4 hB hz1 hk1 hS => ?_)
    have hP := keepR hP hk1
    obtain ⟨w4, w4x⟩ := w4
    subst w4
    have hpost : (rhB fst i o1 o2 q : Int32) = rhO fst i q := by
      have t_n2 := n2
      have t_ho1 := ho1
      have t_ho2 := ho2
      have t_n0 : (nI i).toInt = (i : Int) := tn2263_ ()
      have t_n1 : (nI N).toInt = (N : Int) := tn2258_ ()
      have t_n2 : (nI B).toInt = (B : Int) := tn2259_ ()
      have t_n3 : (nI T).toInt = (T : Int) := tn2260_ ()
      have t_n4 : (nI S).toInt = (S : Int) := tn2261_ ()
      have t_n5 : (nI M).toInt = (M : Int) := tn2262_ ()
      have t_n6 : (nI o1).toInt = (o1 : Int) := tn2264_ ()
      have t_n7 : (nI o2).toInt = (o2 : Int) := tn2265_ ()
      have z0 : (0 : Int32).toInt = 0 := qI_0
      have z1 : (1 : Int32).toInt = 1 := qI_1
      have z2 : (2 : Int32).toInt = 2 := qI_2
      have z3 : (3 : Int32).toInt = 3 := qI_3
      have z5 : (5 : Int32).toInt = 5 := qI_5
      have z9 : (9 : Int32).toInt = 9 := qI_9
      unfold rhO
      first | (rw [if_pos (by omega), eo2, nI_clamp (by omega)]; done) | (rw [if_neg (by omega), eo1, eo2, nI_clamp (by omega), nI_clamp (by omega)]; done)
    refine W.widen (k := 0) (n := 0) (Nat.le_of_ble_eq_true rfl) (Nat.le_of_ble_eq_true rfl) ?_
    exact W.iret (v := rhB fst i o1 o2 q) hx hb hr (fun t ht hW => ⟨⟨rhB fst i o1 o2 q, (), rfl, ⟨hpost, trivial⟩, trivial⟩, hS.F ht⟩) hS.2.2 dX11_orderedHarm_35
  · skip
    have tn2266_ : nIT i := fun _ => nI_toInt (by first | omega | (have t := eqI c1; omega))
    have n5 : i = 0 := by have t := eqI c1; rw [show (nI (i)).toInt = ((i : Nat) : Int) from tn2266_ ()] at t; have : (0 : Int32).toInt = 0 := qI_0; omega
    refine lv_bipush (v := (-4)) hx hb dX11_orderedHarm_6 rfl ?_
    refine lv_goto (tgt := 22) hx hb dX11_orderedHarm_8 rfl ?_
    refine lv_aload_n hx hb dX11_orderedHarm_22 rfl (lv_at hl 0 rfl) ?_
    refine va_get (D := (dC, dI)) (ci := 11) (v := .ref st) (C := RX11) (T := TX11) (N := 35) hx hb hg inG11 hown hK.1 hP 0 rfl rfl 0 (Nat.le_of_ble_eq_true rfl) (hg _ wt_878) (fun _ h9 => h9) rfl dX11_orderedHarm_23 ?_
    refine lv_bipush (v := 38) hx hb dX11_orderedHarm_26 rfl ?_
    refine lv_iload_n hx hb dX11_orderedHarm_28 rfl (lv_at hl 1 rfl) ?_
    refine lv_iadd hx hb dX11_orderedHarm_29 ?_
    refine lv_cg (y := nI (38 + i)) (by rw [show (38 : Int32) = nI 38 from rfl]; exact nI_add _ _) ?_
    refine va_iald hx hb hK.1 hP 1 0 rfl rfl (vp_in_nI (by first | omega | (have t_n5 := n5; have tnb_ := nib6 tn2266_ tn2258_ tn2259_ tn2260_ tn2261_ tn2262_; omega)) (by decide)) dX11_orderedHarm_30 ?_
    refine lv_cg (y := fst (38 + i)) (by rw [nI_clamp (by omega)]) ?_
    obtain ⟨o2, ho2, eo2⟩ := ord_nat hst (q := (38 + i)) (by omega) (by omega) (by omega)
    refine lv_cg (y := nI o2) eo2 ?_
    refine lv_iload_n hx hb dX11_orderedHarm_31 rfl (lv_at hl 2 rfl) ?_
    have hPc := hP.sub (ws' := [(h0, .inr (11, [.ref st, .int (nI N), .int (nI B), .ref rp, .int vrs, .int vrb, .int vhs, .int vca, .int vxs, .int vxb, .ref tp, .int (nI T), .int vfa, .int vbr, .int vba, .int vsp, .int vhe, .int vtk, .int vva, .ref cu, .ref lt, .ref od, .ref th, .ref be, .ref ln, .int (nI S), .ref ma, .int (nI M), .ref ah, .ref bh, .ref ik, .ref la, .ref lg, .ref ce, .int vto])), (st, .inl (G 0, 196, .inl fst))]) [0, 1] rfl
    have tn2267_ : nIT o2 := fun _ => nI_toInt (by first | omega | (have t_n5 := n5; have t_ho2 := ho2; omega))
    refine va_calli (va_runV (As := [.int (nI i), .int (-4), .int (nI o2), .int q]) (rest := []) ⟨hx, hb, hml, hown, hg⟩ (c_X11_harmOfN l dC dI G _ h0 i o2 st N B rp tp T cu lt od th be ln S ma M ah bh ik la lg ce q vrs vrb vhs vca vxs vxb vfa vbr vba vsp vhe vtk vva vto fst hN hB_ hT_ hS0 hM_ hi (by first | omega | (have t_n5 := n5; have t_ho2 := ho2; have tnb_ := nib7 tn2266_ tn2258_ tn2259_ tn2260_ tn2261_ tn2262_ tn2267_; have : ((-4) : Int32).toInt = -4 := qI_m4; omega))) (kwV hg mfX11_harmOf wt_1106 ⟨Nat.le_of_ble_eq_true rfl, Nat.le_of_ble_eq_true rfl⟩) (preVR hK hPc (ci := 11) (r := (RX11, TX11, 35)) rfl rfl) rfl rfl hl.1 rfl (lv_room (Nat.le_of_ble_eq_true rfl)) dX11_orderedHarm_32 ⟨Nat.le_of_ble_eq_true rfl, Nat.le_of_ble_eq_true rfl⟩) hS (fun q h1 h2 => absurd h2 (Nat.not_le.mpr h1)) (fun q h => hA q (Nat.le_trans hS.1 h)) (fun r6 ur6 t H1 locs ht hvm w7 hB hz1 hk1 hS => ?_)
    have hP := keepR hP hk1
    obtain ⟨w7, w7x⟩ := w7
    subst w7
    have hpost : (rhN fst i o2 q : Int32) = rhO fst i q := by
      have t_n5 := n5
      have t_ho2 := ho2
      have t_n0 : (nI i).toInt = (i : Int) := tn2266_ ()
      have t_n1 : (nI N).toInt = (N : Int) := tn2258_ ()
      have t_n2 : (nI B).toInt = (B : Int) := tn2259_ ()
      have t_n3 : (nI T).toInt = (T : Int) := tn2260_ ()
      have t_n4 : (nI S).toInt = (S : Int) := tn2261_ ()
      have t_n5 : (nI M).toInt = (M : Int) := tn2262_ ()
      have t_n6 : (nI o2).toInt = (o2 : Int) := tn2267_ ()
      have z0 : (0 : Int32).toInt = 0 := qI_0
      have z1 : (1 : Int32).toInt = 1 := qI_1
      have z2 : (2 : Int32).toInt = 2 := qI_2
      have z3 : (3 : Int32).toInt = 3 := qI_3
      have z5 : (5 : Int32).toInt = 5 := qI_5
      have z9 : (9 : Int32).toInt = 9 := qI_9
      unfold rhO
      first | (rw [if_pos (by omega), eo2, nI_clamp (by omega)]; done) | (rw [if_neg (by omega), eo1, eo2, nI_clamp (by omega), nI_clamp (by omega)]; done)
    refine W.widen (k := 0) (n := 0) (Nat.le_of_ble_eq_true rfl) (Nat.le_of_ble_eq_true rfl) ?_
    exact W.iret (v := rhN fst i o2 q) hx hb hr (fun t ht hW => ⟨⟨rhN fst i o2 q, (), rfl, ⟨hpost, trivial⟩, trivial⟩, hS.F ht⟩) hS.2.2 dX11_orderedHarm_35


def NNg (a : Nat → Int64) : Prop := ∀ q : Nat, q < 10 → 0 ≤ (a q).toInt
theorem NNg.up {g : Nat → Int64} {k : Nat} {v : Int64} (h : NNg g) (hv : 0 ≤ v.toInt) : NNg (vp_updL g k v) := by
  intro q hq
  by_cases c : q = k
  · rw [c, upL_eq]; exact hv
  · rw [upL_ne c]; exact h q hq
-- the least of several
def mnF (v : Nat → Int64) : Nat → Int64 × Nat
  | 0 => (v 0, 0)
  | n + 1 => if (v (n + 1)).toInt < (mnF v n).1.toInt then (v (n + 1), n + 1) else mnF v n
theorem mnF_lt {v : Nat → Int64} {j k : Nat} {x : Int64} (hj : 1 ≤ j) (h : (x, k) = mnF v (j - 1)) (c : (v j).toInt < x.toInt) : (v j, j) = mnF v (j + 1 - 1) := by
  obtain ⟨n, rfl⟩ : ∃ n : Nat, j = n + 1 := ⟨j - 1, by omega⟩
  have h : (x, k) = mnF v n := h
  show _ = (if (v (n + 1)).toInt < (mnF v n).1.toInt then (v (n + 1), n + 1) else mnF v n)
  rw [← h, if_pos c]
theorem mnF_ge {v : Nat → Int64} {j k : Nat} {x : Int64} (hj : 1 ≤ j) (h : (x, k) = mnF v (j - 1)) (c : ¬ (v j).toInt < x.toInt) : (x, k) = mnF v (j + 1 - 1) := by
  obtain ⟨n, rfl⟩ : ∃ n : Nat, j = n + 1 := ⟨j - 1, by omega⟩
  have h : (x, k) = mnF v n := h
  show _ = (if (v (n + 1)).toInt < (mnF v n).1.toInt then (v (n + 1), n + 1) else mnF v n)
  rw [← h, if_neg c]
def mnI (v : Nat → Int64) (j : Nat) (x : Int64) (k : Nat) : Prop := (j = 0 ∧ x = 4000000000000000000 ∧ k = 0) ∨ (1 ≤ j ∧ (x, k) = mnF v (j - 1))
theorem mnI.lt {v : Nat → Int64} {j k : Nat} {x : Int64} (h : mnI v j x k) (c : (v j).toInt < x.toInt) : mnI v (j + 1) (v j) j := by
  rcases h with ⟨a, b, d⟩ | ⟨a, b⟩
  · subst a; exact Or.inr ⟨by omega, rfl⟩
  · exact Or.inr ⟨by omega, mnF_lt a b c⟩
theorem mnI.ge {v : Nat → Int64} {j k : Nat} {x : Int64} (h : mnI v j x k) (hf : (v j).toInt < 4000000000000000000) (c : ¬ (v j).toInt < x.toInt) : mnI v (j + 1) x k := by
  rcases h with ⟨a, b, d⟩ | ⟨a, b⟩
  · have z : (4000000000000000000 : Int64).toInt = 4000000000000000000 := by decide
    rw [b, z] at c
    exact absurd hf c
  · exact Or.inr ⟨by omega, mnF_ge a b c⟩
theorem rhOb {st : Nat → Int32} (h : OKS st) {j : Nat} (hj : j < 10) : 0 ≤ (rhO st j 0).toInt ∧ (rhO st j 0).toInt ≤ 20 := by
  obtain ⟨b, hb, eb⟩ := ord_nat h (q := 38 + j) (by omega) (by omega) (by omega)
  unfold rhO
  rw [eb, nI_clamp (by omega)]
  by_cases c : j = 0
  · rw [if_pos c]; exact rhNb h hj hb
  · rw [if_neg c]
    obtain ⟨a, ha, ea⟩ := ord_nat h (q := 38 + j - 1) (by omega) (by omega) (by omega)
    rw [ea, nI_clamp (by omega)]
    exact rhBb h hj ha hb
theorem mnF_w {v : Nat → Int64} : ∀ n : Nat, (mnF v n).2 ≤ n := by
  intro n
  induction n with
  | zero => exact Nat.le_refl 0
  | succ n ih =>
    show (if (v (n + 1)).toInt < (mnF v n).1.toInt then (v (n + 1), n + 1) else mnF v n).2 ≤ n + 1
    split
    · exact Nat.le_refl _
    · omega
theorem mnW {v : Nat → Int64} {x : Int64} {k j : Nat} (h : (x, k) = mnF v (j - 1)) : k ≤ j := by
  have t := mnF_w (v := v) (j - 1)
  rw [← h] at t
  have t : k ≤ j - 1 := t
  omega
theorem mnI.w {v : Nat → Int64} {x : Int64} {k j : Nat} (h : mnI v j x k) : k ≤ j := by
  rcases h with ⟨_, _, d⟩ | ⟨_, b⟩
  · omega
  · exact mnW b

def nzS (x : Int32) (f : Nat → Int32) : Nat → Int32 := fun q => if ((x >>> (nI q &&& 31)) &&& 1) = 1 then 0 else f q
def quT (v : Nat → Int64) (bc : Nat → Int32) (m : Int32) (s : Nat) (p : Int64 × Nat) : Int64 × Nat := if (bc s).toInt ≤ m.toInt ∧ ((v s).toInt < p.1.toInt ∨ ((v s).toInt = p.1.toInt ∧ (bc s).toInt < (bc p.2).toInt)) then (v s, s) else p
def quF (v : Nat → Int64) (bc : Nat → Int32) (m : Int32) (x0 : Int64) : Nat → Int64 × Nat
  | 0 => (x0, 0)
  | n + 1 => quT v bc m (n + 1) (quF v bc m x0 n)
theorem qu_y {v : Nat → Int64} {bc : Nat → Int32} {m : Int32} {x0 x : Int64} {j k : Nat} (hj : 1 ≤ j) (h : (x, k) = quF v bc m x0 (j - 1)) (c1 : (bc j).toInt ≤ m.toInt) (c2 : (v j).toInt < x.toInt ∨ ((v j).toInt = x.toInt ∧ (bc j).toInt < (bc k).toInt)) : (v j, j) = quF v bc m x0 (j + 1 - 1) := by
  obtain ⟨n, rfl⟩ : ∃ n : Nat, j = n + 1 := ⟨j - 1, by omega⟩
  have h : (x, k) = quF v bc m x0 n := h
  show _ = quT v bc m (n + 1) (quF v bc m x0 n)
  rw [← h]
  unfold quT
  rw [if_pos ⟨c1, c2⟩]
theorem qu_n {v : Nat → Int64} {bc : Nat → Int32} {m : Int32} {x0 x : Int64} {j k : Nat} (hj : 1 ≤ j) (h : (x, k) = quF v bc m x0 (j - 1)) (c : ¬ ((bc j).toInt ≤ m.toInt ∧ ((v j).toInt < x.toInt ∨ ((v j).toInt = x.toInt ∧ (bc j).toInt < (bc k).toInt)))) : (x, k) = quF v bc m x0 (j + 1 - 1) := by
  obtain ⟨n, rfl⟩ : ∃ n : Nat, j = n + 1 := ⟨j - 1, by omega⟩
  have h : (x, k) = quF v bc m x0 n := h
  show _ = quT v bc m (n + 1) (quF v bc m x0 n)
  rw [← h]
  unfold quT
  rw [if_neg c]
def quI (v : Nat → Int64) (bc : Nat → Int32) (m : Int32) (j : Nat) (x : Int64) (k : Nat) : Prop := (j = 0 ∧ x = 4000000000000000000 ∧ k = 0) ∨ (1 ≤ j ∧ (x, k) = quF v bc m (v 0) (j - 1))
theorem quF_w {v : Nat → Int64} {bc : Nat → Int32} {m : Int32} {x0 : Int64} : ∀ n : Nat, (quF v bc m x0 n).2 ≤ n := by
  intro n
  induction n with
  | zero => exact Nat.le_refl 0
  | succ n ih =>
    show (quT v bc m (n + 1) (quF v bc m x0 n)).2 ≤ n + 1
    unfold quT
    split
    · exact Nat.le_refl _
    · omega
theorem quI.y {v : Nat → Int64} {bc : Nat → Int32} {m : Int32} {x : Int64} {j k : Nat} (h : quI v bc m j x k) (c1 : (bc j).toInt ≤ m.toInt) (c2 : (v j).toInt < x.toInt ∨ ((v j).toInt = x.toInt ∧ (bc j).toInt < (bc k).toInt)) : quI v bc m (j + 1) (v j) j := by
  rcases h with ⟨a, b, d⟩ | ⟨a, b⟩
  · subst a; exact Or.inr ⟨by omega, rfl⟩
  · exact Or.inr ⟨by omega, qu_y a b c1 c2⟩
theorem quI.n {v : Nat → Int64} {bc : Nat → Int32} {m : Int32} {x : Int64} {j k : Nat} (h : quI v bc m j x k) (hf : (v j).toInt < 4000000000000000000) (h0 : (bc 0).toInt ≤ m.toInt) (c : ¬ ((bc j).toInt ≤ m.toInt ∧ ((v j).toInt < x.toInt ∨ ((v j).toInt = x.toInt ∧ (bc j).toInt < (bc k).toInt)))) : quI v bc m (j + 1) x k := by
  rcases h with ⟨a, b, d⟩ | ⟨a, b⟩
  · have z : (4000000000000000000 : Int64).toInt = 4000000000000000000 := by decide
    subst a
    rw [b, z] at c
    exact absurd ⟨h0, Or.inl hf⟩ c
  · exact Or.inr ⟨by omega, qu_n a b c⟩
theorem quW {v : Nat → Int64} {bc : Nat → Int32} {m : Int32} {x0 x : Int64} {j k : Nat} (h : (x, k) = quF v bc m x0 (j - 1)) : k ≤ j := by
  have t := quF_w (v := v) (bc := bc) (m := m) (x0 := x0) (j - 1)
  rw [← h] at t
  have t : k ≤ j - 1 := t
  omega
theorem quI.w {v : Nat → Int64} {bc : Nat → Int32} {m : Int32} {x : Int64} {j k : Nat} (h : quI v bc m j x k) : k ≤ j := by
  rcases h with ⟨_, _, d⟩ | ⟨_, b⟩
  · omega
  · exact quW b

theorem lo_k1 {k : Nat} {A B : Prop} (h : (k = 1 ∧ A) ∨ (k = 0 ∧ B)) : k ≤ 1 := by
  rcases h with h | h
  · rw [h.1]; exact Nat.le_refl 1
  · rw [h.1]; exact Nat.zero_le 1

def alB (a b : Nat → Int32) (i d : Int32) : Nat → Bool
  | 0 => true
  | n + 1 => alB a b i d n && decide (¬ (a n = i ∧ ¬ b n = d))
theorem al_y {a b : Nat → Int32} {i d : Int32} {n : Nat} (h : alB a b i d n = true) (e : ¬ (a n = i ∧ ¬ b n = d)) : alB a b i d (n + 1) = true := by
  show (alB a b i d n && decide (¬ (a n = i ∧ ¬ b n = d))) = true
  rw [h, decide_eq_true e]; rfl
theorem al_n {a b : Nat → Int32} {i d : Int32} {n : Nat} (e : a n = i ∧ ¬ b n = d) : alB a b i d (n + 1) = false := by
  show (alB a b i d n && decide (¬ (a n = i ∧ ¬ b n = d))) = false
  rw [decide_eq_false (fun z => z e), Bool.and_false]
theorem al_f {a b : Nat → Int32} {i d : Int32} {j : Nat} (h : alB a b i d j = false) : ∀ n : Nat, j ≤ n → alB a b i d n = false := by
  intro n
  induction n with
  | zero => intro hj; rw [show (0 : Nat) = j by omega]; exact h
  | succ n ih =>
    intro hj
    by_cases e : j = n + 1
    · rw [← e]; exact h
    · show (alB a b i d n && decide (¬ (a n = i ∧ ¬ b n = d))) = false
      rw [ih (by omega), Bool.false_and]
theorem al_cg {a b a' b' : Nat → Int32} {i d : Int32} : ∀ n : Nat, (∀ q : Nat, q < n → a q = a' q ∧ b q = b' q) → alB a b i d n = alB a' b' i d n := by
  intro n
  induction n with
  | zero => intro _; rfl
  | succ n ih =>
    intro h
    show (alB a b i d n && decide (¬ (a n = i ∧ ¬ b n = d))) = (alB a' b' i d n && decide (¬ (a' n = i ∧ ¬ b' n = d)))
    rw [ih (fun q hq => h q (by omega)), (h n (by omega)).1, (h n (by omega)).2]
-- ways that lead into a depth
def inT (f r : Bool) (d : Nat) (x : Int32) (g : Nat → Int32) : Nat → Int32 := if f = true then (if r = true then upd (upd g (d - 1) (g (d - 1) + x)) (min 9 (d + 1)) (upd g (d - 1) (g (d - 1) + x) (min 9 (d + 1)) + x) else upd g (d - 1) (g (d - 1) + x)) else (if r = true then upd g (min 9 (d + 1)) (g (min 9 (d + 1)) + x) else g)
def inR (f r : Bool) (a : Nat → Int32) : Nat → Nat → Int32
  | 0 => fun q => if q = 0 then a 0 else 0
  | d + 1 => inT f r (d + 1) (a (d + 1)) (inR f r a d)
theorem up_cg {g g' : Nat → Int32} {k : Nat} {x : Int32} (hk : k < 10) (e : ∀ q : Nat, q < 10 → g q = g' q) : ∀ q : Nat, q < 10 → upd g k (g k + x) q = upd g' k (g' k + x) q := by
  intro q hq
  show (if q = k then g k + x else g q) = (if q = k then g' k + x else g' q)
  rw [e k hk, e q hq]
theorem inT_cg {f r : Bool} {d : Nat} {x : Int32} {g g' : Nat → Int32} (hd : d ≤ 9) (e : ∀ q : Nat, q < 10 → g q = g' q) : ∀ q : Nat, q < 10 → inT f r d x g q = inT f r d x g' q := by
  intro q hq
  unfold inT
  cases f with
  | true =>
    cases r with
    | true => exact up_cg (by omega) (up_cg (by omega) e) q hq
    | false => exact up_cg (by omega) e q hq
  | false =>
    cases r with
    | true => exact up_cg (by omega) e q hq
    | false => exact e q hq
theorem inR_cg {f r : Bool} {a a' : Nat → Int32} (e : ∀ q : Nat, q < 10 → a q = a' q) : ∀ d : Nat, d ≤ 9 → ∀ q : Nat, q < 10 → inR f r a d q = inR f r a' d q := by
  intro d
  induction d with
  | zero => intro _ q hq; show (if q = 0 then a 0 else 0) = (if q = 0 then a' 0 else 0); rw [e 0 (by decide)]
  | succ d ih =>
    intro hd q hq
    show inT f r (d + 1) (a (d + 1)) (inR f r a d) q = inT f r (d + 1) (a' (d + 1)) (inR f r a' d) q
    rw [e (d + 1) (by omega)]
    exact inT_cg hd (ih (by omega)) q hq
theorem in_step {f r : Bool} {g a : Nat → Int32} {j : Nat} {g' : Nat → Int32} (hj : 1 ≤ j) (h1 : j < 10) (hg : ∀ q : Nat, q < 10 → g q = inR f r a (j - 1) q) (e : g' = inT f r j (a j) g) : ∀ q : Nat, q < 10 → g' q = inR f r a (j + 1 - 1) q := by
  intro q hq
  obtain ⟨d, rfl⟩ : ∃ d : Nat, j = d + 1 := ⟨j - 1, by omega⟩
  rw [e]
  exact inT_cg (by omega) hg q hq
theorem in_zero {f r : Bool} {g a : Nat → Int32} (hz : ∀ q : Nat, q < 10 → g q = 0) : ∀ q : Nat, q < 10 → upd g 0 (a 0) q = inR f r a (1 - 1) q := by
  intro q hq
  show (if q = 0 then a 0 else g q) = (if q = 0 then a 0 else 0)
  rw [hz q hq]
def inS (H : Nat → Int32) (AL : Nat → Nat → Bool) (D : Nat) : Nat → Nat → Int32
  | 0 => fun q => if q = D then 1 else 0
  | i + 1 => fun q => if AL i q = true then inR (decide (0 < (H i).toInt)) (decide ((H i).toInt < 20)) (inS H AL D i) 9 q else 0
-- ways that lead on
def onT (f r : Bool) (P : Nat → Int32) : Nat → Int32 := fun q => if q = 0 then P 0 else (if f = true then P (q - 1) else 0) + (if r = true then P (min 9 (q + 1)) else 0)
def onD (AL : Nat → Bool) (P : Nat → Int32) : Nat → Int32 := fun q => if AL q = true then P q else 0
/-- the row of what leads on from stretch N - n -/
def onS (H : Nat → Int32) (AL : Nat → Nat → Bool) (N : Nat) : Nat → Nat → Int32
  | 0 => fun _ => 1
  | n + 1 => onT (decide (0 < (H (N - (n + 1))).toInt)) (decide ((H (N - (n + 1))).toInt < 20)) (onD (AL (N - (n + 1))) (onS H AL N n))
theorem onT_cg {f r : Bool} {P P' : Nat → Int32} (e : ∀ q : Nat, q < 10 → P q = P' q) : ∀ q : Nat, q < 10 → onT f r P q = onT f r P' q := by
  intro q hq
  unfold onT
  rw [e 0 (by decide), e (q - 1) (by omega), e (min 9 (q + 1)) (by omega)]
theorem onD_cg {AL AL' : Nat → Bool} {P P' : Nat → Int32} (ea : ∀ q : Nat, q < 10 → AL q = AL' q) (e : ∀ q : Nat, q < 10 → P q = P' q) : ∀ q : Nat, q < 10 → onD AL P q = onD AL' P' q := by
  intro q hq
  unfold onD
  rw [ea q hq, e q hq]
theorem inS_cg {H H' : Nat → Int32} {AL AL' : Nat → Nat → Bool} {D : Nat} : ∀ n : Nat, (∀ j : Nat, j < n → H j = H' j) → (∀ j q : Nat, j < n → q < 10 → AL j q = AL' j q) → ∀ q : Nat, q < 10 → inS H AL D n q = inS H' AL' D n q := by
  intro n
  induction n with
  | zero => intro _ _ q _; rfl
  | succ n ih =>
    intro h1 h2 q hq
    show (if AL n q = true then inR (decide (0 < (H n).toInt)) (decide ((H n).toInt < 20)) (inS H AL D n) 9 q else 0) = (if AL' n q = true then inR (decide (0 < (H' n).toInt)) (decide ((H' n).toInt < 20)) (inS H' AL' D n) 9 q else 0)
    rw [h1 n (by omega), h2 n q (by omega) hq, inR_cg (ih (fun j hj => h1 j (by omega)) (fun j q hj => h2 j q (by omega))) 9 (by decide) q hq]
theorem onS_cg {H H' : Nat → Int32} {AL AL' : Nat → Nat → Bool} {N : Nat} (h1 : ∀ j : Nat, j < N → H j = H' j) (h2 : ∀ j q : Nat, j < N → q < 10 → AL j q = AL' j q) : ∀ n : Nat, n ≤ N → ∀ q : Nat, q < 10 → onS H AL N n q = onS H' AL' N n q := by
  intro n
  induction n with
  | zero => intro _ q _; rfl
  | succ n ih =>
    intro hn q hq
    show onT (decide (0 < (H (N - (n + 1))).toInt)) (decide ((H (N - (n + 1))).toInt < 20)) (onD (AL (N - (n + 1))) (onS H AL N n)) q = onT (decide (0 < (H' (N - (n + 1))).toInt)) (decide ((H' (N - (n + 1))).toInt < 20)) (onD (AL' (N - (n + 1))) (onS H' AL' N n)) q
    rw [h1 _ (by omega)]
    exact onT_cg (onD_cg (fun q hq => h2 _ q (by omega) hq) (ih (by omega))) q hq
theorem vu_y {α : Type} {F : Nat → α} {k : Nat} {v : α} : va_up F k v k = v := if_pos rfl
theorem vu_n {α : Type} {F : Nat → α} {k m : Nat} {v : α} (h : ¬ m = k) : va_up F k v m = F m := if_neg h
def DUm (AL : Nat → Bool) (k j : Nat) (G F : Nat → Nat → Int32) : Prop := (∀ q : Nat, q < j → G k q = onD AL (F k) q) ∧ (∀ q : Nat, j ≤ q → G k q = F k q) ∧ (∀ m : Nat, ¬ m = k → G m = F m)
theorem DUm.z {AL : Nat → Bool} {k : Nat} {F : Nat → Nat → Int32} : DUm AL k 0 F F := ⟨fun q h => absurd h (Nat.not_lt_zero q), fun _ _ => rfl, fun _ _ => rfl⟩
theorem DUm.no {AL : Nat → Bool} {k j : Nat} {G F : Nat → Nat → Int32} (h : DUm AL k j G F) (e : ¬ AL j = true) : DUm AL k (j + 1) (va_up G k (upd (G k) j 0)) F := by
  refine ⟨fun q hq => ?_, fun q hq => ?_, fun m hm => ?_⟩
  · rw [vu_y]
    show (if q = j then 0 else G k q) = onD AL (F k) q
    by_cases c : q = j
    · rw [if_pos c, c]; exact (if_neg e).symm
    · rw [if_neg c]; exact h.1 q (by omega)
  · rw [vu_y]
    show (if q = j then 0 else G k q) = F k q
    rw [if_neg (by omega)]; exact h.2.1 q (by omega)
  · rw [vu_n hm]; exact h.2.2 m hm
theorem DUm.ye {AL : Nat → Bool} {k j : Nat} {G F : Nat → Nat → Int32} (h : DUm AL k j G F) (e : AL j = true) : DUm AL k (j + 1) G F := by
  refine ⟨fun q hq => ?_, fun q hq => h.2.1 q (by omega), h.2.2⟩
  by_cases c : q = j
  · rw [c, h.2.1 j (Nat.le_refl j)]; exact (if_pos e).symm
  · exact h.1 q (by omega)
def LI0 (i j : Nat) (G F : Nat → Nat → Int32) : Prop := (∀ q : Nat, q < j → G (i + 1) q = 0) ∧ (∀ m : Nat, ¬ m = i + 1 → G m = F m)
theorem LI0.z {i : Nat} {F : Nat → Nat → Int32} : LI0 i 0 F F := ⟨fun q h => absurd h (Nat.not_lt_zero q), fun _ _ => rfl⟩
theorem LI0.s {i j : Nat} {G F : Nat → Nat → Int32} (h : LI0 i j G F) : LI0 i (j + 1) (va_up G (i + 1) (upd (G (i + 1)) j 0)) F := by
  refine ⟨fun q hq => ?_, fun m hm => by rw [vu_n hm]; exact h.2 m hm⟩
  rw [vu_y]
  show (if q = j then 0 else G (i + 1) q) = 0
  by_cases c : q = j
  · rw [if_pos c]
  · rw [if_neg c]; exact h.1 q (by omega)
def LI1 (f r : Bool) (i j : Nat) (G F : Nat → Nat → Int32) : Prop := (∀ q : Nat, q < 10 → G (i + 1) q = inR f r (F i) (j - 1) q) ∧ (∀ m : Nat, ¬ m = i + 1 → G m = F m)
theorem LI1.z {f r : Bool} {i : Nat} {G F : Nat → Nat → Int32} (h : LI0 i 10 G F) : LI1 f r i 1 (va_up G (i + 1) (upd (G (i + 1)) 0 (G i 0))) F := by
  refine ⟨fun q hq => ?_, fun m hm => by rw [vu_n hm]; exact h.2 m hm⟩
  rw [vu_y, h.2 i (by omega)]
  exact in_zero h.1 q hq
theorem LI1.s {f r : Bool} {i j : Nat} {G G' F : Nat → Nat → Int32} (h : LI1 f r i j G F) (hj : 1 ≤ j) (h1 : j < 10) (e1 : G' (i + 1) = inT f r j (G i j) (G (i + 1))) (e2 : ∀ m : Nat, ¬ m = i + 1 → G' m = G m) : LI1 f r i (j + 1) G' F := by
  refine ⟨?_, fun m hm => (e2 m hm).trans (h.2 m hm)⟩
  rw [h.2 i (by omega)] at e1
  exact in_step hj h1 h.1 e1
theorem li_fr {f r : Bool} {i j : Nat} {G F : Nat → Nat → Int32} (h : LI1 f r i j G F) (hj : 1 ≤ j) (h1 : j < 10) (hf : f = true) (hr : r = true) : LI1 f r i (j + 1) (va_up (va_up G (i + 1) (upd (G (i + 1)) (j - 1) (G (i + 1) (j - 1) + G i j))) (i + 1) (upd (va_up G (i + 1) (upd (G (i + 1)) (j - 1) (G (i + 1) (j - 1) + G i j)) (i + 1)) (min 9 (j + 1)) (va_up G (i + 1) (upd (G (i + 1)) (j - 1) (G (i + 1) (j - 1) + G i j)) (i + 1) (min 9 (j + 1)) + va_up G (i + 1) (upd (G (i + 1)) (j - 1) (G (i + 1) (j - 1) + G i j)) i j))) F := by
  refine h.s hj h1 ?_ (fun m hm => by rw [vu_n hm, vu_n hm])
  rw [vu_y, vu_y, vu_n (show ¬ i = i + 1 by omega)]
  unfold inT
  rw [if_pos hf, if_pos hr]
theorem li_f {f r : Bool} {i j : Nat} {G F : Nat → Nat → Int32} (h : LI1 f r i j G F) (hj : 1 ≤ j) (h1 : j < 10) (hf : f = true) (hr : ¬ r = true) : LI1 f r i (j + 1) (va_up G (i + 1) (upd (G (i + 1)) (j - 1) (G (i + 1) (j - 1) + G i j))) F := by
  refine h.s hj h1 ?_ (fun m hm => by rw [vu_n hm])
  rw [vu_y]
  unfold inT
  rw [if_pos hf, if_neg hr]
theorem li_r {f r : Bool} {i j : Nat} {G F : Nat → Nat → Int32} (h : LI1 f r i j G F) (hj : 1 ≤ j) (h1 : j < 10) (hf : ¬ f = true) (hr : r = true) : LI1 f r i (j + 1) (va_up G (i + 1) (upd (G (i + 1)) (min 9 (j + 1)) (G (i + 1) (min 9 (j + 1)) + G i j))) F := by
  refine h.s hj h1 ?_ (fun m hm => by rw [vu_n hm])
  rw [vu_y]
  unfold inT
  rw [if_neg hf, if_pos hr]
def LO (f r : Bool) (i j : Nat) (G E : Nat → Nat → Int32) : Prop := (∀ q : Nat, q < j → G i q = onT f r (E (i + 1)) q) ∧ (∀ m : Nat, ¬ m = i → G m = E m)
theorem LO.z {f r : Bool} {i : Nat} {E : Nat → Nat → Int32} : LO f r i 1 (va_up E i (upd (E i) 0 (E (i + 1) 0))) E := by
  refine ⟨fun q hq => ?_, fun m hm => by rw [vu_n hm]⟩
  rw [vu_y, show q = 0 by omega]
  rfl
theorem LO.s {f r : Bool} {i j : Nat} {G E : Nat → Nat → Int32} {x : Int32} (h : LO f r i j G E) (hx : x = onT f r (G (i + 1)) j) : LO f r i (j + 1) (va_up G i (upd (G i) j x)) E := by
  refine ⟨fun q hq => ?_, fun m hm => by rw [vu_n hm]; exact h.2 m hm⟩
  rw [vu_y]
  show (if q = j then x else G i q) = _
  by_cases c : q = j
  · rw [if_pos c, hx, c, h.2 (i + 1) (by omega)]
  · rw [if_neg c]; exact h.1 q (by omega)
theorem onT_a {f r : Bool} {P : Nat → Int32} {j : Nat} (hj : 1 ≤ j) (hf : f = true) (hr : r = true) : P (j - 1) + P (min 9 (j + 1)) = onT f r P j := by
  unfold onT
  rw [if_neg (by omega), if_pos hf, if_pos hr]
theorem onT_b {f r : Bool} {P : Nat → Int32} {j : Nat} (hj : 1 ≤ j) (hf : f = true) (hr : ¬ r = true) : P (j - 1) + 0 = onT f r P j := by
  unfold onT
  rw [if_neg (by omega), if_pos hf, if_neg hr]
theorem onT_c {f r : Bool} {P : Nat → Int32} {j : Nat} (hj : 1 ≤ j) (hf : ¬ f = true) (hr : r = true) : 0 + P (min 9 (j + 1)) = onT f r P j := by
  unfold onT
  rw [if_neg (by omega), if_neg hf, if_pos hr]

set_option maxHeartbeats 1000000 in
set_option maxRecDepth 100000 in
theorem c_X3_allowsE (l : Launch) (dC : Nat → ClassId) (dI : Nat → Nat → Nat) (G : Nat → ClassId) (sz : Nat) (h0 m1 m2 S : Nat) (i g : Int32) (z1 z2 : Nat → Int32) (hS0 : S ≤ 6) : Met l yX3_allows (Cond.code yX3_allows cX3_allows 4 (some .boolean) :: GT) ({ frames := 0, cells := 0, slots := 0, locals := 0 } : Room) (PcR [.ref h0, .int i, .int g] dC dI G [(h0, .inr (3, [.int (nI S), .ref m1, .ref m2])), (m1, .inl (G 0, 6, .inl z1)), (m2, .inl (G 0, 6, .inl z2))] sz) (va_Qi (fun (r : Int32) (u : Unit) => match u with | _ => (r = if alB z1 z2 i g S = true then 1 else 0) ∧ True) (fun _ _ => True) (fun q : Nat => sz ≤ q)) 0 0 (fun q : Nat => sz ≤ q) := by
  have tn2462_ : nIT S := fun _ => nI_toInt (by omega)
  refine Met.ofW (cc := cX3_allows) (maxL := 4) (ret := (some .boolean)) (by decide) rfl ?_
  intro p e s m args below meth c s₁ Bd hml hv
  obtain ⟨rfl, hsz, hP, hK⟩ := hv
  have hx := Bd.exec
  have hb := Bd.bytes
  have hr := Bd.returns
  have hg : ∀ w ∈ GT, w.before ([.ref h0, .int i, .int g] : List Value).toArray s = true := fun w h => atoms_spec (ws := Cond.code yX3_allows cX3_allows 4 (some .boolean) :: GT) Bd.pre w (List.mem_cons_of_mem _ h)
  have hown : s.vm.findClass RX3 = some m.cls := findClass_of_methodNamed Bd.named
  have hlocks := Bd.notSynchronized
  subst hsz
  have hA : ∀ q : Nat, s.heap.size ≤ q → (fun q : Nat => s.heap.size ≤ q) q := fun _ h => h
  have hS : va_S (fun q : Nat => s.heap.size ≤ q) s.heap s.heap [] := va_S.rf
  have hl := lv_entry ([.ref h0, .int i, .int g]) (n := 4) (Nat.le_of_ble_eq_true rfl)
  rw [lg_entry_eq]
  generalize (lg_sl ([.ref h0, .int i, .int g]) ++ List.replicate (4 - (lg_sl ([.ref h0, .int i, .int g])).length) Slot.unset).toArray = ls at hl ⊢
  have hl : lv_has ls 4 [(0, .ref h0), (1, .int i), (2, .int g)] := hl
  refine lv_iconst (v := 0) hx hb dX3_allows_0 rfl ?_
  refine lv_istore_n (lv' := [(3, .int 0), (0, .ref h0), (1, .int i), (2, .int g)]) hx hb dX3_allows_1 rfl hl (by decide) rfl (fun ls hl => ?_)
  have loop2_2 : ∀ (nf j1 : Nat), S + 1 ≤ j1 + nf → j1 ≤ S → ∀ (H : Heap) (locs : List Loc), alB z1 z2 i g j1 = true → va_P (dC, dI) vwCl [(h0, .inr (3, [.int (nI S), .ref m1, .ref m2])), (m1, .inl (G 0, 6, .inl z1)), (m2, .inl (G 0, 6, .inl z2))] H → va_S (fun q : Nat => s.heap.size ≤ q) s.heap H locs → ∀ (ls : Array Slot), lv_has ls 4 [(3, .int (nI j1)), (0, .ref h0), (1, .int i), (2, .int g)] → W p l e (headSpec (Cond.code yX3_allows cX3_allows 4 (some .boolean) :: GT) ({ frames := 0, cells := 0, slots := 0, locals := 0 } : Room)).room s m ([.ref h0, .int i, .int g] : List Value).toArray below meth c H locs 0 0 (MQ below (va_Qi (fun (r : Int32) (u : Unit) => match u with | _ => (r = if alB z1 z2 i g S = true then 1 else 0) ∧ True) (fun _ _ => True) (fun q : Nat => s.heap.size ≤ q)) ([.ref h0, .int i, .int g] : List Value).toArray s 0 0 (fun q : Nat => s.heap.size ≤ q)) (F0 m 2 ls []) := by
    intro nf
    induction nf with
    | zero => intro j1 h1 h2; exact absurd h1 (by omega)
    | succ nf ih2_2 =>
      intro j1 hn3 hj4  H locs hinv hP hS ls hl
      refine lv_iload_n hx hb dX3_allows_2 rfl (lv_at hl 0 rfl) ?_
      refine lv_aload_n hx hb dX3_allows_3 rfl (lv_at hl 1 rfl) ?_
      refine va_get (D := (dC, dI)) (ci := 3) (v := .int (nI S)) (C := RX3) (T := TX3) (N := 3) hx hb hg inG3 hown hK.1 hP 0 rfl rfl 0 (Nat.le_of_ble_eq_true rfl) (hg _ wt_240) (fun _ h9 => h9) rfl dX3_allows_4 ?_
      refine lv_icmp_ge (tgt := 38) hx hb dX3_allows_7 rfl (fun c5 => ?_) (fun c5 => ?_)
      · skip
        have tn2463_ : nIT j1 := fun _ => nI_toInt (by first | omega | (have t := leI c5; omega))
        have n6 : S ≤ j1 := by have t := leI c5; rw [show (nI (j1)).toInt = ((j1 : Nat) : Int) from tn2463_ ()] at t; rw [show (nI (S)).toInt = ((S : Nat) : Int) from tn2462_ ()] at t; omega
        refine lv_iconst (v := 1) hx hb dX3_allows_38 rfl ?_
        have hpost : (1 : Int32) = if alB z1 z2 i g S = true then 1 else 0 := by
          have t_hj4 := hj4
          have t_n6 := n6
          have t_n0 : (nI S).toInt = (S : Int) := tn2462_ ()
          have t_n1 : (nI j1).toInt = (j1 : Int) := tn2463_ ()
          rw [if_pos (by rw [← show j1 = S by omega]; exact hinv)]
        refine W.widen (k := 0) (n := 0) (Nat.le_of_ble_eq_true rfl) (Nat.le_of_ble_eq_true rfl) ?_
        exact W.zret (v := 1) hx hb hr (by first | rfl | decide | exact rfl) (fun t ht hW => ⟨⟨1, (), rfl, ⟨hpost, trivial⟩, trivial⟩, hS.F ht⟩) hS.2.2 dX3_allows_39
      · skip
        have tn2464_ : nIT j1 := fun _ => nI_toInt (by first | omega | (have t := nleI c5; omega))
        have n7 : j1 < S := by have t := nleI c5; rw [show (nI (j1)).toInt = ((j1 : Nat) : Int) from tn2464_ ()] at t; rw [show (nI (S)).toInt = ((S : Nat) : Int) from tn2462_ ()] at t; omega
        refine lv_aload_n hx hb dX3_allows_10 rfl (lv_at hl 1 rfl) ?_
        refine va_get (D := (dC, dI)) (ci := 3) (v := .ref m1) (C := RX3) (T := TX3) (N := 3) hx hb hg inG3 hown hK.1 hP 0 rfl rfl 1 (Nat.le_of_ble_eq_true rfl) (hg _ wt_242) (fun _ h9 => h9) rfl dX3_allows_11 ?_
        refine lv_iload_n hx hb dX3_allows_14 rfl (lv_at hl 0 rfl) ?_
        refine va_iald hx hb hK.1 hP 1 0 rfl rfl (vp_in_nI (by first | omega | (have t_hj4 := hj4; have t_n7 := n7; have tnb_ := nib2 tn2462_ tn2464_; omega)) (by decide)) dX3_allows_15 ?_
        refine lv_cg (y := z1 j1) (by rw [nI_clamp (by omega)]) ?_
        refine lv_iload_n hx hb dX3_allows_16 rfl (lv_at hl 2 rfl) ?_
        refine lv_icmp_ne (tgt := 32) hx hb dX3_allows_17 rfl (fun c8 => ?_) (fun c8 => ?_)
        · skip
          refine lv_iinc (v := nI (j1 + 1)) (lv' := [(3, .int (nI (j1 + 1))), (0, .ref h0), (1, .int i), (2, .int g)]) hx hb dX3_allows_32 hl (k := 0) rfl (by rw [show Int32.ofInt 1 = nI 1 from by decide]; exact nI_add _ _) (by decide) rfl (fun ls hl => ?_)
          refine lv_goto (tgt := 2) hx hb dX3_allows_35 rfl ?_
          exact ih2_2 (j1 + 1) (by omega) (by omega)  _ _ (al_y hinv (by first | exact (fun e9 => absurd e9.1 (by first | with_reducible assumption | assumption)) | exact (fun e9 => e9.2 (by first | with_reducible assumption | assumption)))) hP hS ls (lv_sub hl [0, 1, 2, 3] rfl)
        · skip
          refine lv_aload_n hx hb dX3_allows_20 rfl (lv_at hl 1 rfl) ?_
          refine va_get (D := (dC, dI)) (ci := 3) (v := .ref m2) (C := RX3) (T := TX3) (N := 3) hx hb hg inG3 hown hK.1 hP 0 rfl rfl 2 (Nat.le_of_ble_eq_true rfl) (hg _ wt_243) (fun _ h9 => h9) rfl dX3_allows_21 ?_
          refine lv_iload_n hx hb dX3_allows_24 rfl (lv_at hl 0 rfl) ?_
          refine va_iald hx hb hK.1 hP 2 0 rfl rfl (vp_in_nI (by first | omega | (have t_hj4 := hj4; have t_n7 := n7; have t_c8 := eqI c8; have tnb_ := nib2 tn2462_ tn2464_; omega)) (by decide)) dX3_allows_25 ?_
          refine lv_cg (y := z2 j1) (by rw [nI_clamp (by omega)]) ?_
          refine lv_iload_n hx hb dX3_allows_26 rfl (lv_at hl 3 rfl) ?_
          refine lv_icmp_eq (tgt := 32) hx hb dX3_allows_27 rfl (fun c9 => ?_) (fun c9 => ?_)
          · skip
            refine lv_iinc (v := nI (j1 + 1)) (lv' := [(3, .int (nI (j1 + 1))), (0, .ref h0), (1, .int i), (2, .int g)]) hx hb dX3_allows_32 hl (k := 0) rfl (by rw [show Int32.ofInt 1 = nI 1 from by decide]; exact nI_add _ _) (by decide) rfl (fun ls hl => ?_)
            refine lv_goto (tgt := 2) hx hb dX3_allows_35 rfl ?_
            exact ih2_2 (j1 + 1) (by omega) (by omega)  _ _ (al_y hinv (by first | exact (fun e9 => absurd e9.1 (by first | with_reducible assumption | assumption)) | exact (fun e9 => e9.2 (by first | with_reducible assumption | assumption)))) hP hS ls (lv_sub hl [0, 1, 2, 3] rfl)
          · skip
            refine lv_iconst (v := 0) hx hb dX3_allows_30 rfl ?_
            have hpost : (0 : Int32) = if alB z1 z2 i g S = true then 1 else 0 := by
              rw [if_neg (fun h9 => by rw [al_f (al_n ⟨by assumption, by assumption⟩) S (by (have t_hj4 := hj4; have t_n7 := n7; have t_c8 := eqI c8; have t_c9 := neI c9; have tnb_ := nib2 tn2462_ tn2464_; omega))] at h9; exact absurd h9 (by decide))]
            refine W.widen (k := 0) (n := 0) (Nat.le_of_ble_eq_true rfl) (Nat.le_of_ble_eq_true rfl) ?_
            exact W.zret (v := 0) hx hb hr (by first | rfl | decide | exact rfl) (fun t ht hW => ⟨⟨0, (), rfl, ⟨hpost, trivial⟩, trivial⟩, hS.F ht⟩) hS.2.2 dX3_allows_31
  exact loop2_2 (S + 1) 0 (by omega) (by omega)  _ _ rfl hP hS ls (lv_sub hl [0, 1, 2, 3] rfl)

set_option maxHeartbeats 1000000 in
set_option maxRecDepth 100000 in
theorem c_X8_dropUnmarked1E (l : Launch) (dC : Nat → ClassId) (dI : Nat → Nat → Nat) (G : Nat → ClassId) (sz : Nat) (mk m1 m2 S k : Nat) (i : Int32) (z1 z2 : Nat → Int32) (ri ro : Nat → Nat) (F E : Nat → Nat → Int32) (hS0 : S ≤ 6) (hk : k < 11) : Met l yX8_dropUnmarked (Cond.code yX8_dropUnmarked cX8_dropUnmarked 4 none :: GT) ({ frames := 1, cells := 0, slots := 0, locals := 23 } : Room) (PcW [.ref (ri k), .ref mk, .int i] dC dI G (([(mk, .inr (3, [.int (nI S), .ref m1, .ref m2])), (m1, .inl (G 0, 6, .inl z1)), (m2, .inl (G 0, 6, .inl z2))] : va_W) ++ ((((List.range 11).map (fun iq => (ri iq, .inl (G 0, 10, .inl (F iq))))) : va_W) ++ ((((List.range 11).map (fun iq => (ro iq, .inl (G 0, 10, .inl (E iq))))) : va_W) ++ []))) sz) (va_Qv (fun (u : (Nat → Nat → Int32) × (Nat → Nat → Int32)) => match u with | (u1, u2) => DUm (fun qb => alB z1 z2 i (nI qb) S) k 10 u1 F ∧ u2 = E) (fun (u : (Nat → Nat → Int32) × (Nat → Nat → Int32)) (t : State) => match u with | (u1, u2) => va_P (dC, dI) vwCl (([(mk, .inr (3, [.int (nI S), .ref m1, .ref m2])), (m1, .inl (G 0, 6, .inl z1)), (m2, .inl (G 0, 6, .inl z2))] : va_W) ++ ((((List.range 11).map (fun iq => (ri iq, .inl (G 0, 10, .inl (u1 iq))))) : va_W) ++ ((((List.range 11).map (fun iq => (ro iq, .inl (G 0, 10, .inl (u2 iq))))) : va_W) ++ []))) t.heap ∧ va_D (va_A (([(mk, .inr (3, [.int (nI S), .ref m1, .ref m2])), (m1, .inl (G 0, 6, .inl z1)), (m2, .inl (G 0, 6, .inl z2))] : va_W) ++ ((((List.range 11).map (fun iq => (ri iq, .inl (G 0, 10, .inl (F iq))))) : va_W) ++ ((((List.range 11).map (fun iq => (ro iq, .inl (G 0, 10, .inl (E iq))))) : va_W) ++ []))) sz) (([(mk, .inr (3, [.int (nI S), .ref m1, .ref m2])), (m1, .inl (G 0, 6, .inl z1)), (m2, .inl (G 0, 6, .inl z2))] : va_W) ++ ((((List.range 11).map (fun iq => (ri iq, .inl (G 0, 10, .inl (u1 iq))))) : va_W) ++ ((((List.range 11).map (fun iq => (ro iq, .inl (G 0, 10, .inl (u2 iq))))) : va_W) ++ [])))) (va_A (([(mk, .inr (3, [.int (nI S), .ref m1, .ref m2])), (m1, .inl (G 0, 6, .inl z1)), (m2, .inl (G 0, 6, .inl z2))] : va_W) ++ ((((List.range 11).map (fun iq => (ri iq, .inl (G 0, 10, .inl (F iq))))) : va_W) ++ ((((List.range 11).map (fun iq => (ro iq, .inl (G 0, 10, .inl (E iq))))) : va_W) ++ []))) sz)) 0 0 (va_A (([(mk, .inr (3, [.int (nI S), .ref m1, .ref m2])), (m1, .inl (G 0, 6, .inl z1)), (m2, .inl (G 0, 6, .inl z2))] : va_W) ++ ((((List.range 11).map (fun iq => (ri iq, .inl (G 0, 10, .inl (F iq))))) : va_W) ++ ((((List.range 11).map (fun iq => (ro iq, .inl (G 0, 10, .inl (E iq))))) : va_W) ++ []))) sz) := by
  have tn2465_ : nIT S := fun _ => nI_toInt (by omega)
  refine Met.ofW (cc := cX8_dropUnmarked) (maxL := 4) (ret := none) (by decide) rfl ?_
  intro p e s m args below meth c s₁ Bd hml hv
  obtain ⟨rfl, hsz, hP, hK, hD0⟩ := hv
  have hx := Bd.exec
  have hb := Bd.bytes
  have hr := Bd.returns
  have hg : ∀ w ∈ GT, w.before ([.ref (ri k), .ref mk, .int i] : List Value).toArray s = true := fun w h => atoms_spec (ws := Cond.code yX8_dropUnmarked cX8_dropUnmarked 4 none :: GT) Bd.pre w (List.mem_cons_of_mem _ h)
  have hown : s.vm.findClass RX8 = some m.cls := findClass_of_methodNamed Bd.named
  have hlocks := Bd.notSynchronized
  subst hsz
  have hD := hD0.self (sz := s.heap.size)
  generalize hAe : va_A (([(mk, .inr (3, [.int (nI S), .ref m1, .ref m2])), (m1, .inl (G 0, 6, .inl z1)), (m2, .inl (G 0, 6, .inl z2))] : va_W) ++ ((((List.range 11).map (fun iq => (ri iq, .inl (G 0, 10, .inl (F iq))))) : va_W) ++ ((((List.range 11).map (fun iq => (ro iq, .inl (G 0, 10, .inl (E iq))))) : va_W) ++ []))) s.heap.size = A at hD ⊢
  have hA : ∀ q : Nat, s.heap.size ≤ q → A q := fun q h => by rw [← hAe]; exact Or.inr h
  have hS : va_S A s.heap s.heap [] := va_S.rf
  have hl := lv_entry ([.ref (ri k), .ref mk, .int i]) (n := 4) (Nat.le_of_ble_eq_true rfl)
  rw [lg_entry_eq]
  generalize (lg_sl ([.ref (ri k), .ref mk, .int i]) ++ List.replicate (4 - (lg_sl ([.ref (ri k), .ref mk, .int i])).length) Slot.unset).toArray = ls at hl ⊢
  have hl : lv_has ls 4 [(0, .ref (ri k)), (1, .ref mk), (2, .int i)] := hl
  refine lv_iconst (v := 0) hx hb dX8_dropUnmarked_0 rfl ?_
  refine lv_istore_n (lv' := [(3, .int 0), (0, .ref (ri k)), (1, .ref mk), (2, .int i)]) hx hb dX8_dropUnmarked_1 rfl hl (by decide) rfl (fun ls hl => ?_)
  have loop2_3 : ∀ (nf j1 : Nat), 10 + 1 ≤ j1 + nf → j1 ≤ 10 → ∀ (g2 : Nat → Nat → Int32) (H : Heap) (locs : List Loc), DUm (fun qb => alB z1 z2 i (nI qb) S) k j1 g2 F → va_P (dC, dI) vwCl (([(mk, .inr (3, [.int (nI S), .ref m1, .ref m2])), (m1, .inl (G 0, 6, .inl z1)), (m2, .inl (G 0, 6, .inl z2))] : va_W) ++ ((((List.range 11).map (fun iq => (ri iq, .inl (G 0, 10, .inl (g2 iq))))) : va_W) ++ ((((List.range 11).map (fun iq => (ro iq, .inl (G 0, 10, .inl (E iq))))) : va_W) ++ []))) H → va_D A (([(mk, .inr (3, [.int (nI S), .ref m1, .ref m2])), (m1, .inl (G 0, 6, .inl z1)), (m2, .inl (G 0, 6, .inl z2))] : va_W) ++ ((((List.range 11).map (fun iq => (ri iq, .inl (G 0, 10, .inl (g2 iq))))) : va_W) ++ ((((List.range 11).map (fun iq => (ro iq, .inl (G 0, 10, .inl (E iq))))) : va_W) ++ []))) → va_S A s.heap H locs → ∀ (ls : Array Slot), lv_has ls 4 [(3, .int (nI j1)), (0, .ref (ri k)), (1, .ref mk), (2, .int i)] → W p l e (headSpec (Cond.code yX8_dropUnmarked cX8_dropUnmarked 4 none :: GT) ({ frames := 1, cells := 0, slots := 0, locals := 23 } : Room)).room s m ([.ref (ri k), .ref mk, .int i] : List Value).toArray below meth c H locs 0 0 (MQ below (va_Qv (fun (u : (Nat → Nat → Int32) × (Nat → Nat → Int32)) => match u with | (u1, u2) => DUm (fun qb => alB z1 z2 i (nI qb) S) k 10 u1 F ∧ u2 = E) (fun (u : (Nat → Nat → Int32) × (Nat → Nat → Int32)) (t : State) => match u with | (u1, u2) => va_P (dC, dI) vwCl (([(mk, .inr (3, [.int (nI S), .ref m1, .ref m2])), (m1, .inl (G 0, 6, .inl z1)), (m2, .inl (G 0, 6, .inl z2))] : va_W) ++ ((((List.range 11).map (fun iq => (ri iq, .inl (G 0, 10, .inl (u1 iq))))) : va_W) ++ ((((List.range 11).map (fun iq => (ro iq, .inl (G 0, 10, .inl (u2 iq))))) : va_W) ++ []))) t.heap ∧ va_D A (([(mk, .inr (3, [.int (nI S), .ref m1, .ref m2])), (m1, .inl (G 0, 6, .inl z1)), (m2, .inl (G 0, 6, .inl z2))] : va_W) ++ ((((List.range 11).map (fun iq => (ri iq, .inl (G 0, 10, .inl (u1 iq))))) : va_W) ++ ((((List.range 11).map (fun iq => (ro iq, .inl (G 0, 10, .inl (u2 iq))))) : va_W) ++ [])))) A) ([.ref (ri k), .ref mk, .int i] : List Value).toArray s 0 0 A) (F0 m 2 ls []) := by
    intro nf
    induction nf with
    | zero => intro j1 h1 h2; exact absurd h1 (by omega)
    | succ nf ih2_3 =>
      intro j1 hn4 hj5 g2 H locs hinv hP hD hS ls hl
      refine lv_iload_n hx hb dX8_dropUnmarked_2 rfl (lv_at hl 0 rfl) ?_
      refine lv_aload_n hx hb dX8_dropUnmarked_3 rfl (lv_at hl 1 rfl) ?_
      have tn2466_ : nIT j1 := fun _ => nI_toInt (by first | omega | (have t_hj5 := hj5; omega))
      refine va_alen (v := 10) hx hb hK.1 (blk_P (j := k) hP (by first | omega | (have t_hj5 := hj5; have tnb_ := nib2 tn2465_ tn2466_; omega))) 0 0 rfl rfl (by rfl) dX8_dropUnmarked_4 ?_
      refine lv_icmp_ge (tgt := 27) hx hb dX8_dropUnmarked_5 rfl (fun c6 => ?_) (fun c6 => ?_)
      · skip
        have n7 : 10 ≤ j1 := by have t := leI c6; rw [show (nI (j1)).toInt = ((j1 : Nat) : Int) from tn2466_ ()] at t; have : (10 : Int32).toInt = 10 := qI_10; omega
        obtain ⟨hP9, hD9⟩ := va_sub2 (ws' := (([(mk, .inr (3, [.int (nI S), .ref m1, .ref m2])), (m1, .inl (G 0, 6, .inl z1)), (m2, .inl (G 0, 6, .inl z2))] : va_W) ++ ((((List.range 11).map (fun iq => (ri iq, .inl (G 0, 10, .inl (g2 iq))))) : va_W) ++ ((((List.range 11).map (fun iq => (ro iq, .inl (G 0, 10, .inl (E iq))))) : va_W) ++ [])))) hP hD [0, 1, 2, 3, 4, 5, 6, 7, 8, 9, 10, 11, 12, 13, 14, 15, 16, 17, 18, 19, 20, 21, 22, 23, 24] (by decide +kernel) rfl
        refine W.widen (k := 0) (n := 0) (Nat.le_of_ble_eq_true rfl) (Nat.le_of_ble_eq_true rfl) ?_
        exact W.vret hx hb hr (fun t ht hW => ⟨⟨(g2, E), rfl, ⟨(by rw [show (10 : Nat) = j1 by omega]; exact hinv), rfl⟩, ⟨by rw [ht]; exact hP9, hD9⟩⟩, hS.F ht⟩) hS.2.2 dX8_dropUnmarked_27
      · skip
        have n8 : j1 < 10 := by have t := nleI c6; rw [show (nI (j1)).toInt = ((j1 : Nat) : Int) from tn2466_ ()] at t; have : (10 : Int32).toInt = 10 := qI_10; omega
        refine lv_aload_n hx hb dX8_dropUnmarked_8 rfl (lv_at hl 2 rfl) ?_
        refine lv_iload_n hx hb dX8_dropUnmarked_9 rfl (lv_at hl 3 rfl) ?_
        refine lv_iload_n hx hb dX8_dropUnmarked_10 rfl (lv_at hl 0 rfl) ?_
        have hPc := hP.sub (ws' := [(mk, .inr (3, [.int (nI S), .ref m1, .ref m2])), (m1, .inl (G 0, 6, .inl z1)), (m2, .inl (G 0, 6, .inl z2))]) [0, 1, 2] rfl
        refine va_calli (va_runVN (As := [.int i, .int (nI j1)]) (rest := []) ⟨hx, hb, hml, hown, hg⟩ (c_X3_allowsE l dC dI G _ mk m1 m2 S i (nI j1) z1 z2 hS0) (kwVN hg hK mfX3_allows wn_780 ⟨Nat.le_of_ble_eq_true rfl, Nat.le_of_ble_eq_true rfl⟩) (preVR hK hPc (ci := 3) (r := (RX3, TX3, 3)) rfl rfl) rfl rfl hl.1 rfl (lv_room (Nat.le_of_ble_eq_true rfl)) dX8_dropUnmarked_11 ⟨Nat.le_of_ble_eq_true rfl, Nat.le_of_ble_eq_true rfl⟩) hS (fun q h1 h2 => absurd h2 (Nat.not_le.mpr h1)) (fun q h => hA q (Nat.le_trans hS.1 h)) (fun r9 ur9 t H1 locs ht hvm w10 hB hz1 hk1 hS => ?_)
        have hP := keepR hP hk1
        obtain ⟨w10, w10x⟩ := w10
        refine lv_if_ne (tgt := 21) hx hb dX8_dropUnmarked_14 rfl (fun c11 => ?_) (fun c11 => ?_)
        · skip
          refine lv_iinc (v := nI (j1 + 1)) (lv' := [(3, .int (nI (j1 + 1))), (0, .ref (ri k)), (1, .ref mk), (2, .int i)]) hx hb dX8_dropUnmarked_21 hl (k := 0) rfl (by rw [show Int32.ofInt 1 = nI 1 from by decide]; exact nI_add _ _) (by decide) rfl (fun ls hl => ?_)
          refine lv_goto (tgt := 2) hx hb dX8_dropUnmarked_24 rfl ?_
          exact ih2_3 (j1 + 1) (by omega) (by omega) g2 _ _ (hinv.ye (by show alB z1 z2 i (nI j1) S = true; have e7 := w10; by_cases e8 : alB z1 z2 i (nI j1) S = true; exact e8; (rw [if_neg e8] at e7; exact absurd e7 (by first | with_reducible assumption | assumption)))) hP hD hS ls (lv_sub hl [0, 1, 2, 3] rfl)
        · skip
          refine lv_aload_n hx hb dX8_dropUnmarked_17 rfl (lv_at hl 1 rfl) ?_
          refine lv_iload_n hx hb dX8_dropUnmarked_18 rfl (lv_at hl 0 rfl) ?_
          refine lv_iconst (v := 0) hx hb dX8_dropUnmarked_19 rfl ?_
          refine va_iastB (j := k) hx hb hK.1 hP hD hS 0 (by first | omega | (have t_hj5 := hj5; have t_n8 := n8; have t_c11 := eqI c11; have : (0 : Int32).toInt = 0 := qI_0; have tnb_ := nib2 tn2465_ tn2466_; omega)) rfl (vp_in_nI (by first | omega | (have t_hj5 := hj5; have t_n8 := n8; have t_c11 := eqI c11; have : (0 : Int32).toInt = 0 := qI_0; have tnb_ := nib2 tn2465_ tn2466_; omega)) (by decide)) dX8_dropUnmarked_20 (fun H locs hP hD hS => ?_)
          rw [nI_clamp (by first | omega | (have t_hj5 := hj5; have t_n8 := n8; have t_c11 := eqI c11; have : (0 : Int32).toInt = 0 := qI_0; have tnb_ := nib2 tn2465_ tn2466_; omega))] at hP hD
          obtain ⟨hP, hD⟩ := va_rls (ws' := (([(mk, .inr (3, [.int (nI S), .ref m1, .ref m2])), (m1, .inl (G 0, 6, .inl z1)), (m2, .inl (G 0, 6, .inl z2))] : va_W) ++ ((((List.range 11).map (fun iq => (ri iq, .inl (G 0, 10, .inl ((va_up g2 k (upd (g2 k) j1 0)) iq))))) : va_W) ++ ((((List.range 11).map (fun iq => (ro iq, .inl (G 0, 10, .inl (E iq))))) : va_W) ++ [])))) hP hD rfl
          refine lv_iinc (v := nI (j1 + 1)) (lv' := [(3, .int (nI (j1 + 1))), (0, .ref (ri k)), (1, .ref mk), (2, .int i)]) hx hb dX8_dropUnmarked_21 hl (k := 0) rfl (by rw [show Int32.ofInt 1 = nI 1 from by decide]; exact nI_add _ _) (by decide) rfl (fun ls hl => ?_)
          refine lv_goto (tgt := 2) hx hb dX8_dropUnmarked_24 rfl ?_
          exact ih2_3 (j1 + 1) (by omega) (by omega) (va_up g2 k (upd (g2 k) j1 0)) _ _ (hinv.no (fun e9 => by have e8 : alB z1 z2 i (nI j1) S = true := e9; have e7 := w10; rw [if_pos e8] at e7; exact absurd (e7.symm.trans (show _ = (0 : Int32) from by assumption)) (by decide))) hP hD hS ls (lv_sub hl [0, 1, 2, 3] rfl)
  exact loop2_3 (10 + 1) 0 (by omega) (by omega) F _ _ DUm.z hP hD hS ls (lv_sub hl [0, 1, 2, 3] rfl)

set_option maxHeartbeats 1000000 in
set_option maxRecDepth 100000 in
theorem c_X8_dropUnmarked2E (l : Launch) (dC : Nat → ClassId) (dI : Nat → Nat → Nat) (G : Nat → ClassId) (sz : Nat) (mk m1 m2 S k : Nat) (i : Int32) (z1 z2 : Nat → Int32) (ri ro : Nat → Nat) (F E : Nat → Nat → Int32) (hS0 : S ≤ 6) (hk : k < 11) : Met l yX8_dropUnmarked (Cond.code yX8_dropUnmarked cX8_dropUnmarked 4 none :: GT) ({ frames := 1, cells := 0, slots := 0, locals := 23 } : Room) (PcW [.ref (ro k), .ref mk, .int i] dC dI G (([(mk, .inr (3, [.int (nI S), .ref m1, .ref m2])), (m1, .inl (G 0, 6, .inl z1)), (m2, .inl (G 0, 6, .inl z2))] : va_W) ++ ((((List.range 11).map (fun iq => (ri iq, .inl (G 0, 10, .inl (F iq))))) : va_W) ++ ((((List.range 11).map (fun iq => (ro iq, .inl (G 0, 10, .inl (E iq))))) : va_W) ++ []))) sz) (va_Qv (fun (u : (Nat → Nat → Int32) × (Nat → Nat → Int32)) => match u with | (u1, u2) => DUm (fun qb => alB z1 z2 i (nI qb) S) k 10 u2 E ∧ u1 = F) (fun (u : (Nat → Nat → Int32) × (Nat → Nat → Int32)) (t : State) => match u with | (u1, u2) => va_P (dC, dI) vwCl (([(mk, .inr (3, [.int (nI S), .ref m1, .ref m2])), (m1, .inl (G 0, 6, .inl z1)), (m2, .inl (G 0, 6, .inl z2))] : va_W) ++ ((((List.range 11).map (fun iq => (ri iq, .inl (G 0, 10, .inl (u1 iq))))) : va_W) ++ ((((List.range 11).map (fun iq => (ro iq, .inl (G 0, 10, .inl (u2 iq))))) : va_W) ++ []))) t.heap ∧ va_D (va_A (([(mk, .inr (3, [.int (nI S), .ref m1, .ref m2])), (m1, .inl (G 0, 6, .inl z1)), (m2, .inl (G 0, 6, .inl z2))] : va_W) ++ ((((List.range 11).map (fun iq => (ri iq, .inl (G 0, 10, .inl (F iq))))) : va_W) ++ ((((List.range 11).map (fun iq => (ro iq, .inl (G 0, 10, .inl (E iq))))) : va_W) ++ []))) sz) (([(mk, .inr (3, [.int (nI S), .ref m1, .ref m2])), (m1, .inl (G 0, 6, .inl z1)), (m2, .inl (G 0, 6, .inl z2))] : va_W) ++ ((((List.range 11).map (fun iq => (ri iq, .inl (G 0, 10, .inl (u1 iq))))) : va_W) ++ ((((List.range 11).map (fun iq => (ro iq, .inl (G 0, 10, .inl (u2 iq))))) : va_W) ++ [])))) (va_A (([(mk, .inr (3, [.int (nI S), .ref m1, .ref m2])), (m1, .inl (G 0, 6, .inl z1)), (m2, .inl (G 0, 6, .inl z2))] : va_W) ++ ((((List.range 11).map (fun iq => (ri iq, .inl (G 0, 10, .inl (F iq))))) : va_W) ++ ((((List.range 11).map (fun iq => (ro iq, .inl (G 0, 10, .inl (E iq))))) : va_W) ++ []))) sz)) 0 0 (va_A (([(mk, .inr (3, [.int (nI S), .ref m1, .ref m2])), (m1, .inl (G 0, 6, .inl z1)), (m2, .inl (G 0, 6, .inl z2))] : va_W) ++ ((((List.range 11).map (fun iq => (ri iq, .inl (G 0, 10, .inl (F iq))))) : va_W) ++ ((((List.range 11).map (fun iq => (ro iq, .inl (G 0, 10, .inl (E iq))))) : va_W) ++ []))) sz) := by
  have tn2467_ : nIT S := fun _ => nI_toInt (by omega)
  refine Met.ofW (cc := cX8_dropUnmarked) (maxL := 4) (ret := none) (by decide) rfl ?_
  intro p e s m args below meth c s₁ Bd hml hv
  obtain ⟨rfl, hsz, hP, hK, hD0⟩ := hv
  have hx := Bd.exec
  have hb := Bd.bytes
  have hr := Bd.returns
  have hg : ∀ w ∈ GT, w.before ([.ref (ro k), .ref mk, .int i] : List Value).toArray s = true := fun w h => atoms_spec (ws := Cond.code yX8_dropUnmarked cX8_dropUnmarked 4 none :: GT) Bd.pre w (List.mem_cons_of_mem _ h)
  have hown : s.vm.findClass RX8 = some m.cls := findClass_of_methodNamed Bd.named
  have hlocks := Bd.notSynchronized
  subst hsz
  have hD := hD0.self (sz := s.heap.size)
  generalize hAe : va_A (([(mk, .inr (3, [.int (nI S), .ref m1, .ref m2])), (m1, .inl (G 0, 6, .inl z1)), (m2, .inl (G 0, 6, .inl z2))] : va_W) ++ ((((List.range 11).map (fun iq => (ri iq, .inl (G 0, 10, .inl (F iq))))) : va_W) ++ ((((List.range 11).map (fun iq => (ro iq, .inl (G 0, 10, .inl (E iq))))) : va_W) ++ []))) s.heap.size = A at hD ⊢
  have hA : ∀ q : Nat, s.heap.size ≤ q → A q := fun q h => by rw [← hAe]; exact Or.inr h
  have hS : va_S A s.heap s.heap [] := va_S.rf
  have hl := lv_entry ([.ref (ro k), .ref mk, .int i]) (n := 4) (Nat.le_of_ble_eq_true rfl)
  rw [lg_entry_eq]
  generalize (lg_sl ([.ref (ro k), .ref mk, .int i]) ++ List.replicate (4 - (lg_sl ([.ref (ro k), .ref mk, .int i])).length) Slot.unset).toArray = ls at hl ⊢
  have hl : lv_has ls 4 [(0, .ref (ro k)), (1, .ref mk), (2, .int i)] := hl
  refine lv_iconst (v := 0) hx hb dX8_dropUnmarked_0 rfl ?_
  refine lv_istore_n (lv' := [(3, .int 0), (0, .ref (ro k)), (1, .ref mk), (2, .int i)]) hx hb dX8_dropUnmarked_1 rfl hl (by decide) rfl (fun ls hl => ?_)
  have loop2_3 : ∀ (nf j1 : Nat), 10 + 1 ≤ j1 + nf → j1 ≤ 10 → ∀ (g2 : Nat → Nat → Int32) (H : Heap) (locs : List Loc), DUm (fun qb => alB z1 z2 i (nI qb) S) k j1 g2 E → va_P (dC, dI) vwCl (([(mk, .inr (3, [.int (nI S), .ref m1, .ref m2])), (m1, .inl (G 0, 6, .inl z1)), (m2, .inl (G 0, 6, .inl z2))] : va_W) ++ ((((List.range 11).map (fun iq => (ri iq, .inl (G 0, 10, .inl (F iq))))) : va_W) ++ ((((List.range 11).map (fun iq => (ro iq, .inl (G 0, 10, .inl (g2 iq))))) : va_W) ++ []))) H → va_D A (([(mk, .inr (3, [.int (nI S), .ref m1, .ref m2])), (m1, .inl (G 0, 6, .inl z1)), (m2, .inl (G 0, 6, .inl z2))] : va_W) ++ ((((List.range 11).map (fun iq => (ri iq, .inl (G 0, 10, .inl (F iq))))) : va_W) ++ ((((List.range 11).map (fun iq => (ro iq, .inl (G 0, 10, .inl (g2 iq))))) : va_W) ++ []))) → va_S A s.heap H locs → ∀ (ls : Array Slot), lv_has ls 4 [(3, .int (nI j1)), (0, .ref (ro k)), (1, .ref mk), (2, .int i)] → W p l e (headSpec (Cond.code yX8_dropUnmarked cX8_dropUnmarked 4 none :: GT) ({ frames := 1, cells := 0, slots := 0, locals := 23 } : Room)).room s m ([.ref (ro k), .ref mk, .int i] : List Value).toArray below meth c H locs 0 0 (MQ below (va_Qv (fun (u : (Nat → Nat → Int32) × (Nat → Nat → Int32)) => match u with | (u1, u2) => DUm (fun qb => alB z1 z2 i (nI qb) S) k 10 u2 E ∧ u1 = F) (fun (u : (Nat → Nat → Int32) × (Nat → Nat → Int32)) (t : State) => match u with | (u1, u2) => va_P (dC, dI) vwCl (([(mk, .inr (3, [.int (nI S), .ref m1, .ref m2])), (m1, .inl (G 0, 6, .inl z1)), (m2, .inl (G 0, 6, .inl z2))] : va_W) ++ ((((List.range 11).map (fun iq => (ri iq, .inl (G 0, 10, .inl (u1 iq))))) : va_W) ++ ((((List.range 11).map (fun iq => (ro iq, .inl (G 0, 10, .inl (u2 iq))))) : va_W) ++ []))) t.heap ∧ va_D A (([(mk, .inr (3, [.int (nI S), .ref m1, .ref m2])), (m1, .inl (G 0, 6, .inl z1)), (m2, .inl (G 0, 6, .inl z2))] : va_W) ++ ((((List.range 11).map (fun iq => (ri iq, .inl (G 0, 10, .inl (u1 iq))))) : va_W) ++ ((((List.range 11).map (fun iq => (ro iq, .inl (G 0, 10, .inl (u2 iq))))) : va_W) ++ [])))) A) ([.ref (ro k), .ref mk, .int i] : List Value).toArray s 0 0 A) (F0 m 2 ls []) := by
    intro nf
    induction nf with
    | zero => intro j1 h1 h2; exact absurd h1 (by omega)
    | succ nf ih2_3 =>
      intro j1 hn4 hj5 g2 H locs hinv hP hD hS ls hl
      refine lv_iload_n hx hb dX8_dropUnmarked_2 rfl (lv_at hl 0 rfl) ?_
      refine lv_aload_n hx hb dX8_dropUnmarked_3 rfl (lv_at hl 1 rfl) ?_
      have tn2468_ : nIT j1 := fun _ => nI_toInt (by first | omega | (have t_hj5 := hj5; omega))
      refine va_alen (v := 10) hx hb hK.1 (blk_P2 (j := k) hP (by first | omega | (have t_hj5 := hj5; have tnb_ := nib2 tn2467_ tn2468_; omega))) 0 0 rfl rfl (by rfl) dX8_dropUnmarked_4 ?_
      refine lv_icmp_ge (tgt := 27) hx hb dX8_dropUnmarked_5 rfl (fun c6 => ?_) (fun c6 => ?_)
      · skip
        have n7 : 10 ≤ j1 := by have t := leI c6; rw [show (nI (j1)).toInt = ((j1 : Nat) : Int) from tn2468_ ()] at t; have : (10 : Int32).toInt = 10 := qI_10; omega
        obtain ⟨hP9, hD9⟩ := va_sub2 (ws' := (([(mk, .inr (3, [.int (nI S), .ref m1, .ref m2])), (m1, .inl (G 0, 6, .inl z1)), (m2, .inl (G 0, 6, .inl z2))] : va_W) ++ ((((List.range 11).map (fun iq => (ri iq, .inl (G 0, 10, .inl (F iq))))) : va_W) ++ ((((List.range 11).map (fun iq => (ro iq, .inl (G 0, 10, .inl (g2 iq))))) : va_W) ++ [])))) hP hD [0, 1, 2, 3, 4, 5, 6, 7, 8, 9, 10, 11, 12, 13, 14, 15, 16, 17, 18, 19, 20, 21, 22, 23, 24] (by decide +kernel) rfl
        refine W.widen (k := 0) (n := 0) (Nat.le_of_ble_eq_true rfl) (Nat.le_of_ble_eq_true rfl) ?_
        exact W.vret hx hb hr (fun t ht hW => ⟨⟨(F, g2), rfl, ⟨(by rw [show (10 : Nat) = j1 by omega]; exact hinv), rfl⟩, ⟨by rw [ht]; exact hP9, hD9⟩⟩, hS.F ht⟩) hS.2.2 dX8_dropUnmarked_27
      · skip
        have n8 : j1 < 10 := by have t := nleI c6; rw [show (nI (j1)).toInt = ((j1 : Nat) : Int) from tn2468_ ()] at t; have : (10 : Int32).toInt = 10 := qI_10; omega
        refine lv_aload_n hx hb dX8_dropUnmarked_8 rfl (lv_at hl 2 rfl) ?_
        refine lv_iload_n hx hb dX8_dropUnmarked_9 rfl (lv_at hl 3 rfl) ?_
        refine lv_iload_n hx hb dX8_dropUnmarked_10 rfl (lv_at hl 0 rfl) ?_
        have hPc := hP.sub (ws' := [(mk, .inr (3, [.int (nI S), .ref m1, .ref m2])), (m1, .inl (G 0, 6, .inl z1)), (m2, .inl (G 0, 6, .inl z2))]) [0, 1, 2] rfl
        refine va_calli (va_runVN (As := [.int i, .int (nI j1)]) (rest := []) ⟨hx, hb, hml, hown, hg⟩ (c_X3_allowsE l dC dI G _ mk m1 m2 S i (nI j1) z1 z2 hS0) (kwVN hg hK mfX3_allows wn_780 ⟨Nat.le_of_ble_eq_true rfl, Nat.le_of_ble_eq_true rfl⟩) (preVR hK hPc (ci := 3) (r := (RX3, TX3, 3)) rfl rfl) rfl rfl hl.1 rfl (lv_room (Nat.le_of_ble_eq_true rfl)) dX8_dropUnmarked_11 ⟨Nat.le_of_ble_eq_true rfl, Nat.le_of_ble_eq_true rfl⟩) hS (fun q h1 h2 => absurd h2 (Nat.not_le.mpr h1)) (fun q h => hA q (Nat.le_trans hS.1 h)) (fun r9 ur9 t H1 locs ht hvm w10 hB hz1 hk1 hS => ?_)
        have hP := keepR hP hk1
        obtain ⟨w10, w10x⟩ := w10
        refine lv_if_ne (tgt := 21) hx hb dX8_dropUnmarked_14 rfl (fun c11 => ?_) (fun c11 => ?_)
        · skip
          refine lv_iinc (v := nI (j1 + 1)) (lv' := [(3, .int (nI (j1 + 1))), (0, .ref (ro k)), (1, .ref mk), (2, .int i)]) hx hb dX8_dropUnmarked_21 hl (k := 0) rfl (by rw [show Int32.ofInt 1 = nI 1 from by decide]; exact nI_add _ _) (by decide) rfl (fun ls hl => ?_)
          refine lv_goto (tgt := 2) hx hb dX8_dropUnmarked_24 rfl ?_
          exact ih2_3 (j1 + 1) (by omega) (by omega) g2 _ _ (hinv.ye (by show alB z1 z2 i (nI j1) S = true; have e7 := w10; by_cases e8 : alB z1 z2 i (nI j1) S = true; exact e8; (rw [if_neg e8] at e7; exact absurd e7 (by first | with_reducible assumption | assumption)))) hP hD hS ls (lv_sub hl [0, 1, 2, 3] rfl)
        · skip
          refine lv_aload_n hx hb dX8_dropUnmarked_17 rfl (lv_at hl 1 rfl) ?_
          refine lv_iload_n hx hb dX8_dropUnmarked_18 rfl (lv_at hl 0 rfl) ?_
          refine lv_iconst (v := 0) hx hb dX8_dropUnmarked_19 rfl ?_
          refine va_iastB2 (j := k) hx hb hK.1 hP hD hS 0 (by first | omega | (have t_hj5 := hj5; have t_n8 := n8; have t_c11 := eqI c11; have : (0 : Int32).toInt = 0 := qI_0; have tnb_ := nib2 tn2467_ tn2468_; omega)) rfl (vp_in_nI (by first | omega | (have t_hj5 := hj5; have t_n8 := n8; have t_c11 := eqI c11; have : (0 : Int32).toInt = 0 := qI_0; have tnb_ := nib2 tn2467_ tn2468_; omega)) (by decide)) dX8_dropUnmarked_20 (fun H locs hP hD hS => ?_)
          rw [nI_clamp (by first | omega | (have t_hj5 := hj5; have t_n8 := n8; have t_c11 := eqI c11; have : (0 : Int32).toInt = 0 := qI_0; have tnb_ := nib2 tn2467_ tn2468_; omega))] at hP hD
          obtain ⟨hP, hD⟩ := va_rls (ws' := (([(mk, .inr (3, [.int (nI S), .ref m1, .ref m2])), (m1, .inl (G 0, 6, .inl z1)), (m2, .inl (G 0, 6, .inl z2))] : va_W) ++ ((((List.range 11).map (fun iq => (ri iq, .inl (G 0, 10, .inl (F iq))))) : va_W) ++ ((((List.range 11).map (fun iq => (ro iq, .inl (G 0, 10, .inl ((va_up g2 k (upd (g2 k) j1 0)) iq))))) : va_W) ++ [])))) hP hD rfl
          refine lv_iinc (v := nI (j1 + 1)) (lv' := [(3, .int (nI (j1 + 1))), (0, .ref (ro k)), (1, .ref mk), (2, .int i)]) hx hb dX8_dropUnmarked_21 hl (k := 0) rfl (by rw [show Int32.ofInt 1 = nI 1 from by decide]; exact nI_add _ _) (by decide) rfl (fun ls hl => ?_)
          refine lv_goto (tgt := 2) hx hb dX8_dropUnmarked_24 rfl ?_
          exact ih2_3 (j1 + 1) (by omega) (by omega) (va_up g2 k (upd (g2 k) j1 0)) _ _ (hinv.no (fun e9 => by have e8 : alB z1 z2 i (nI j1) S = true := e9; have e7 := w10; rw [if_pos e8] at e7; exact absurd (e7.symm.trans (show _ = (0 : Int32) from by assumption)) (by decide))) hP hD hS ls (lv_sub hl [0, 1, 2, 3] rfl)
  exact loop2_3 (10 + 1) 0 (by omega) (by omega) E _ _ DUm.z hP hD hS ls (lv_sub hl [0, 1, 2, 3] rfl)

set_option maxHeartbeats 1000000 in
set_option maxRecDepth 100000 in
theorem c_X8_leadIntoE (l : Launch) (dC : Nat → ClassId) (dI : Nat → Nat → Nat) (G : Nat → ClassId) (sz : Nat) (h0 ti to i : Nat) (x1 tt : Int32) (ri ro : Nat → Nat) (F E : Nat → Nat → Int32) (hi : i < 10) : Met l yX8_leadInto (Cond.code yX8_leadInto cX8_leadInto 4 none :: GT) ({ frames := 1, cells := 0, slots := 0, locals := 21 } : Room) (PcW [.ref h0, .int x1, .int (nI i)] dC dI G (([(h0, .inr (8, [.int tt, .ref ti, .ref to])), (ti, .inl (G 4, 11, .inr (.inr (.inr (.inr (fun ir => if ir < 11 then some (ri ir) else none)))))), (to, .inl (G 4, 11, .inr (.inr (.inr (.inr (fun ir => if ir < 11 then some (ro ir) else none))))))] : va_W) ++ ((((List.range 11).map (fun iq => (ri iq, .inl (G 0, 10, .inl (F iq))))) : va_W) ++ ((((List.range 11).map (fun iq => (ro iq, .inl (G 0, 10, .inl (E iq))))) : va_W) ++ []))) sz) (va_Qv (fun (u : Int32 × (Nat → Nat → Int32) × (Nat → Nat → Int32)) => match u with | (u0, u1, u2) => u0 = tt ∧ LI1 (decide (0 < x1.toInt)) (decide (x1.toInt < 20)) i 10 u1 F ∧ u2 = E) (fun (u : Int32 × (Nat → Nat → Int32) × (Nat → Nat → Int32)) (t : State) => match u with | (u0, u1, u2) => va_P (dC, dI) vwCl (([(h0, .inr (8, [.int u0, .ref ti, .ref to])), (ti, .inl (G 4, 11, .inr (.inr (.inr (.inr (fun ir => if ir < 11 then some (ri ir) else none)))))), (to, .inl (G 4, 11, .inr (.inr (.inr (.inr (fun ir => if ir < 11 then some (ro ir) else none))))))] : va_W) ++ ((((List.range 11).map (fun iq => (ri iq, .inl (G 0, 10, .inl (u1 iq))))) : va_W) ++ ((((List.range 11).map (fun iq => (ro iq, .inl (G 0, 10, .inl (u2 iq))))) : va_W) ++ []))) t.heap ∧ va_D (va_A (([(h0, .inr (8, [.int tt, .ref ti, .ref to])), (ti, .inl (G 4, 11, .inr (.inr (.inr (.inr (fun ir => if ir < 11 then some (ri ir) else none)))))), (to, .inl (G 4, 11, .inr (.inr (.inr (.inr (fun ir => if ir < 11 then some (ro ir) else none))))))] : va_W) ++ ((((List.range 11).map (fun iq => (ri iq, .inl (G 0, 10, .inl (F iq))))) : va_W) ++ ((((List.range 11).map (fun iq => (ro iq, .inl (G 0, 10, .inl (E iq))))) : va_W) ++ []))) sz) (([(h0, .inr (8, [.int u0, .ref ti, .ref to])), (ti, .inl (G 4, 11, .inr (.inr (.inr (.inr (fun ir => if ir < 11 then some (ri ir) else none)))))), (to, .inl (G 4, 11, .inr (.inr (.inr (.inr (fun ir => if ir < 11 then some (ro ir) else none))))))] : va_W) ++ ((((List.range 11).map (fun iq => (ri iq, .inl (G 0, 10, .inl (u1 iq))))) : va_W) ++ ((((List.range 11).map (fun iq => (ro iq, .inl (G 0, 10, .inl (u2 iq))))) : va_W) ++ [])))) (va_A (([(h0, .inr (8, [.int tt, .ref ti, .ref to])), (ti, .inl (G 4, 11, .inr (.inr (.inr (.inr (fun ir => if ir < 11 then some (ri ir) else none)))))), (to, .inl (G 4, 11, .inr (.inr (.inr (.inr (fun ir => if ir < 11 then some (ro ir) else none))))))] : va_W) ++ ((((List.range 11).map (fun iq => (ri iq, .inl (G 0, 10, .inl (F iq))))) : va_W) ++ ((((List.range 11).map (fun iq => (ro iq, .inl (G 0, 10, .inl (E iq))))) : va_W) ++ []))) sz)) 0 0 (va_A (([(h0, .inr (8, [.int tt, .ref ti, .ref to])), (ti, .inl (G 4, 11, .inr (.inr (.inr (.inr (fun ir => if ir < 11 then some (ri ir) else none)))))), (to, .inl (G 4, 11, .inr (.inr (.inr (.inr (fun ir => if ir < 11 then some (ro ir) else none))))))] : va_W) ++ ((((List.range 11).map (fun iq => (ri iq, .inl (G 0, 10, .inl (F iq))))) : va_W) ++ ((((List.range 11).map (fun iq => (ro iq, .inl (G 0, 10, .inl (E iq))))) : va_W) ++ []))) sz) := by
  refine Met.ofW (cc := cX8_leadInto) (maxL := 4) (ret := none) (by decide) rfl ?_
  intro p e s m args below meth c s₁ Bd hml hv
  obtain ⟨rfl, hsz, hP, hK, hD0⟩ := hv
  have hx := Bd.exec
  have hb := Bd.bytes
  have hr := Bd.returns
  have hg : ∀ w ∈ GT, w.before ([.ref h0, .int x1, .int (nI i)] : List Value).toArray s = true := fun w h => atoms_spec (ws := Cond.code yX8_leadInto cX8_leadInto 4 none :: GT) Bd.pre w (List.mem_cons_of_mem _ h)
  have hown : s.vm.findClass RX8 = some m.cls := findClass_of_methodNamed Bd.named
  have hlocks := Bd.notSynchronized
  subst hsz
  have hD := hD0.self (sz := s.heap.size)
  generalize hAe : va_A (([(h0, .inr (8, [.int tt, .ref ti, .ref to])), (ti, .inl (G 4, 11, .inr (.inr (.inr (.inr (fun ir => if ir < 11 then some (ri ir) else none)))))), (to, .inl (G 4, 11, .inr (.inr (.inr (.inr (fun ir => if ir < 11 then some (ro ir) else none))))))] : va_W) ++ ((((List.range 11).map (fun iq => (ri iq, .inl (G 0, 10, .inl (F iq))))) : va_W) ++ ((((List.range 11).map (fun iq => (ro iq, .inl (G 0, 10, .inl (E iq))))) : va_W) ++ []))) s.heap.size = A at hD ⊢
  have hA : ∀ q : Nat, s.heap.size ≤ q → A q := fun q h => by rw [← hAe]; exact Or.inr h
  have hS : va_S A s.heap s.heap [] := va_S.rf
  have hl := lv_entry ([.ref h0, .int x1, .int (nI i)]) (n := 4) (Nat.le_of_ble_eq_true rfl)
  rw [lg_entry_eq]
  generalize (lg_sl ([.ref h0, .int x1, .int (nI i)]) ++ List.replicate (4 - (lg_sl ([.ref h0, .int x1, .int (nI i)])).length) Slot.unset).toArray = ls at hl ⊢
  have hl : lv_has ls 4 [(0, .ref h0), (1, .int x1), (2, .int (nI i))] := hl
  refine lv_iconst (v := 0) hx hb dX8_leadInto_0 rfl ?_
  refine lv_istore_n (lv' := [(3, .int 0), (0, .ref h0), (1, .int x1), (2, .int (nI i))]) hx hb dX8_leadInto_1 rfl hl (by decide) rfl (fun ls hl => ?_)
  have loop2_3 : ∀ (nf j1 : Nat), 10 + 1 ≤ j1 + nf → j1 ≤ 10 → ∀ (g2 : Nat → Nat → Int32) (H : Heap) (locs : List Loc), LI0 i j1 g2 F → va_P (dC, dI) vwCl (([(h0, .inr (8, [.int tt, .ref ti, .ref to])), (ti, .inl (G 4, 11, .inr (.inr (.inr (.inr (fun ir => if ir < 11 then some (ri ir) else none)))))), (to, .inl (G 4, 11, .inr (.inr (.inr (.inr (fun ir => if ir < 11 then some (ro ir) else none))))))] : va_W) ++ ((((List.range 11).map (fun iq => (ri iq, .inl (G 0, 10, .inl (g2 iq))))) : va_W) ++ ((((List.range 11).map (fun iq => (ro iq, .inl (G 0, 10, .inl (E iq))))) : va_W) ++ []))) H → va_D A (([(h0, .inr (8, [.int tt, .ref ti, .ref to])), (ti, .inl (G 4, 11, .inr (.inr (.inr (.inr (fun ir => if ir < 11 then some (ri ir) else none)))))), (to, .inl (G 4, 11, .inr (.inr (.inr (.inr (fun ir => if ir < 11 then some (ro ir) else none))))))] : va_W) ++ ((((List.range 11).map (fun iq => (ri iq, .inl (G 0, 10, .inl (g2 iq))))) : va_W) ++ ((((List.range 11).map (fun iq => (ro iq, .inl (G 0, 10, .inl (E iq))))) : va_W) ++ []))) → va_S A s.heap H locs → ∀ (ls : Array Slot), lv_has ls 4 [(3, .int (nI j1)), (0, .ref h0), (1, .int x1), (2, .int (nI i))] → W p l e (headSpec (Cond.code yX8_leadInto cX8_leadInto 4 none :: GT) ({ frames := 1, cells := 0, slots := 0, locals := 21 } : Room)).room s m ([.ref h0, .int x1, .int (nI i)] : List Value).toArray below meth c H locs 0 0 (MQ below (va_Qv (fun (u : Int32 × (Nat → Nat → Int32) × (Nat → Nat → Int32)) => match u with | (u0, u1, u2) => u0 = tt ∧ LI1 (decide (0 < x1.toInt)) (decide (x1.toInt < 20)) i 10 u1 F ∧ u2 = E) (fun (u : Int32 × (Nat → Nat → Int32) × (Nat → Nat → Int32)) (t : State) => match u with | (u0, u1, u2) => va_P (dC, dI) vwCl (([(h0, .inr (8, [.int u0, .ref ti, .ref to])), (ti, .inl (G 4, 11, .inr (.inr (.inr (.inr (fun ir => if ir < 11 then some (ri ir) else none)))))), (to, .inl (G 4, 11, .inr (.inr (.inr (.inr (fun ir => if ir < 11 then some (ro ir) else none))))))] : va_W) ++ ((((List.range 11).map (fun iq => (ri iq, .inl (G 0, 10, .inl (u1 iq))))) : va_W) ++ ((((List.range 11).map (fun iq => (ro iq, .inl (G 0, 10, .inl (u2 iq))))) : va_W) ++ []))) t.heap ∧ va_D A (([(h0, .inr (8, [.int u0, .ref ti, .ref to])), (ti, .inl (G 4, 11, .inr (.inr (.inr (.inr (fun ir => if ir < 11 then some (ri ir) else none)))))), (to, .inl (G 4, 11, .inr (.inr (.inr (.inr (fun ir => if ir < 11 then some (ro ir) else none))))))] : va_W) ++ ((((List.range 11).map (fun iq => (ri iq, .inl (G 0, 10, .inl (u1 iq))))) : va_W) ++ ((((List.range 11).map (fun iq => (ro iq, .inl (G 0, 10, .inl (u2 iq))))) : va_W) ++ [])))) A) ([.ref h0, .int x1, .int (nI i)] : List Value).toArray s 0 0 A) (F0 m 2 ls []) := by
    intro nf
    induction nf with
    | zero => intro j1 h1 h2; exact absurd h1 (by omega)
    | succ nf ih2_3 =>
      intro j1 hn4 hj5 g2 H locs hinv hP hD hS ls hl
      refine lv_iload_n hx hb dX8_leadInto_2 rfl (lv_at hl 0 rfl) ?_
      refine lv_bipush (v := 10) hx hb dX8_leadInto_3 rfl ?_
      refine lv_icmp_ge (tgt := 25) hx hb dX8_leadInto_5 rfl (fun c6 => ?_) (fun c6 => ?_)
      · skip
        have tn2469_ : nIT j1 := fun _ => nI_toInt (by first | omega | (have t := leI c6; omega))
        have n7 : 10 ≤ j1 := by have t := leI c6; rw [show (nI (j1)).toInt = ((j1 : Nat) : Int) from tn2469_ ()] at t; have : (10 : Int32).toInt = 10 := qI_10; omega
        have hZ9 : LI0 i 10 g2 F := (by rw [show (10 : Nat) = j1 by omega]; exact hinv)
        refine lv_aload_n hx hb dX8_leadInto_25 rfl (lv_at hl 1 rfl) ?_
        refine va_get (D := (dC, dI)) (ci := 8) (v := .ref ti) (C := RX8) (T := TX8) (N := 3) hx hb hg inG8 hown hK.1 hP 0 rfl rfl 1 (Nat.le_of_ble_eq_true rfl) (hg _ wt_260) (fun _ h9 => h9) rfl dX8_leadInto_26 ?_
        refine lv_iload_n hx hb dX8_leadInto_29 rfl (lv_at hl 3 rfl) ?_
        refine lv_iconst (v := 1) hx hb dX8_leadInto_30 rfl ?_
        refine lv_iadd hx hb dX8_leadInto_31 ?_
        refine lv_cg (y := nI (i + 1)) (by rw [show (1 : Int32) = nI 1 from rfl]; exact nI_add _ _) ?_
        have tn2470_ : nIT i := fun _ => nI_toInt (by first | omega | (have t_hj5 := hj5; have t_n7 := n7; omega))
        refine va_aldA hx hb hK.1 hP 1 4 rfl rfl (vp_in_nI (by first | omega | (have t_hj5 := hj5; have t_n7 := n7; have tnb_ := nib2 tn2470_ tn2469_; omega)) (by decide)) dX8_leadInto_32 ?_
        refine lv_cgv (y := .ref (ri (i + 1))) (rowref (by first | omega | (have t_hj5 := hj5; have t_n7 := n7; have tnb_ := nib2 tn2470_ tn2469_; omega)) (by decide)) ?_
        refine lv_iconst (v := 0) hx hb dX8_leadInto_33 rfl ?_
        refine lv_aload_n hx hb dX8_leadInto_34 rfl (lv_at hl 1 rfl) ?_
        refine va_get (D := (dC, dI)) (ci := 8) (v := .ref ti) (C := RX8) (T := TX8) (N := 3) hx hb hg inG8 hown hK.1 hP 0 rfl rfl 1 (Nat.le_of_ble_eq_true rfl) (hg _ wt_260) (fun _ h9 => h9) rfl dX8_leadInto_35 ?_
        refine lv_iload_n hx hb dX8_leadInto_38 rfl (lv_at hl 3 rfl) ?_
        refine va_aldA hx hb hK.1 hP 1 4 rfl rfl (vp_in_nI (by first | omega | (have t_hj5 := hj5; have t_n7 := n7; have tnb_ := nib2 tn2470_ tn2469_; omega)) (by decide)) dX8_leadInto_39 ?_
        refine lv_cgv (y := .ref (ri i)) (rowref (by first | omega | (have t_hj5 := hj5; have t_n7 := n7; have tnb_ := nib2 tn2470_ tn2469_; omega)) (by decide)) ?_
        refine lv_iconst (v := 0) hx hb dX8_leadInto_40 rfl ?_
        refine va_iald hx hb hK.1 (blk_P (j := i) hP (by first | omega | (have t_hj5 := hj5; have t_n7 := n7; have tnb_ := nib2 tn2470_ tn2469_; omega))) 0 0 rfl rfl (vp_in_iff.mpr ⟨by decide, by decide⟩) dX8_leadInto_41 ?_
        refine lv_cg (y := g2 i 0) (by rfl) ?_
        refine va_iastB (j := (i + 1)) hx hb hK.1 hP hD hS 0 (by first | omega | (have t_hj5 := hj5; have t_n7 := n7; have tnb_ := nib2 tn2470_ tn2469_; omega)) rfl (vp_in_iff.mpr ⟨by decide, by decide⟩) dX8_leadInto_42 (fun H locs hP hD hS => ?_)
        obtain ⟨hP, hD⟩ := va_rls (ws' := (([(h0, .inr (8, [.int tt, .ref ti, .ref to])), (ti, .inl (G 4, 11, .inr (.inr (.inr (.inr (fun ir => if ir < 11 then some (ri ir) else none)))))), (to, .inl (G 4, 11, .inr (.inr (.inr (.inr (fun ir => if ir < 11 then some (ro ir) else none))))))] : va_W) ++ ((((List.range 11).map (fun iq => (ri iq, .inl (G 0, 10, .inl ((va_up g2 (i + 1) (upd (g2 (i + 1)) 0 (g2 i 0))) iq))))) : va_W) ++ ((((List.range 11).map (fun iq => (ro iq, .inl (G 0, 10, .inl (E iq))))) : va_W) ++ [])))) hP hD rfl
        refine lv_iconst (v := 1) hx hb dX8_leadInto_43 rfl ?_
        refine lv_istore_n (lv' := [(3, .int 1), (0, .ref h0), (1, .int x1), (2, .int (nI i))]) hx hb dX8_leadInto_44 rfl hl (by decide) rfl (fun ls hl => ?_)
        have loop45_10 : ∀ (nf j8 : Nat), 10 + 1 ≤ j8 + nf → j8 ≤ 10 → 1 ≤ j8 → ∀ (g9 : Nat → Nat → Int32) (H : Heap) (locs : List Loc), LI1 (decide (0 < x1.toInt)) (decide (x1.toInt < 20)) i j8 g9 F → va_P (dC, dI) vwCl (([(h0, .inr (8, [.int tt, .ref ti, .ref to])), (ti, .inl (G 4, 11, .inr (.inr (.inr (.inr (fun ir => if ir < 11 then some (ri ir) else none)))))), (to, .inl (G 4, 11, .inr (.inr (.inr (.inr (fun ir => if ir < 11 then some (ro ir) else none))))))] : va_W) ++ ((((List.range 11).map (fun iq => (ri iq, .inl (G 0, 10, .inl (g9 iq))))) : va_W) ++ ((((List.range 11).map (fun iq => (ro iq, .inl (G 0, 10, .inl (E iq))))) : va_W) ++ []))) H → va_D A (([(h0, .inr (8, [.int tt, .ref ti, .ref to])), (ti, .inl (G 4, 11, .inr (.inr (.inr (.inr (fun ir => if ir < 11 then some (ri ir) else none)))))), (to, .inl (G 4, 11, .inr (.inr (.inr (.inr (fun ir => if ir < 11 then some (ro ir) else none))))))] : va_W) ++ ((((List.range 11).map (fun iq => (ri iq, .inl (G 0, 10, .inl (g9 iq))))) : va_W) ++ ((((List.range 11).map (fun iq => (ro iq, .inl (G 0, 10, .inl (E iq))))) : va_W) ++ []))) → va_S A s.heap H locs → ∀ (ls : Array Slot), lv_has ls 4 [(3, .int (nI j8)), (0, .ref h0), (1, .int x1), (2, .int (nI i))] → W p l e (headSpec (Cond.code yX8_leadInto cX8_leadInto 4 none :: GT) ({ frames := 1, cells := 0, slots := 0, locals := 21 } : Room)).room s m ([.ref h0, .int x1, .int (nI i)] : List Value).toArray below meth c H locs 0 0 (MQ below (va_Qv (fun (u : Int32 × (Nat → Nat → Int32) × (Nat → Nat → Int32)) => match u with | (u0, u1, u2) => u0 = tt ∧ LI1 (decide (0 < x1.toInt)) (decide (x1.toInt < 20)) i 10 u1 F ∧ u2 = E) (fun (u : Int32 × (Nat → Nat → Int32) × (Nat → Nat → Int32)) (t : State) => match u with | (u0, u1, u2) => va_P (dC, dI) vwCl (([(h0, .inr (8, [.int u0, .ref ti, .ref to])), (ti, .inl (G 4, 11, .inr (.inr (.inr (.inr (fun ir => if ir < 11 then some (ri ir) else none)))))), (to, .inl (G 4, 11, .inr (.inr (.inr (.inr (fun ir => if ir < 11 then some (ro ir) else none))))))] : va_W) ++ ((((List.range 11).map (fun iq => (ri iq, .inl (G 0, 10, .inl (u1 iq))))) : va_W) ++ ((((List.range 11).map (fun iq => (ro iq, .inl (G 0, 10, .inl (u2 iq))))) : va_W) ++ []))) t.heap ∧ va_D A (([(h0, .inr (8, [.int u0, .ref ti, .ref to])), (ti, .inl (G 4, 11, .inr (.inr (.inr (.inr (fun ir => if ir < 11 then some (ri ir) else none)))))), (to, .inl (G 4, 11, .inr (.inr (.inr (.inr (fun ir => if ir < 11 then some (ro ir) else none))))))] : va_W) ++ ((((List.range 11).map (fun iq => (ri iq, .inl (G 0, 10, .inl (u1 iq))))) : va_W) ++ ((((List.range 11).map (fun iq => (ro iq, .inl (G 0, 10, .inl (u2 iq))))) : va_W) ++ [])))) A) ([.ref h0, .int x1, .int (nI i)] : List Value).toArray s 0 0 A) (F0 m 45 ls []) := by
          intro nf
          induction nf with
          | zero => intro j8 h1 h2; exact absurd h1 (by omega)
          | succ nf ih45_10 =>
            intro j8 hn11 hj12 hlo_j8 g9 H locs hinv hP hD hS ls hl
            refine lv_iload_n hx hb dX8_leadInto_45 rfl (lv_at hl 0 rfl) ?_
            refine lv_bipush (v := 10) hx hb dX8_leadInto_46 rfl ?_
            refine lv_icmp_ge (tgt := 118) hx hb dX8_leadInto_48 rfl (fun c13 => ?_) (fun c13 => ?_)
            · skip
              have tn2471_ : nIT j8 := fun _ => nI_toInt (by first | omega | (have t := leI c13; omega))
              have n14 : 10 ≤ j8 := by have t := leI c13; rw [show (nI (j8)).toInt = ((j8 : Nat) : Int) from tn2471_ ()] at t; have : (10 : Int32).toInt = 10 := qI_10; omega
              obtain ⟨hP9, hD9⟩ := va_sub2 (ws' := (([(h0, .inr (8, [.int tt, .ref ti, .ref to])), (ti, .inl (G 4, 11, .inr (.inr (.inr (.inr (fun ir => if ir < 11 then some (ri ir) else none)))))), (to, .inl (G 4, 11, .inr (.inr (.inr (.inr (fun ir => if ir < 11 then some (ro ir) else none))))))] : va_W) ++ ((((List.range 11).map (fun iq => (ri iq, .inl (G 0, 10, .inl (g9 iq))))) : va_W) ++ ((((List.range 11).map (fun iq => (ro iq, .inl (G 0, 10, .inl (E iq))))) : va_W) ++ [])))) hP hD [0, 1, 2, 3, 4, 5, 6, 7, 8, 9, 10, 11, 12, 13, 14, 15, 16, 17, 18, 19, 20, 21, 22, 23, 24] (by decide +kernel) rfl
              refine W.widen (k := 0) (n := 0) (Nat.le_of_ble_eq_true rfl) (Nat.le_of_ble_eq_true rfl) ?_
              exact W.vret hx hb hr (fun t ht hW => ⟨⟨(tt, g9, E), rfl, ⟨rfl, (by rw [show (10 : Nat) = j8 by omega]; exact hinv), rfl⟩, ⟨by rw [ht]; exact hP9, hD9⟩⟩, hS.F ht⟩) hS.2.2 dX8_leadInto_118
            · skip
              have tn2472_ : nIT j8 := fun _ => nI_toInt (by first | omega | (have t := nleI c13; omega))
              have n15 : j8 < 10 := by have t := nleI c13; rw [show (nI (j8)).toInt = ((j8 : Nat) : Int) from tn2472_ ()] at t; have : (10 : Int32).toInt = 10 := qI_10; omega
              refine lv_iload_n hx hb dX8_leadInto_51 rfl (lv_at hl 2 rfl) ?_
              refine lv_if_le (tgt := 78) hx hb dX8_leadInto_52 rfl (fun c16 => ?_) (fun c16 => ?_)
              · skip
                refine lv_iload_n hx hb dX8_leadInto_78 rfl (lv_at hl 2 rfl) ?_
                refine lv_bipush (v := 20) hx hb dX8_leadInto_79 rfl ?_
                refine lv_icmp_ge (tgt := 112) hx hb dX8_leadInto_81 rfl (fun c17 => ?_) (fun c17 => ?_)
                · skip
                  have t_hj5 := hj5
                  have t_n7 := n7
                  have t_hj12 := hj12
                  have t_hlo_j8 := hlo_j8
                  have t_n15 := n15
                  have t_c16 := leI c16
                  have t_c17 := leI c17
                  have : (0 : Int32).toInt = 0 := qI_0
                  have : (20 : Int32).toInt = 20 := qI_20
                  have t_n0 : (nI i).toInt = (i : Int) := tn2470_ ()
                  have t_n1 : (nI j1).toInt = (j1 : Int) := tn2469_ ()
                  have t_n2 : (nI j8).toInt = (j8 : Int) := tn2472_ ()
                  exfalso; omega
                · skip
                  refine lv_aload_n hx hb dX8_leadInto_84 rfl (lv_at hl 1 rfl) ?_
                  refine va_get (D := (dC, dI)) (ci := 8) (v := .ref ti) (C := RX8) (T := TX8) (N := 3) hx hb hg inG8 hown hK.1 hP 0 rfl rfl 1 (Nat.le_of_ble_eq_true rfl) (hg _ wt_260) (fun _ h9 => h9) rfl dX8_leadInto_85 ?_
                  refine lv_iload_n hx hb dX8_leadInto_88 rfl (lv_at hl 3 rfl) ?_
                  refine lv_iconst (v := 1) hx hb dX8_leadInto_89 rfl ?_
                  refine lv_iadd hx hb dX8_leadInto_90 ?_
                  refine lv_cg (y := nI (i + 1)) (by rw [show (1 : Int32) = nI 1 from rfl]; exact nI_add _ _) ?_
                  refine va_aldA hx hb hK.1 hP 1 4 rfl rfl (vp_in_nI (by first | omega | (have t_hj5 := hj5; have t_n7 := n7; have t_hj12 := hj12; have t_hlo_j8 := hlo_j8; have t_n15 := n15; have t_c16 := leI c16; have t_c17 := nleI c17; have tqz_ := qz12_; have tnb_ := nib3 tn2470_ tn2469_ tn2472_; omega)) (by decide)) dX8_leadInto_91 ?_
                  refine lv_cgv (y := .ref (ri (i + 1))) (rowref (by first | omega | (have t_hj5 := hj5; have t_n7 := n7; have t_hj12 := hj12; have t_hlo_j8 := hlo_j8; have t_n15 := n15; have t_c16 := leI c16; have t_c17 := nleI c17; have tqz_ := qz12_; have tnb_ := nib3 tn2470_ tn2469_ tn2472_; omega)) (by decide)) ?_
                  refine lv_bipush (v := 9) hx hb dX8_leadInto_92 rfl ?_
                  refine lv_iload_n hx hb dX8_leadInto_94 rfl (lv_at hl 0 rfl) ?_
                  refine lv_iconst (v := 1) hx hb dX8_leadInto_95 rfl ?_
                  refine lv_iadd hx hb dX8_leadInto_96 ?_
                  refine lv_cg (y := nI (j8 + 1)) (by rw [show (1 : Int32) = nI 1 from rfl]; exact nI_add _ _) ?_
                  have hPc := hP.sub (ws' := []) [] rfl
                  refine va_calli (va_runS (As := [.int 9, .int (nI (j8 + 1))]) (rest := [.ref (ri (i + 1))]) ⟨hx, hb, hml, hown, hg⟩ (c_J9_min l dC dI G _ 9 (nI (j8 + 1))) (kwS hg mfJ9_min_7cf53 wt_776 ⟨Nat.le_of_ble_eq_true rfl, Nat.le_of_ble_eq_true rfl⟩) (preSR hK hPc) rfl rfl hl.1 rfl (lv_room (Nat.le_of_ble_eq_true rfl)) dX8_leadInto_97 ⟨Nat.le_of_ble_eq_true rfl, Nat.le_of_ble_eq_true rfl⟩) hS (fun q h1 h2 => absurd h2 (Nat.not_le.mpr h1)) (fun q h => hA q (Nat.le_trans hS.1 h)) (fun r18 ur18 t H1 locs ht hvm w19 hB hz1 hk1 hS => ?_)
                  have hP := keepR hP hk1
                  obtain ⟨w19, w19x⟩ := w19
                  have w19 : r18 = nI (min 9 (j8 + 1)) := w19.trans (mn_nI (a := 9) (b := (j8 + 1)) (by omega) (by omega))
                  subst w19
                  refine lv_dup2_11 hx hb dX8_leadInto_100 rfl rfl ?_
                  refine va_iald hx hb hK.1 (blk_P (j := (i + 1)) hP (by first | omega | (have t_hj5 := hj5; have t_n7 := n7; have t_hj12 := hj12; have t_hlo_j8 := hlo_j8; have t_n15 := n15; have t_c16 := leI c16; have t_c17 := nleI c17; have tqz_ := qz12_; have tnb_ := nib3 tn2470_ tn2469_ tn2472_; omega))) 0 0 rfl rfl (vp_in_nI (by first | omega | (have t_hj5 := hj5; have t_n7 := n7; have t_hj12 := hj12; have t_hlo_j8 := hlo_j8; have t_n15 := n15; have t_c16 := leI c16; have t_c17 := nleI c17; have tqz_ := qz12_; have tnb_ := nib3 tn2470_ tn2469_ tn2472_; omega)) (by decide)) dX8_leadInto_101 ?_
                  refine lv_cg (y := g9 (i + 1) (min 9 (j8 + 1))) (by rw [nI_clamp (by first | omega | (have t_hj5 := hj5; have t_n7 := n7; have t_hj12 := hj12; have t_hlo_j8 := hlo_j8; have t_n15 := n15; have t_c16 := leI c16; have t_c17 := nleI c17; have tqz_ := qz12_; have tnb_ := nib3 tn2470_ tn2469_ tn2472_; omega))]) ?_
                  refine lv_aload_n hx hb dX8_leadInto_102 rfl (lv_at hl 1 rfl) ?_
                  refine va_get (D := (dC, dI)) (ci := 8) (v := .ref ti) (C := RX8) (T := TX8) (N := 3) hx hb hg inG8 hown hK.1 hP 0 rfl rfl 1 (Nat.le_of_ble_eq_true rfl) (hg _ wt_260) (fun _ h9 => h9) rfl dX8_leadInto_103 ?_
                  refine lv_iload_n hx hb dX8_leadInto_106 rfl (lv_at hl 3 rfl) ?_
                  refine va_aldA hx hb hK.1 hP 1 4 rfl rfl (vp_in_nI (by first | omega | (have t_hj5 := hj5; have t_n7 := n7; have t_hj12 := hj12; have t_hlo_j8 := hlo_j8; have t_n15 := n15; have t_c16 := leI c16; have t_c17 := nleI c17; have tqz_ := qz12_; have tnb_ := nib3 tn2470_ tn2469_ tn2472_; omega)) (by decide)) dX8_leadInto_107 ?_
                  refine lv_cgv (y := .ref (ri i)) (rowref (by first | omega | (have t_hj5 := hj5; have t_n7 := n7; have t_hj12 := hj12; have t_hlo_j8 := hlo_j8; have t_n15 := n15; have t_c16 := leI c16; have t_c17 := nleI c17; have tqz_ := qz12_; have tnb_ := nib3 tn2470_ tn2469_ tn2472_; omega)) (by decide)) ?_
                  refine lv_iload_n hx hb dX8_leadInto_108 rfl (lv_at hl 0 rfl) ?_
                  refine va_iald hx hb hK.1 (blk_P (j := i) hP (by first | omega | (have t_hj5 := hj5; have t_n7 := n7; have t_hj12 := hj12; have t_hlo_j8 := hlo_j8; have t_n15 := n15; have t_c16 := leI c16; have t_c17 := nleI c17; have tqz_ := qz12_; have tnb_ := nib3 tn2470_ tn2469_ tn2472_; omega))) 0 0 rfl rfl (vp_in_nI (by first | omega | (have t_hj5 := hj5; have t_n7 := n7; have t_hj12 := hj12; have t_hlo_j8 := hlo_j8; have t_n15 := n15; have t_c16 := leI c16; have t_c17 := nleI c17; have tqz_ := qz12_; have tnb_ := nib3 tn2470_ tn2469_ tn2472_; omega)) (by decide)) dX8_leadInto_109 ?_
                  refine lv_cg (y := g9 i j8) (by rw [nI_clamp (by first | omega | (have t_hj5 := hj5; have t_n7 := n7; have t_hj12 := hj12; have t_hlo_j8 := hlo_j8; have t_n15 := n15; have t_c16 := leI c16; have t_c17 := nleI c17; have tqz_ := qz12_; have tnb_ := nib3 tn2470_ tn2469_ tn2472_; omega))]) ?_
                  refine lv_iadd hx hb dX8_leadInto_110 ?_
                  refine va_iastB (j := (i + 1)) hx hb hK.1 hP hD hS 0 (by first | omega | (have t_hj5 := hj5; have t_n7 := n7; have t_hj12 := hj12; have t_hlo_j8 := hlo_j8; have t_n15 := n15; have t_c16 := leI c16; have t_c17 := nleI c17; have tqz_ := qz12_; have tnb_ := nib3 tn2470_ tn2469_ tn2472_; omega)) rfl (vp_in_nI (by first | omega | (have t_hj5 := hj5; have t_n7 := n7; have t_hj12 := hj12; have t_hlo_j8 := hlo_j8; have t_n15 := n15; have t_c16 := leI c16; have t_c17 := nleI c17; have tqz_ := qz12_; have tnb_ := nib3 tn2470_ tn2469_ tn2472_; omega)) (by decide)) dX8_leadInto_111 (fun H locs hP hD hS => ?_)
                  rw [nI_clamp (by first | omega | (have t_hj5 := hj5; have t_n7 := n7; have t_hj12 := hj12; have t_hlo_j8 := hlo_j8; have t_n15 := n15; have t_c16 := leI c16; have t_c17 := nleI c17; have tqz_ := qz12_; have tnb_ := nib3 tn2470_ tn2469_ tn2472_; omega))] at hP hD
                  obtain ⟨hP, hD⟩ := va_rls (ws' := (([(h0, .inr (8, [.int tt, .ref ti, .ref to])), (ti, .inl (G 4, 11, .inr (.inr (.inr (.inr (fun ir => if ir < 11 then some (ri ir) else none)))))), (to, .inl (G 4, 11, .inr (.inr (.inr (.inr (fun ir => if ir < 11 then some (ro ir) else none))))))] : va_W) ++ ((((List.range 11).map (fun iq => (ri iq, .inl (G 0, 10, .inl ((va_up g9 (i + 1) (upd (g9 (i + 1)) (min 9 (j8 + 1)) ((g9 (i + 1) (min 9 (j8 + 1))) + (g9 i j8)))) iq))))) : va_W) ++ ((((List.range 11).map (fun iq => (ro iq, .inl (G 0, 10, .inl (E iq))))) : va_W) ++ [])))) hP hD rfl
                  refine lv_iinc (v := nI (j8 + 1)) (lv' := [(3, .int (nI (j8 + 1))), (0, .ref h0), (1, .int x1), (2, .int (nI i))]) hx hb dX8_leadInto_112 hl (k := 0) rfl (by rw [show Int32.ofInt 1 = nI 1 from by decide]; exact nI_add _ _) (by decide) rfl (fun ls hl => ?_)
                  refine lv_goto (tgt := 45) hx hb dX8_leadInto_115 rfl ?_
                  exact ih45_10 (j8 + 1) (by omega) (by omega) (by omega) (va_up g9 (i + 1) (upd (g9 (i + 1)) (min 9 (j8 + 1)) ((g9 (i + 1) (min 9 (j8 + 1))) + (g9 i j8)))) _ _ (li_r hinv (by omega) (by omega) (fun e9 => by have e8 := of_decide_eq_true e9; have t_hj5 := hj5; have t_n7 := n7; have t_hj12 := hj12; have t_hlo_j8 := hlo_j8; have t_n15 := n15; have t_c16 := leI c16; have t_c17 := nleI c17; have tqz_ := qz12_; have tnb_ := nib3 tn2470_ tn2469_ tn2472_; have lz0 : (0 : Int32).toInt = 0 := qI_0; have lz1 : (1 : Int32).toInt = 1 := qI_1; have lz2 : (2 : Int32).toInt = 2 := qI_2; have lz3 : (3 : Int32).toInt = 3 := qI_3; have lz5 : (5 : Int32).toInt = 5 := qI_5; have lz9 : (9 : Int32).toInt = 9 := qI_9; have lz20 : (20 : Int32).toInt = 20 := qI_20; omega) (decide_eq_true (by have t_hj5 := hj5; have t_n7 := n7; have t_hj12 := hj12; have t_hlo_j8 := hlo_j8; have t_n15 := n15; have t_c16 := leI c16; have t_c17 := nleI c17; have tqz_ := qz12_; have tnb_ := nib3 tn2470_ tn2469_ tn2472_; have lz0 : (0 : Int32).toInt = 0 := qI_0; have lz1 : (1 : Int32).toInt = 1 := qI_1; have lz2 : (2 : Int32).toInt = 2 := qI_2; have lz3 : (3 : Int32).toInt = 3 := qI_3; have lz5 : (5 : Int32).toInt = 5 := qI_5; have lz9 : (9 : Int32).toInt = 9 := qI_9; have lz20 : (20 : Int32).toInt = 20 := qI_20; omega))) hP hD hS ls (lv_sub hl [0, 1, 2, 3] rfl)
              · skip
                refine lv_aload_n hx hb dX8_leadInto_55 rfl (lv_at hl 1 rfl) ?_
                refine va_get (D := (dC, dI)) (ci := 8) (v := .ref ti) (C := RX8) (T := TX8) (N := 3) hx hb hg inG8 hown hK.1 hP 0 rfl rfl 1 (Nat.le_of_ble_eq_true rfl) (hg _ wt_260) (fun _ h9 => h9) rfl dX8_leadInto_56 ?_
                refine lv_iload_n hx hb dX8_leadInto_59 rfl (lv_at hl 3 rfl) ?_
                refine lv_iconst (v := 1) hx hb dX8_leadInto_60 rfl ?_
                refine lv_iadd hx hb dX8_leadInto_61 ?_
                refine lv_cg (y := nI (i + 1)) (by rw [show (1 : Int32) = nI 1 from rfl]; exact nI_add _ _) ?_
                refine va_aldA hx hb hK.1 hP 1 4 rfl rfl (vp_in_nI (by first | omega | (have t_hj5 := hj5; have t_n7 := n7; have t_hj12 := hj12; have t_hlo_j8 := hlo_j8; have t_n15 := n15; have t_c16 := nleI c16; have : (0 : Int32).toInt = 0 := qI_0; have tnb_ := nib3 tn2470_ tn2469_ tn2472_; omega)) (by decide)) dX8_leadInto_62 ?_
                refine lv_cgv (y := .ref (ri (i + 1))) (rowref (by first | omega | (have t_hj5 := hj5; have t_n7 := n7; have t_hj12 := hj12; have t_hlo_j8 := hlo_j8; have t_n15 := n15; have t_c16 := nleI c16; have : (0 : Int32).toInt = 0 := qI_0; have tnb_ := nib3 tn2470_ tn2469_ tn2472_; omega)) (by decide)) ?_
                refine lv_iload_n hx hb dX8_leadInto_63 rfl (lv_at hl 0 rfl) ?_
                refine lv_iconst (v := 1) hx hb dX8_leadInto_64 rfl ?_
                refine lv_isub hx hb dX8_leadInto_65 ?_
                refine lv_cg (y := nI (j8 - 1)) (by rw [show (1 : Int32) = nI 1 from rfl]; exact pk_sub (by have t_hj5 := hj5; have t_n7 := n7; have t_hj12 := hj12; have t_hlo_j8 := hlo_j8; have t_n15 := n15; have t_c16 := nleI c16; have : (0 : Int32).toInt = 0 := qI_0; have tnb_ := nib3 tn2470_ tn2469_ tn2472_; omega)) ?_
                refine lv_dup2_11 hx hb dX8_leadInto_66 rfl rfl ?_
                refine va_iald hx hb hK.1 (blk_P (j := (i + 1)) hP (by first | omega | (have t_hj5 := hj5; have t_n7 := n7; have t_hj12 := hj12; have t_hlo_j8 := hlo_j8; have t_n15 := n15; have t_c16 := nleI c16; have : (0 : Int32).toInt = 0 := qI_0; have tnb_ := nib3 tn2470_ tn2469_ tn2472_; omega))) 0 0 rfl rfl (vp_in_nI (by first | omega | (have t_hj5 := hj5; have t_n7 := n7; have t_hj12 := hj12; have t_hlo_j8 := hlo_j8; have t_n15 := n15; have t_c16 := nleI c16; have : (0 : Int32).toInt = 0 := qI_0; have tnb_ := nib3 tn2470_ tn2469_ tn2472_; omega)) (by decide)) dX8_leadInto_67 ?_
                refine lv_cg (y := g9 (i + 1) (j8 - 1)) (by rw [nI_clamp (by first | omega | (have t_hj5 := hj5; have t_n7 := n7; have t_hj12 := hj12; have t_hlo_j8 := hlo_j8; have t_n15 := n15; have t_c16 := nleI c16; have : (0 : Int32).toInt = 0 := qI_0; have tnb_ := nib3 tn2470_ tn2469_ tn2472_; omega))]) ?_
                refine lv_aload_n hx hb dX8_leadInto_68 rfl (lv_at hl 1 rfl) ?_
                refine va_get (D := (dC, dI)) (ci := 8) (v := .ref ti) (C := RX8) (T := TX8) (N := 3) hx hb hg inG8 hown hK.1 hP 0 rfl rfl 1 (Nat.le_of_ble_eq_true rfl) (hg _ wt_260) (fun _ h9 => h9) rfl dX8_leadInto_69 ?_
                refine lv_iload_n hx hb dX8_leadInto_72 rfl (lv_at hl 3 rfl) ?_
                refine va_aldA hx hb hK.1 hP 1 4 rfl rfl (vp_in_nI (by first | omega | (have t_hj5 := hj5; have t_n7 := n7; have t_hj12 := hj12; have t_hlo_j8 := hlo_j8; have t_n15 := n15; have t_c16 := nleI c16; have : (0 : Int32).toInt = 0 := qI_0; have tnb_ := nib3 tn2470_ tn2469_ tn2472_; omega)) (by decide)) dX8_leadInto_73 ?_
                refine lv_cgv (y := .ref (ri i)) (rowref (by first | omega | (have t_hj5 := hj5; have t_n7 := n7; have t_hj12 := hj12; have t_hlo_j8 := hlo_j8; have t_n15 := n15; have t_c16 := nleI c16; have : (0 : Int32).toInt = 0 := qI_0; have tnb_ := nib3 tn2470_ tn2469_ tn2472_; omega)) (by decide)) ?_
                refine lv_iload_n hx hb dX8_leadInto_74 rfl (lv_at hl 0 rfl) ?_
                refine va_iald hx hb hK.1 (blk_P (j := i) hP (by first | omega | (have t_hj5 := hj5; have t_n7 := n7; have t_hj12 := hj12; have t_hlo_j8 := hlo_j8; have t_n15 := n15; have t_c16 := nleI c16; have : (0 : Int32).toInt = 0 := qI_0; have tnb_ := nib3 tn2470_ tn2469_ tn2472_; omega))) 0 0 rfl rfl (vp_in_nI (by first | omega | (have t_hj5 := hj5; have t_n7 := n7; have t_hj12 := hj12; have t_hlo_j8 := hlo_j8; have t_n15 := n15; have t_c16 := nleI c16; have : (0 : Int32).toInt = 0 := qI_0; have tnb_ := nib3 tn2470_ tn2469_ tn2472_; omega)) (by decide)) dX8_leadInto_75 ?_
                refine lv_cg (y := g9 i j8) (by rw [nI_clamp (by first | omega | (have t_hj5 := hj5; have t_n7 := n7; have t_hj12 := hj12; have t_hlo_j8 := hlo_j8; have t_n15 := n15; have t_c16 := nleI c16; have : (0 : Int32).toInt = 0 := qI_0; have tnb_ := nib3 tn2470_ tn2469_ tn2472_; omega))]) ?_
                refine lv_iadd hx hb dX8_leadInto_76 ?_
                refine va_iastB (j := (i + 1)) hx hb hK.1 hP hD hS 0 (by first | omega | (have t_hj5 := hj5; have t_n7 := n7; have t_hj12 := hj12; have t_hlo_j8 := hlo_j8; have t_n15 := n15; have t_c16 := nleI c16; have : (0 : Int32).toInt = 0 := qI_0; have tnb_ := nib3 tn2470_ tn2469_ tn2472_; omega)) rfl (vp_in_nI (by first | omega | (have t_hj5 := hj5; have t_n7 := n7; have t_hj12 := hj12; have t_hlo_j8 := hlo_j8; have t_n15 := n15; have t_c16 := nleI c16; have : (0 : Int32).toInt = 0 := qI_0; have tnb_ := nib3 tn2470_ tn2469_ tn2472_; omega)) (by decide)) dX8_leadInto_77 (fun H locs hP hD hS => ?_)
                rw [nI_clamp (by first | omega | (have t_hj5 := hj5; have t_n7 := n7; have t_hj12 := hj12; have t_hlo_j8 := hlo_j8; have t_n15 := n15; have t_c16 := nleI c16; have : (0 : Int32).toInt = 0 := qI_0; have tnb_ := nib3 tn2470_ tn2469_ tn2472_; omega))] at hP hD
                obtain ⟨hP, hD⟩ := va_rls (ws' := (([(h0, .inr (8, [.int tt, .ref ti, .ref to])), (ti, .inl (G 4, 11, .inr (.inr (.inr (.inr (fun ir => if ir < 11 then some (ri ir) else none)))))), (to, .inl (G 4, 11, .inr (.inr (.inr (.inr (fun ir => if ir < 11 then some (ro ir) else none))))))] : va_W) ++ ((((List.range 11).map (fun iq => (ri iq, .inl (G 0, 10, .inl ((va_up g9 (i + 1) (upd (g9 (i + 1)) (j8 - 1) ((g9 (i + 1) (j8 - 1)) + (g9 i j8)))) iq))))) : va_W) ++ ((((List.range 11).map (fun iq => (ro iq, .inl (G 0, 10, .inl (E iq))))) : va_W) ++ [])))) hP hD rfl
                refine lv_iload_n hx hb dX8_leadInto_78 rfl (lv_at hl 2 rfl) ?_
                refine lv_bipush (v := 20) hx hb dX8_leadInto_79 rfl ?_
                refine lv_icmp_ge (tgt := 112) hx hb dX8_leadInto_81 rfl (fun c20 => ?_) (fun c20 => ?_)
                · skip
                  refine lv_iinc (v := nI (j8 + 1)) (lv' := [(3, .int (nI (j8 + 1))), (0, .ref h0), (1, .int x1), (2, .int (nI i))]) hx hb dX8_leadInto_112 hl (k := 0) rfl (by rw [show Int32.ofInt 1 = nI 1 from by decide]; exact nI_add _ _) (by decide) rfl (fun ls hl => ?_)
                  refine lv_goto (tgt := 45) hx hb dX8_leadInto_115 rfl ?_
                  exact ih45_10 (j8 + 1) (by omega) (by omega) (by omega) (va_up g9 (i + 1) (upd (g9 (i + 1)) (j8 - 1) ((g9 (i + 1) (j8 - 1)) + (g9 i j8)))) _ _ (li_f hinv (by omega) (by omega) (decide_eq_true (by have t_hj5 := hj5; have t_n7 := n7; have t_hj12 := hj12; have t_hlo_j8 := hlo_j8; have t_n15 := n15; have t_c16 := nleI c16; have t_c20 := leI c20; have tqz_ := qz12_; have tnb_ := nib3 tn2470_ tn2469_ tn2472_; have lz0 : (0 : Int32).toInt = 0 := qI_0; have lz1 : (1 : Int32).toInt = 1 := qI_1; have lz2 : (2 : Int32).toInt = 2 := qI_2; have lz3 : (3 : Int32).toInt = 3 := qI_3; have lz5 : (5 : Int32).toInt = 5 := qI_5; have lz9 : (9 : Int32).toInt = 9 := qI_9; have lz20 : (20 : Int32).toInt = 20 := qI_20; omega)) (fun e9 => by have e8 := of_decide_eq_true e9; have t_hj5 := hj5; have t_n7 := n7; have t_hj12 := hj12; have t_hlo_j8 := hlo_j8; have t_n15 := n15; have t_c16 := nleI c16; have t_c20 := leI c20; have tqz_ := qz12_; have tnb_ := nib3 tn2470_ tn2469_ tn2472_; have lz0 : (0 : Int32).toInt = 0 := qI_0; have lz1 : (1 : Int32).toInt = 1 := qI_1; have lz2 : (2 : Int32).toInt = 2 := qI_2; have lz3 : (3 : Int32).toInt = 3 := qI_3; have lz5 : (5 : Int32).toInt = 5 := qI_5; have lz9 : (9 : Int32).toInt = 9 := qI_9; have lz20 : (20 : Int32).toInt = 20 := qI_20; omega)) hP hD hS ls (lv_sub hl [0, 1, 2, 3] rfl)
                · skip
                  refine lv_aload_n hx hb dX8_leadInto_84 rfl (lv_at hl 1 rfl) ?_
                  refine va_get (D := (dC, dI)) (ci := 8) (v := .ref ti) (C := RX8) (T := TX8) (N := 3) hx hb hg inG8 hown hK.1 hP 0 rfl rfl 1 (Nat.le_of_ble_eq_true rfl) (hg _ wt_260) (fun _ h9 => h9) rfl dX8_leadInto_85 ?_
                  refine lv_iload_n hx hb dX8_leadInto_88 rfl (lv_at hl 3 rfl) ?_
                  refine lv_iconst (v := 1) hx hb dX8_leadInto_89 rfl ?_
                  refine lv_iadd hx hb dX8_leadInto_90 ?_
                  refine lv_cg (y := nI (i + 1)) (by rw [show (1 : Int32) = nI 1 from rfl]; exact nI_add _ _) ?_
                  refine va_aldA hx hb hK.1 hP 1 4 rfl rfl (vp_in_nI (by first | omega | (have t_hj5 := hj5; have t_n7 := n7; have t_hj12 := hj12; have t_hlo_j8 := hlo_j8; have t_n15 := n15; have t_c16 := nleI c16; have t_c20 := nleI c20; have tqz_ := qz12_; have tnb_ := nib3 tn2470_ tn2469_ tn2472_; omega)) (by decide)) dX8_leadInto_91 ?_
                  refine lv_cgv (y := .ref (ri (i + 1))) (rowref (by first | omega | (have t_hj5 := hj5; have t_n7 := n7; have t_hj12 := hj12; have t_hlo_j8 := hlo_j8; have t_n15 := n15; have t_c16 := nleI c16; have t_c20 := nleI c20; have tqz_ := qz12_; have tnb_ := nib3 tn2470_ tn2469_ tn2472_; omega)) (by decide)) ?_
                  refine lv_bipush (v := 9) hx hb dX8_leadInto_92 rfl ?_
                  refine lv_iload_n hx hb dX8_leadInto_94 rfl (lv_at hl 0 rfl) ?_
                  refine lv_iconst (v := 1) hx hb dX8_leadInto_95 rfl ?_
                  refine lv_iadd hx hb dX8_leadInto_96 ?_
                  refine lv_cg (y := nI (j8 + 1)) (by rw [show (1 : Int32) = nI 1 from rfl]; exact nI_add _ _) ?_
                  have hPc := hP.sub (ws' := []) [] rfl
                  refine va_calli (va_runS (As := [.int 9, .int (nI (j8 + 1))]) (rest := [.ref (ri (i + 1))]) ⟨hx, hb, hml, hown, hg⟩ (c_J9_min l dC dI G _ 9 (nI (j8 + 1))) (kwS hg mfJ9_min_7cf53 wt_776 ⟨Nat.le_of_ble_eq_true rfl, Nat.le_of_ble_eq_true rfl⟩) (preSR hK hPc) rfl rfl hl.1 rfl (lv_room (Nat.le_of_ble_eq_true rfl)) dX8_leadInto_97 ⟨Nat.le_of_ble_eq_true rfl, Nat.le_of_ble_eq_true rfl⟩) hS (fun q h1 h2 => absurd h2 (Nat.not_le.mpr h1)) (fun q h => hA q (Nat.le_trans hS.1 h)) (fun r21 ur21 t H1 locs ht hvm w22 hB hz1 hk1 hS => ?_)
                  have hP := keepR hP hk1
                  obtain ⟨w22, w22x⟩ := w22
                  have w22 : r21 = nI (min 9 (j8 + 1)) := w22.trans (mn_nI (a := 9) (b := (j8 + 1)) (by omega) (by omega))
                  subst w22
                  refine lv_dup2_11 hx hb dX8_leadInto_100 rfl rfl ?_
                  refine va_iald hx hb hK.1 (blk_P (j := (i + 1)) hP (by first | omega | (have t_hj5 := hj5; have t_n7 := n7; have t_hj12 := hj12; have t_hlo_j8 := hlo_j8; have t_n15 := n15; have t_c16 := nleI c16; have t_c20 := nleI c20; have tqz_ := qz12_; have tnb_ := nib3 tn2470_ tn2469_ tn2472_; omega))) 0 0 rfl rfl (vp_in_nI (by first | omega | (have t_hj5 := hj5; have t_n7 := n7; have t_hj12 := hj12; have t_hlo_j8 := hlo_j8; have t_n15 := n15; have t_c16 := nleI c16; have t_c20 := nleI c20; have tqz_ := qz12_; have tnb_ := nib3 tn2470_ tn2469_ tn2472_; omega)) (by decide)) dX8_leadInto_101 ?_
                  refine lv_cg (y := (va_up g9 (i + 1) (upd (g9 (i + 1)) (j8 - 1) ((g9 (i + 1) (j8 - 1)) + (g9 i j8)))) (i + 1) (min 9 (j8 + 1))) (by rw [nI_clamp (by first | omega | (have t_hj5 := hj5; have t_n7 := n7; have t_hj12 := hj12; have t_hlo_j8 := hlo_j8; have t_n15 := n15; have t_c16 := nleI c16; have t_c20 := nleI c20; have tqz_ := qz12_; have tnb_ := nib3 tn2470_ tn2469_ tn2472_; omega))]) ?_
                  refine lv_aload_n hx hb dX8_leadInto_102 rfl (lv_at hl 1 rfl) ?_
                  refine va_get (D := (dC, dI)) (ci := 8) (v := .ref ti) (C := RX8) (T := TX8) (N := 3) hx hb hg inG8 hown hK.1 hP 0 rfl rfl 1 (Nat.le_of_ble_eq_true rfl) (hg _ wt_260) (fun _ h9 => h9) rfl dX8_leadInto_103 ?_
                  refine lv_iload_n hx hb dX8_leadInto_106 rfl (lv_at hl 3 rfl) ?_
                  refine va_aldA hx hb hK.1 hP 1 4 rfl rfl (vp_in_nI (by first | omega | (have t_hj5 := hj5; have t_n7 := n7; have t_hj12 := hj12; have t_hlo_j8 := hlo_j8; have t_n15 := n15; have t_c16 := nleI c16; have t_c20 := nleI c20; have tqz_ := qz12_; have tnb_ := nib3 tn2470_ tn2469_ tn2472_; omega)) (by decide)) dX8_leadInto_107 ?_
                  refine lv_cgv (y := .ref (ri i)) (rowref (by first | omega | (have t_hj5 := hj5; have t_n7 := n7; have t_hj12 := hj12; have t_hlo_j8 := hlo_j8; have t_n15 := n15; have t_c16 := nleI c16; have t_c20 := nleI c20; have tqz_ := qz12_; have tnb_ := nib3 tn2470_ tn2469_ tn2472_; omega)) (by decide)) ?_
                  refine lv_iload_n hx hb dX8_leadInto_108 rfl (lv_at hl 0 rfl) ?_
                  refine va_iald hx hb hK.1 (blk_P (j := i) hP (by first | omega | (have t_hj5 := hj5; have t_n7 := n7; have t_hj12 := hj12; have t_hlo_j8 := hlo_j8; have t_n15 := n15; have t_c16 := nleI c16; have t_c20 := nleI c20; have tqz_ := qz12_; have tnb_ := nib3 tn2470_ tn2469_ tn2472_; omega))) 0 0 rfl rfl (vp_in_nI (by first | omega | (have t_hj5 := hj5; have t_n7 := n7; have t_hj12 := hj12; have t_hlo_j8 := hlo_j8; have t_n15 := n15; have t_c16 := nleI c16; have t_c20 := nleI c20; have tqz_ := qz12_; have tnb_ := nib3 tn2470_ tn2469_ tn2472_; omega)) (by decide)) dX8_leadInto_109 ?_
                  refine lv_cg (y := (va_up g9 (i + 1) (upd (g9 (i + 1)) (j8 - 1) ((g9 (i + 1) (j8 - 1)) + (g9 i j8)))) i j8) (by rw [nI_clamp (by first | omega | (have t_hj5 := hj5; have t_n7 := n7; have t_hj12 := hj12; have t_hlo_j8 := hlo_j8; have t_n15 := n15; have t_c16 := nleI c16; have t_c20 := nleI c20; have tqz_ := qz12_; have tnb_ := nib3 tn2470_ tn2469_ tn2472_; omega))]) ?_
                  refine lv_iadd hx hb dX8_leadInto_110 ?_
                  refine va_iastB (j := (i + 1)) hx hb hK.1 hP hD hS 0 (by first | omega | (have t_hj5 := hj5; have t_n7 := n7; have t_hj12 := hj12; have t_hlo_j8 := hlo_j8; have t_n15 := n15; have t_c16 := nleI c16; have t_c20 := nleI c20; have tqz_ := qz12_; have tnb_ := nib3 tn2470_ tn2469_ tn2472_; omega)) rfl (vp_in_nI (by first | omega | (have t_hj5 := hj5; have t_n7 := n7; have t_hj12 := hj12; have t_hlo_j8 := hlo_j8; have t_n15 := n15; have t_c16 := nleI c16; have t_c20 := nleI c20; have tqz_ := qz12_; have tnb_ := nib3 tn2470_ tn2469_ tn2472_; omega)) (by decide)) dX8_leadInto_111 (fun H locs hP hD hS => ?_)
                  rw [nI_clamp (by first | omega | (have t_hj5 := hj5; have t_n7 := n7; have t_hj12 := hj12; have t_hlo_j8 := hlo_j8; have t_n15 := n15; have t_c16 := nleI c16; have t_c20 := nleI c20; have tqz_ := qz12_; have tnb_ := nib3 tn2470_ tn2469_ tn2472_; omega))] at hP hD
                  obtain ⟨hP, hD⟩ := va_rls (ws' := (([(h0, .inr (8, [.int tt, .ref ti, .ref to])), (ti, .inl (G 4, 11, .inr (.inr (.inr (.inr (fun ir => if ir < 11 then some (ri ir) else none)))))), (to, .inl (G 4, 11, .inr (.inr (.inr (.inr (fun ir => if ir < 11 then some (ro ir) else none))))))] : va_W) ++ ((((List.range 11).map (fun iq => (ri iq, .inl (G 0, 10, .inl ((va_up (va_up g9 (i + 1) (upd (g9 (i + 1)) (j8 - 1) ((g9 (i + 1) (j8 - 1)) + (g9 i j8)))) (i + 1) (upd ((va_up g9 (i + 1) (upd (g9 (i + 1)) (j8 - 1) ((g9 (i + 1) (j8 - 1)) + (g9 i j8)))) (i + 1)) (min 9 (j8 + 1)) (((va_up g9 (i + 1) (upd (g9 (i + 1)) (j8 - 1) ((g9 (i + 1) (j8 - 1)) + (g9 i j8)))) (i + 1) (min 9 (j8 + 1))) + ((va_up g9 (i + 1) (upd (g9 (i + 1)) (j8 - 1) ((g9 (i + 1) (j8 - 1)) + (g9 i j8)))) i j8)))) iq))))) : va_W) ++ ((((List.range 11).map (fun iq => (ro iq, .inl (G 0, 10, .inl (E iq))))) : va_W) ++ [])))) hP hD rfl
                  refine lv_iinc (v := nI (j8 + 1)) (lv' := [(3, .int (nI (j8 + 1))), (0, .ref h0), (1, .int x1), (2, .int (nI i))]) hx hb dX8_leadInto_112 hl (k := 0) rfl (by rw [show Int32.ofInt 1 = nI 1 from by decide]; exact nI_add _ _) (by decide) rfl (fun ls hl => ?_)
                  refine lv_goto (tgt := 45) hx hb dX8_leadInto_115 rfl ?_
                  exact ih45_10 (j8 + 1) (by omega) (by omega) (by omega) (va_up (va_up g9 (i + 1) (upd (g9 (i + 1)) (j8 - 1) ((g9 (i + 1) (j8 - 1)) + (g9 i j8)))) (i + 1) (upd ((va_up g9 (i + 1) (upd (g9 (i + 1)) (j8 - 1) ((g9 (i + 1) (j8 - 1)) + (g9 i j8)))) (i + 1)) (min 9 (j8 + 1)) (((va_up g9 (i + 1) (upd (g9 (i + 1)) (j8 - 1) ((g9 (i + 1) (j8 - 1)) + (g9 i j8)))) (i + 1) (min 9 (j8 + 1))) + ((va_up g9 (i + 1) (upd (g9 (i + 1)) (j8 - 1) ((g9 (i + 1) (j8 - 1)) + (g9 i j8)))) i j8)))) _ _ (li_fr hinv (by omega) (by omega) (decide_eq_true (by have t_hj5 := hj5; have t_n7 := n7; have t_hj12 := hj12; have t_hlo_j8 := hlo_j8; have t_n15 := n15; have t_c16 := nleI c16; have t_c20 := nleI c20; have tqz_ := qz12_; have tnb_ := nib3 tn2470_ tn2469_ tn2472_; have lz0 : (0 : Int32).toInt = 0 := qI_0; have lz1 : (1 : Int32).toInt = 1 := qI_1; have lz2 : (2 : Int32).toInt = 2 := qI_2; have lz3 : (3 : Int32).toInt = 3 := qI_3; have lz5 : (5 : Int32).toInt = 5 := qI_5; have lz9 : (9 : Int32).toInt = 9 := qI_9; have lz20 : (20 : Int32).toInt = 20 := qI_20; omega)) (decide_eq_true (by have t_hj5 := hj5; have t_n7 := n7; have t_hj12 := hj12; have t_hlo_j8 := hlo_j8; have t_n15 := n15; have t_c16 := nleI c16; have t_c20 := nleI c20; have tqz_ := qz12_; have tnb_ := nib3 tn2470_ tn2469_ tn2472_; have lz0 : (0 : Int32).toInt = 0 := qI_0; have lz1 : (1 : Int32).toInt = 1 := qI_1; have lz2 : (2 : Int32).toInt = 2 := qI_2; have lz3 : (3 : Int32).toInt = 3 := qI_3; have lz5 : (5 : Int32).toInt = 5 := qI_5; have lz9 : (9 : Int32).toInt = 9 := qI_9; have lz20 : (20 : Int32).toInt = 20 := qI_20; omega))) hP hD hS ls (lv_sub hl [0, 1, 2, 3] rfl)
        exact loop45_10 (10 + 1) 1 (by omega) (by omega) (by omega) (va_up g2 (i + 1) (upd (g2 (i + 1)) 0 (g2 i 0))) _ _ (LI1.z hZ9) hP hD hS ls (lv_sub hl [0, 1, 2, 3] rfl)
      · skip
        have tn2473_ : nIT j1 := fun _ => nI_toInt (by first | omega | (have t := nleI c6; omega))
        have n23 : j1 < 10 := by have t := nleI c6; rw [show (nI (j1)).toInt = ((j1 : Nat) : Int) from tn2473_ ()] at t; have : (10 : Int32).toInt = 10 := qI_10; omega
        refine lv_aload_n hx hb dX8_leadInto_8 rfl (lv_at hl 1 rfl) ?_
        refine va_get (D := (dC, dI)) (ci := 8) (v := .ref ti) (C := RX8) (T := TX8) (N := 3) hx hb hg inG8 hown hK.1 hP 0 rfl rfl 1 (Nat.le_of_ble_eq_true rfl) (hg _ wt_260) (fun _ h9 => h9) rfl dX8_leadInto_9 ?_
        refine lv_iload_n hx hb dX8_leadInto_12 rfl (lv_at hl 3 rfl) ?_
        refine lv_iconst (v := 1) hx hb dX8_leadInto_13 rfl ?_
        refine lv_iadd hx hb dX8_leadInto_14 ?_
        refine lv_cg (y := nI (i + 1)) (by rw [show (1 : Int32) = nI 1 from rfl]; exact nI_add _ _) ?_
        have tn2474_ : nIT i := fun _ => nI_toInt (by first | omega | (have t_hj5 := hj5; have t_n23 := n23; omega))
        refine va_aldA hx hb hK.1 hP 1 4 rfl rfl (vp_in_nI (by first | omega | (have t_hj5 := hj5; have t_n23 := n23; have tnb_ := nib2 tn2474_ tn2473_; omega)) (by decide)) dX8_leadInto_15 ?_
        refine lv_cgv (y := .ref (ri (i + 1))) (rowref (by first | omega | (have t_hj5 := hj5; have t_n23 := n23; have tnb_ := nib2 tn2474_ tn2473_; omega)) (by decide)) ?_
        refine lv_iload_n hx hb dX8_leadInto_16 rfl (lv_at hl 0 rfl) ?_
        refine lv_iconst (v := 0) hx hb dX8_leadInto_17 rfl ?_
        refine va_iastB (j := (i + 1)) hx hb hK.1 hP hD hS 0 (by first | omega | (have t_hj5 := hj5; have t_n23 := n23; have tnb_ := nib2 tn2474_ tn2473_; omega)) rfl (vp_in_nI (by first | omega | (have t_hj5 := hj5; have t_n23 := n23; have tnb_ := nib2 tn2474_ tn2473_; omega)) (by decide)) dX8_leadInto_18 (fun H locs hP hD hS => ?_)
        rw [nI_clamp (by first | omega | (have t_hj5 := hj5; have t_n23 := n23; have tnb_ := nib2 tn2474_ tn2473_; omega))] at hP hD
        obtain ⟨hP, hD⟩ := va_rls (ws' := (([(h0, .inr (8, [.int tt, .ref ti, .ref to])), (ti, .inl (G 4, 11, .inr (.inr (.inr (.inr (fun ir => if ir < 11 then some (ri ir) else none)))))), (to, .inl (G 4, 11, .inr (.inr (.inr (.inr (fun ir => if ir < 11 then some (ro ir) else none))))))] : va_W) ++ ((((List.range 11).map (fun iq => (ri iq, .inl (G 0, 10, .inl ((va_up g2 (i + 1) (upd (g2 (i + 1)) j1 0)) iq))))) : va_W) ++ ((((List.range 11).map (fun iq => (ro iq, .inl (G 0, 10, .inl (E iq))))) : va_W) ++ [])))) hP hD rfl
        refine lv_iinc (v := nI (j1 + 1)) (lv' := [(3, .int (nI (j1 + 1))), (0, .ref h0), (1, .int x1), (2, .int (nI i))]) hx hb dX8_leadInto_19 hl (k := 0) rfl (by rw [show Int32.ofInt 1 = nI 1 from by decide]; exact nI_add _ _) (by decide) rfl (fun ls hl => ?_)
        refine lv_goto (tgt := 2) hx hb dX8_leadInto_22 rfl ?_
        exact ih2_3 (j1 + 1) (by omega) (by omega) (va_up g2 (i + 1) (upd (g2 (i + 1)) j1 0)) _ _ (LI0.s hinv) hP hD hS ls (lv_sub hl [0, 1, 2, 3] rfl)
  exact loop2_3 (10 + 1) 0 (by omega) (by omega) F _ _ LI0.z hP hD hS ls (lv_sub hl [0, 1, 2, 3] rfl)

set_option maxHeartbeats 1000000 in
set_option maxRecDepth 100000 in
theorem c_X8_leadOnwardE (l : Launch) (dC : Nat → ClassId) (dI : Nat → Nat → Nat) (G : Nat → ClassId) (sz : Nat) (h0 ti to i : Nat) (x1 tt : Int32) (ri ro : Nat → Nat) (F E : Nat → Nat → Int32) (hi : i < 10) : Met l yX8_leadOnward (Cond.code yX8_leadOnward cX8_leadOnward 6 none :: GT) ({ frames := 1, cells := 0, slots := 0, locals := 21 } : Room) (PcW [.ref h0, .int x1, .int (nI i)] dC dI G (([(h0, .inr (8, [.int tt, .ref ti, .ref to])), (ti, .inl (G 4, 11, .inr (.inr (.inr (.inr (fun ir => if ir < 11 then some (ri ir) else none)))))), (to, .inl (G 4, 11, .inr (.inr (.inr (.inr (fun ir => if ir < 11 then some (ro ir) else none))))))] : va_W) ++ ((((List.range 11).map (fun iq => (ri iq, .inl (G 0, 10, .inl (F iq))))) : va_W) ++ ((((List.range 11).map (fun iq => (ro iq, .inl (G 0, 10, .inl (E iq))))) : va_W) ++ []))) sz) (va_Qv (fun (u : Int32 × (Nat → Nat → Int32) × (Nat → Nat → Int32)) => match u with | (u0, u1, u2) => u0 = tt ∧ LO (decide (0 < x1.toInt)) (decide (x1.toInt < 20)) i 10 u2 E ∧ u1 = F) (fun (u : Int32 × (Nat → Nat → Int32) × (Nat → Nat → Int32)) (t : State) => match u with | (u0, u1, u2) => va_P (dC, dI) vwCl (([(h0, .inr (8, [.int u0, .ref ti, .ref to])), (ti, .inl (G 4, 11, .inr (.inr (.inr (.inr (fun ir => if ir < 11 then some (ri ir) else none)))))), (to, .inl (G 4, 11, .inr (.inr (.inr (.inr (fun ir => if ir < 11 then some (ro ir) else none))))))] : va_W) ++ ((((List.range 11).map (fun iq => (ri iq, .inl (G 0, 10, .inl (u1 iq))))) : va_W) ++ ((((List.range 11).map (fun iq => (ro iq, .inl (G 0, 10, .inl (u2 iq))))) : va_W) ++ []))) t.heap ∧ va_D (va_A (([(h0, .inr (8, [.int tt, .ref ti, .ref to])), (ti, .inl (G 4, 11, .inr (.inr (.inr (.inr (fun ir => if ir < 11 then some (ri ir) else none)))))), (to, .inl (G 4, 11, .inr (.inr (.inr (.inr (fun ir => if ir < 11 then some (ro ir) else none))))))] : va_W) ++ ((((List.range 11).map (fun iq => (ri iq, .inl (G 0, 10, .inl (F iq))))) : va_W) ++ ((((List.range 11).map (fun iq => (ro iq, .inl (G 0, 10, .inl (E iq))))) : va_W) ++ []))) sz) (([(h0, .inr (8, [.int u0, .ref ti, .ref to])), (ti, .inl (G 4, 11, .inr (.inr (.inr (.inr (fun ir => if ir < 11 then some (ri ir) else none)))))), (to, .inl (G 4, 11, .inr (.inr (.inr (.inr (fun ir => if ir < 11 then some (ro ir) else none))))))] : va_W) ++ ((((List.range 11).map (fun iq => (ri iq, .inl (G 0, 10, .inl (u1 iq))))) : va_W) ++ ((((List.range 11).map (fun iq => (ro iq, .inl (G 0, 10, .inl (u2 iq))))) : va_W) ++ [])))) (va_A (([(h0, .inr (8, [.int tt, .ref ti, .ref to])), (ti, .inl (G 4, 11, .inr (.inr (.inr (.inr (fun ir => if ir < 11 then some (ri ir) else none)))))), (to, .inl (G 4, 11, .inr (.inr (.inr (.inr (fun ir => if ir < 11 then some (ro ir) else none))))))] : va_W) ++ ((((List.range 11).map (fun iq => (ri iq, .inl (G 0, 10, .inl (F iq))))) : va_W) ++ ((((List.range 11).map (fun iq => (ro iq, .inl (G 0, 10, .inl (E iq))))) : va_W) ++ []))) sz)) 0 0 (va_A (([(h0, .inr (8, [.int tt, .ref ti, .ref to])), (ti, .inl (G 4, 11, .inr (.inr (.inr (.inr (fun ir => if ir < 11 then some (ri ir) else none)))))), (to, .inl (G 4, 11, .inr (.inr (.inr (.inr (fun ir => if ir < 11 then some (ro ir) else none))))))] : va_W) ++ ((((List.range 11).map (fun iq => (ri iq, .inl (G 0, 10, .inl (F iq))))) : va_W) ++ ((((List.range 11).map (fun iq => (ro iq, .inl (G 0, 10, .inl (E iq))))) : va_W) ++ []))) sz) := by
  refine Met.ofW (cc := cX8_leadOnward) (maxL := 6) (ret := none) (by decide) rfl ?_
  intro p e s m args below meth c s₁ Bd hml hv
  obtain ⟨rfl, hsz, hP, hK, hD0⟩ := hv
  have hx := Bd.exec
  have hb := Bd.bytes
  have hr := Bd.returns
  have hg : ∀ w ∈ GT, w.before ([.ref h0, .int x1, .int (nI i)] : List Value).toArray s = true := fun w h => atoms_spec (ws := Cond.code yX8_leadOnward cX8_leadOnward 6 none :: GT) Bd.pre w (List.mem_cons_of_mem _ h)
  have hown : s.vm.findClass RX8 = some m.cls := findClass_of_methodNamed Bd.named
  have hlocks := Bd.notSynchronized
  subst hsz
  have hD := hD0.self (sz := s.heap.size)
  generalize hAe : va_A (([(h0, .inr (8, [.int tt, .ref ti, .ref to])), (ti, .inl (G 4, 11, .inr (.inr (.inr (.inr (fun ir => if ir < 11 then some (ri ir) else none)))))), (to, .inl (G 4, 11, .inr (.inr (.inr (.inr (fun ir => if ir < 11 then some (ro ir) else none))))))] : va_W) ++ ((((List.range 11).map (fun iq => (ri iq, .inl (G 0, 10, .inl (F iq))))) : va_W) ++ ((((List.range 11).map (fun iq => (ro iq, .inl (G 0, 10, .inl (E iq))))) : va_W) ++ []))) s.heap.size = A at hD ⊢
  have hA : ∀ q : Nat, s.heap.size ≤ q → A q := fun q h => by rw [← hAe]; exact Or.inr h
  have hS : va_S A s.heap s.heap [] := va_S.rf
  have hl := lv_entry ([.ref h0, .int x1, .int (nI i)]) (n := 6) (Nat.le_of_ble_eq_true rfl)
  rw [lg_entry_eq]
  generalize (lg_sl ([.ref h0, .int x1, .int (nI i)]) ++ List.replicate (6 - (lg_sl ([.ref h0, .int x1, .int (nI i)])).length) Slot.unset).toArray = ls at hl ⊢
  have hl : lv_has ls 6 [(0, .ref h0), (1, .int x1), (2, .int (nI i))] := hl
  refine lv_aload_n hx hb dX8_leadOnward_0 rfl (lv_at hl 0 rfl) ?_
  refine va_get (D := (dC, dI)) (ci := 8) (v := .ref to) (C := RX8) (T := TX8) (N := 3) hx hb hg inG8 hown hK.1 hP 0 rfl rfl 2 (Nat.le_of_ble_eq_true rfl) (hg _ wt_261) (fun _ h9 => h9) rfl dX8_leadOnward_1 ?_
  refine lv_iload_n hx hb dX8_leadOnward_4 rfl (lv_at hl 2 rfl) ?_
  have tn2475_ : nIT i := fun _ => nI_toInt (by omega)
  refine va_aldA hx hb hK.1 hP 2 4 rfl rfl (vp_in_nI (by first | omega | (have t_n0 : (nI i).toInt = (i : Int) := tn2475_ (); omega)) (by decide)) dX8_leadOnward_5 ?_
  refine lv_cgv (y := .ref (ro i)) (rowref (by first | omega | (have t_n0 : (nI i).toInt = (i : Int) := tn2475_ (); omega)) (by decide)) ?_
  refine lv_iconst (v := 0) hx hb dX8_leadOnward_6 rfl ?_
  refine lv_aload_n hx hb dX8_leadOnward_7 rfl (lv_at hl 0 rfl) ?_
  refine va_get (D := (dC, dI)) (ci := 8) (v := .ref to) (C := RX8) (T := TX8) (N := 3) hx hb hg inG8 hown hK.1 hP 0 rfl rfl 2 (Nat.le_of_ble_eq_true rfl) (hg _ wt_261) (fun _ h9 => h9) rfl dX8_leadOnward_8 ?_
  refine lv_iload_n hx hb dX8_leadOnward_11 rfl (lv_at hl 2 rfl) ?_
  refine lv_iconst (v := 1) hx hb dX8_leadOnward_12 rfl ?_
  refine lv_iadd hx hb dX8_leadOnward_13 ?_
  refine lv_cg (y := nI (i + 1)) (by rw [show (1 : Int32) = nI 1 from rfl]; exact nI_add _ _) ?_
  refine va_aldA hx hb hK.1 hP 2 4 rfl rfl (vp_in_nI (by first | omega | (have t_n0 : (nI i).toInt = (i : Int) := tn2475_ (); omega)) (by decide)) dX8_leadOnward_14 ?_
  refine lv_cgv (y := .ref (ro (i + 1))) (rowref (by first | omega | (have t_n0 : (nI i).toInt = (i : Int) := tn2475_ (); omega)) (by decide)) ?_
  refine lv_iconst (v := 0) hx hb dX8_leadOnward_15 rfl ?_
  refine va_iald hx hb hK.1 (blk_P2 (j := (i + 1)) hP (by first | omega | (have t_n0 : (nI i).toInt = (i : Int) := tn2475_ (); omega))) 0 0 rfl rfl (vp_in_iff.mpr ⟨by decide, by decide⟩) dX8_leadOnward_16 ?_
  refine lv_cg (y := E (i + 1) 0) (by rfl) ?_
  refine va_iastB2 (j := i) hx hb hK.1 hP hD hS 0 (by first | omega | (have t_n0 : (nI i).toInt = (i : Int) := tn2475_ (); omega)) rfl (vp_in_iff.mpr ⟨by decide, by decide⟩) dX8_leadOnward_17 (fun H locs hP hD hS => ?_)
  obtain ⟨hP, hD⟩ := va_rls (ws' := (([(h0, .inr (8, [.int tt, .ref ti, .ref to])), (ti, .inl (G 4, 11, .inr (.inr (.inr (.inr (fun ir => if ir < 11 then some (ri ir) else none)))))), (to, .inl (G 4, 11, .inr (.inr (.inr (.inr (fun ir => if ir < 11 then some (ro ir) else none))))))] : va_W) ++ ((((List.range 11).map (fun iq => (ri iq, .inl (G 0, 10, .inl (F iq))))) : va_W) ++ ((((List.range 11).map (fun iq => (ro iq, .inl (G 0, 10, .inl ((va_up E i (upd (E i) 0 (E (i + 1) 0))) iq))))) : va_W) ++ [])))) hP hD rfl
  refine lv_iconst (v := 1) hx hb dX8_leadOnward_18 rfl ?_
  refine lv_istore_n (lv' := [(3, .int 1), (0, .ref h0), (1, .int x1), (2, .int (nI i))]) hx hb dX8_leadOnward_19 rfl hl (by decide) rfl (fun ls hl => ?_)
  have loop20_3 : ∀ (nf j1 : Nat), 10 + 1 ≤ j1 + nf → j1 ≤ 10 → 1 ≤ j1 → ∀ (g2 : Nat → Nat → Int32) (H : Heap) (locs : List Loc), LO (decide (0 < x1.toInt)) (decide (x1.toInt < 20)) i j1 g2 E → va_P (dC, dI) vwCl (([(h0, .inr (8, [.int tt, .ref ti, .ref to])), (ti, .inl (G 4, 11, .inr (.inr (.inr (.inr (fun ir => if ir < 11 then some (ri ir) else none)))))), (to, .inl (G 4, 11, .inr (.inr (.inr (.inr (fun ir => if ir < 11 then some (ro ir) else none))))))] : va_W) ++ ((((List.range 11).map (fun iq => (ri iq, .inl (G 0, 10, .inl (F iq))))) : va_W) ++ ((((List.range 11).map (fun iq => (ro iq, .inl (G 0, 10, .inl (g2 iq))))) : va_W) ++ []))) H → va_D A (([(h0, .inr (8, [.int tt, .ref ti, .ref to])), (ti, .inl (G 4, 11, .inr (.inr (.inr (.inr (fun ir => if ir < 11 then some (ri ir) else none)))))), (to, .inl (G 4, 11, .inr (.inr (.inr (.inr (fun ir => if ir < 11 then some (ro ir) else none))))))] : va_W) ++ ((((List.range 11).map (fun iq => (ri iq, .inl (G 0, 10, .inl (F iq))))) : va_W) ++ ((((List.range 11).map (fun iq => (ro iq, .inl (G 0, 10, .inl (g2 iq))))) : va_W) ++ []))) → va_S A s.heap H locs → ∀ (ls : Array Slot), lv_has ls 6 [(3, .int (nI j1)), (0, .ref h0), (1, .int x1), (2, .int (nI i))] → W p l e (headSpec (Cond.code yX8_leadOnward cX8_leadOnward 6 none :: GT) ({ frames := 1, cells := 0, slots := 0, locals := 21 } : Room)).room s m ([.ref h0, .int x1, .int (nI i)] : List Value).toArray below meth c H locs 0 0 (MQ below (va_Qv (fun (u : Int32 × (Nat → Nat → Int32) × (Nat → Nat → Int32)) => match u with | (u0, u1, u2) => u0 = tt ∧ LO (decide (0 < x1.toInt)) (decide (x1.toInt < 20)) i 10 u2 E ∧ u1 = F) (fun (u : Int32 × (Nat → Nat → Int32) × (Nat → Nat → Int32)) (t : State) => match u with | (u0, u1, u2) => va_P (dC, dI) vwCl (([(h0, .inr (8, [.int u0, .ref ti, .ref to])), (ti, .inl (G 4, 11, .inr (.inr (.inr (.inr (fun ir => if ir < 11 then some (ri ir) else none)))))), (to, .inl (G 4, 11, .inr (.inr (.inr (.inr (fun ir => if ir < 11 then some (ro ir) else none))))))] : va_W) ++ ((((List.range 11).map (fun iq => (ri iq, .inl (G 0, 10, .inl (u1 iq))))) : va_W) ++ ((((List.range 11).map (fun iq => (ro iq, .inl (G 0, 10, .inl (u2 iq))))) : va_W) ++ []))) t.heap ∧ va_D A (([(h0, .inr (8, [.int u0, .ref ti, .ref to])), (ti, .inl (G 4, 11, .inr (.inr (.inr (.inr (fun ir => if ir < 11 then some (ri ir) else none)))))), (to, .inl (G 4, 11, .inr (.inr (.inr (.inr (fun ir => if ir < 11 then some (ro ir) else none))))))] : va_W) ++ ((((List.range 11).map (fun iq => (ri iq, .inl (G 0, 10, .inl (u1 iq))))) : va_W) ++ ((((List.range 11).map (fun iq => (ro iq, .inl (G 0, 10, .inl (u2 iq))))) : va_W) ++ [])))) A) ([.ref h0, .int x1, .int (nI i)] : List Value).toArray s 0 0 A) (F0 m 20 ls []) := by
    intro nf
    induction nf with
    | zero => intro j1 h1 h2; exact absurd h1 (by omega)
    | succ nf ih20_3 =>
      intro j1 hn4 hj5 hlo_j1 g2 H locs hinv hP hD hS ls hl
      refine lv_iload_n hx hb dX8_leadOnward_20 rfl (lv_at hl 0 rfl) ?_
      refine lv_bipush (v := 10) hx hb dX8_leadOnward_21 rfl ?_
      refine lv_icmp_ge (tgt := 96) hx hb dX8_leadOnward_23 rfl (fun c6 => ?_) (fun c6 => ?_)
      · skip
        have tn2476_ : nIT j1 := fun _ => nI_toInt (by first | omega | (have t := leI c6; omega))
        have n7 : 10 ≤ j1 := by have t := leI c6; rw [show (nI (j1)).toInt = ((j1 : Nat) : Int) from tn2476_ ()] at t; have : (10 : Int32).toInt = 10 := qI_10; omega
        obtain ⟨hP9, hD9⟩ := va_sub2 (ws' := (([(h0, .inr (8, [.int tt, .ref ti, .ref to])), (ti, .inl (G 4, 11, .inr (.inr (.inr (.inr (fun ir => if ir < 11 then some (ri ir) else none)))))), (to, .inl (G 4, 11, .inr (.inr (.inr (.inr (fun ir => if ir < 11 then some (ro ir) else none))))))] : va_W) ++ ((((List.range 11).map (fun iq => (ri iq, .inl (G 0, 10, .inl (F iq))))) : va_W) ++ ((((List.range 11).map (fun iq => (ro iq, .inl (G 0, 10, .inl (g2 iq))))) : va_W) ++ [])))) hP hD [0, 1, 2, 3, 4, 5, 6, 7, 8, 9, 10, 11, 12, 13, 14, 15, 16, 17, 18, 19, 20, 21, 22, 23, 24] (by decide +kernel) rfl
        refine W.widen (k := 0) (n := 0) (Nat.le_of_ble_eq_true rfl) (Nat.le_of_ble_eq_true rfl) ?_
        exact W.vret hx hb hr (fun t ht hW => ⟨⟨(tt, F, g2), rfl, ⟨rfl, (by rw [show (10 : Nat) = j1 by omega]; exact hinv), rfl⟩, ⟨by rw [ht]; exact hP9, hD9⟩⟩, hS.F ht⟩) hS.2.2 dX8_leadOnward_96
      · skip
        have tn2477_ : nIT j1 := fun _ => nI_toInt (by first | omega | (have t := nleI c6; omega))
        have n8 : j1 < 10 := by have t := nleI c6; rw [show (nI (j1)).toInt = ((j1 : Nat) : Int) from tn2477_ ()] at t; have : (10 : Int32).toInt = 10 := qI_10; omega
        refine lv_iload_n hx hb dX8_leadOnward_26 rfl (lv_at hl 2 rfl) ?_
        refine lv_if_le (tgt := 45) hx hb dX8_leadOnward_27 rfl (fun c9 => ?_) (fun c9 => ?_)
        · skip
          refine lv_iconst (v := 0) hx hb dX8_leadOnward_45 rfl ?_
          refine lv_istore (lv' := [(4, .int 0), (3, .int (nI j1)), (0, .ref h0), (1, .int x1), (2, .int (nI i))]) hx hb dX8_leadOnward_46 hl (by decide) rfl (fun ls hl => ?_)
          refine lv_iload_n hx hb dX8_leadOnward_48 rfl (lv_at hl 3 rfl) ?_
          refine lv_bipush (v := 20) hx hb dX8_leadOnward_49 rfl ?_
          refine lv_icmp_ge (tgt := 74) hx hb dX8_leadOnward_51 rfl (fun c10 => ?_) (fun c10 => ?_)
          · skip
            have t_hj5 := hj5
            have t_hlo_j1 := hlo_j1
            have t_n8 := n8
            have t_c9 := leI c9
            have t_c10 := leI c10
            have : (0 : Int32).toInt = 0 := qI_0
            have : (20 : Int32).toInt = 20 := qI_20
            have t_n0 : (nI i).toInt = (i : Int) := tn2475_ ()
            have t_n1 : (nI j1).toInt = (j1 : Int) := tn2477_ ()
            exfalso; omega
          · skip
            refine lv_aload_n hx hb dX8_leadOnward_54 rfl (lv_at hl 2 rfl) ?_
            refine va_get (D := (dC, dI)) (ci := 8) (v := .ref to) (C := RX8) (T := TX8) (N := 3) hx hb hg inG8 hown hK.1 hP 0 rfl rfl 2 (Nat.le_of_ble_eq_true rfl) (hg _ wt_261) (fun _ h9 => h9) rfl dX8_leadOnward_55 ?_
            refine lv_iload_n hx hb dX8_leadOnward_58 rfl (lv_at hl 4 rfl) ?_
            refine lv_iconst (v := 1) hx hb dX8_leadOnward_59 rfl ?_
            refine lv_iadd hx hb dX8_leadOnward_60 ?_
            refine lv_cg (y := nI (i + 1)) (by rw [show (1 : Int32) = nI 1 from rfl]; exact nI_add _ _) ?_
            refine va_aldA hx hb hK.1 hP 2 4 rfl rfl (vp_in_nI (by first | omega | (have t_hj5 := hj5; have t_hlo_j1 := hlo_j1; have t_n8 := n8; have t_c9 := leI c9; have t_c10 := nleI c10; have tqz_ := qz12_; have tnb_ := nib2 tn2475_ tn2477_; omega)) (by decide)) dX8_leadOnward_61 ?_
            refine lv_cgv (y := .ref (ro (i + 1))) (rowref (by first | omega | (have t_hj5 := hj5; have t_hlo_j1 := hlo_j1; have t_n8 := n8; have t_c9 := leI c9; have t_c10 := nleI c10; have tqz_ := qz12_; have tnb_ := nib2 tn2475_ tn2477_; omega)) (by decide)) ?_
            refine lv_bipush (v := 9) hx hb dX8_leadOnward_62 rfl ?_
            refine lv_iload_n hx hb dX8_leadOnward_64 rfl (lv_at hl 1 rfl) ?_
            refine lv_iconst (v := 1) hx hb dX8_leadOnward_65 rfl ?_
            refine lv_iadd hx hb dX8_leadOnward_66 ?_
            refine lv_cg (y := nI (j1 + 1)) (by rw [show (1 : Int32) = nI 1 from rfl]; exact nI_add _ _) ?_
            have hPc := hP.sub (ws' := []) [] rfl
            refine va_calli (va_runS (As := [.int 9, .int (nI (j1 + 1))]) (rest := [.ref (ro (i + 1))]) ⟨hx, hb, hml, hown, hg⟩ (c_J9_min l dC dI G _ 9 (nI (j1 + 1))) (kwS hg mfJ9_min_7cf53 wt_776 ⟨Nat.le_of_ble_eq_true rfl, Nat.le_of_ble_eq_true rfl⟩) (preSR hK hPc) rfl rfl hl.1 rfl (lv_room (Nat.le_of_ble_eq_true rfl)) dX8_leadOnward_67 ⟨Nat.le_of_ble_eq_true rfl, Nat.le_of_ble_eq_true rfl⟩) hS (fun q h1 h2 => absurd h2 (Nat.not_le.mpr h1)) (fun q h => hA q (Nat.le_trans hS.1 h)) (fun r11 ur11 t H1 locs ht hvm w12 hB hz1 hk1 hS => ?_)
            have hP := keepR hP hk1
            obtain ⟨w12, w12x⟩ := w12
            have w12 : r11 = nI (min 9 (j1 + 1)) := w12.trans (mn_nI (a := 9) (b := (j1 + 1)) (by omega) (by omega))
            subst w12
            refine va_iald hx hb hK.1 (blk_P2 (j := (i + 1)) hP (by first | omega | (have t_hj5 := hj5; have t_hlo_j1 := hlo_j1; have t_n8 := n8; have t_c9 := leI c9; have t_c10 := nleI c10; have tqz_ := qz12_; have tnb_ := nib2 tn2475_ tn2477_; omega))) 0 0 rfl rfl (vp_in_nI (by first | omega | (have t_hj5 := hj5; have t_hlo_j1 := hlo_j1; have t_n8 := n8; have t_c9 := leI c9; have t_c10 := nleI c10; have tqz_ := qz12_; have tnb_ := nib2 tn2475_ tn2477_; omega)) (by decide)) dX8_leadOnward_70 ?_
            refine lv_cg (y := g2 (i + 1) (min 9 (j1 + 1))) (by rw [nI_clamp (by first | omega | (have t_hj5 := hj5; have t_hlo_j1 := hlo_j1; have t_n8 := n8; have t_c9 := leI c9; have t_c10 := nleI c10; have tqz_ := qz12_; have tnb_ := nib2 tn2475_ tn2477_; omega))]) ?_
            refine lv_goto (tgt := 75) hx hb dX8_leadOnward_71 rfl ?_
            refine lv_istore (lv' := [(5, .int (g2 (i + 1) (min 9 (j1 + 1)))), (4, .int 0), (3, .int (nI j1)), (0, .ref h0), (1, .int x1), (2, .int (nI i))]) hx hb dX8_leadOnward_75 hl (by decide) rfl (fun ls hl => ?_)
            refine lv_aload_n hx hb dX8_leadOnward_77 rfl (lv_at hl 3 rfl) ?_
            refine va_get (D := (dC, dI)) (ci := 8) (v := .ref to) (C := RX8) (T := TX8) (N := 3) hx hb hg inG8 hown hK.1 hP 0 rfl rfl 2 (Nat.le_of_ble_eq_true rfl) (hg _ wt_261) (fun _ h9 => h9) rfl dX8_leadOnward_78 ?_
            refine lv_iload_n hx hb dX8_leadOnward_81 rfl (lv_at hl 5 rfl) ?_
            refine va_aldA hx hb hK.1 hP 2 4 rfl rfl (vp_in_nI (by first | omega | (have t_hj5 := hj5; have t_hlo_j1 := hlo_j1; have t_n8 := n8; have t_c9 := leI c9; have t_c10 := nleI c10; have tqz_ := qz12_; have tnb_ := nib2 tn2475_ tn2477_; omega)) (by decide)) dX8_leadOnward_82 ?_
            refine lv_cgv (y := .ref (ro i)) (rowref (by first | omega | (have t_hj5 := hj5; have t_hlo_j1 := hlo_j1; have t_n8 := n8; have t_c9 := leI c9; have t_c10 := nleI c10; have tqz_ := qz12_; have tnb_ := nib2 tn2475_ tn2477_; omega)) (by decide)) ?_
            refine lv_iload_n hx hb dX8_leadOnward_83 rfl (lv_at hl 2 rfl) ?_
            refine lv_iload hx hb dX8_leadOnward_84 (lv_at hl 1 rfl) ?_
            refine lv_iload hx hb dX8_leadOnward_86 (lv_at hl 0 rfl) ?_
            refine lv_iadd hx hb dX8_leadOnward_88 ?_
            refine va_iastB2 (j := i) hx hb hK.1 hP hD hS 0 (by first | omega | (have t_hj5 := hj5; have t_hlo_j1 := hlo_j1; have t_n8 := n8; have t_c9 := leI c9; have t_c10 := nleI c10; have tqz_ := qz12_; have tnb_ := nib2 tn2475_ tn2477_; omega)) rfl (vp_in_nI (by first | omega | (have t_hj5 := hj5; have t_hlo_j1 := hlo_j1; have t_n8 := n8; have t_c9 := leI c9; have t_c10 := nleI c10; have tqz_ := qz12_; have tnb_ := nib2 tn2475_ tn2477_; omega)) (by decide)) dX8_leadOnward_89 (fun H locs hP hD hS => ?_)
            rw [nI_clamp (by first | omega | (have t_hj5 := hj5; have t_hlo_j1 := hlo_j1; have t_n8 := n8; have t_c9 := leI c9; have t_c10 := nleI c10; have tqz_ := qz12_; have tnb_ := nib2 tn2475_ tn2477_; omega))] at hP hD
            obtain ⟨hP, hD⟩ := va_rls (ws' := (([(h0, .inr (8, [.int tt, .ref ti, .ref to])), (ti, .inl (G 4, 11, .inr (.inr (.inr (.inr (fun ir => if ir < 11 then some (ri ir) else none)))))), (to, .inl (G 4, 11, .inr (.inr (.inr (.inr (fun ir => if ir < 11 then some (ro ir) else none))))))] : va_W) ++ ((((List.range 11).map (fun iq => (ri iq, .inl (G 0, 10, .inl (F iq))))) : va_W) ++ ((((List.range 11).map (fun iq => (ro iq, .inl (G 0, 10, .inl ((va_up g2 i (upd (g2 i) j1 (0 + (g2 (i + 1) (min 9 (j1 + 1)))))) iq))))) : va_W) ++ [])))) hP hD rfl
            refine lv_iinc (v := nI (j1 + 1)) (lv' := [(3, .int (nI (j1 + 1))), (5, .int (g2 (i + 1) (min 9 (j1 + 1)))), (4, .int 0), (0, .ref h0), (1, .int x1), (2, .int (nI i))]) hx hb dX8_leadOnward_90 hl (k := 2) rfl (by rw [show Int32.ofInt 1 = nI 1 from by decide]; exact nI_add _ _) (by decide) rfl (fun ls hl => ?_)
            refine lv_goto (tgt := 20) hx hb dX8_leadOnward_93 rfl ?_
            exact ih20_3 (j1 + 1) (by omega) (by omega) (by omega) (va_up g2 i (upd (g2 i) j1 (0 + (g2 (i + 1) (min 9 (j1 + 1)))))) _ _ (LO.s hinv (onT_c (by omega) (fun e9 => by have e8 := of_decide_eq_true e9; have t_hj5 := hj5; have t_hlo_j1 := hlo_j1; have t_n8 := n8; have t_c9 := leI c9; have t_c10 := nleI c10; have tqz_ := qz12_; have tnb_ := nib2 tn2475_ tn2477_; have lz0 : (0 : Int32).toInt = 0 := qI_0; have lz1 : (1 : Int32).toInt = 1 := qI_1; have lz2 : (2 : Int32).toInt = 2 := qI_2; have lz3 : (3 : Int32).toInt = 3 := qI_3; have lz5 : (5 : Int32).toInt = 5 := qI_5; have lz9 : (9 : Int32).toInt = 9 := qI_9; have lz20 : (20 : Int32).toInt = 20 := qI_20; omega) (decide_eq_true (by have t_hj5 := hj5; have t_hlo_j1 := hlo_j1; have t_n8 := n8; have t_c9 := leI c9; have t_c10 := nleI c10; have tqz_ := qz12_; have tnb_ := nib2 tn2475_ tn2477_; have lz0 : (0 : Int32).toInt = 0 := qI_0; have lz1 : (1 : Int32).toInt = 1 := qI_1; have lz2 : (2 : Int32).toInt = 2 := qI_2; have lz3 : (3 : Int32).toInt = 3 := qI_3; have lz5 : (5 : Int32).toInt = 5 := qI_5; have lz9 : (9 : Int32).toInt = 9 := qI_9; have lz20 : (20 : Int32).toInt = 20 := qI_20; omega)))) hP hD hS ls (lv_sub hl [0, 3, 4, 5] rfl)
        · skip
          refine lv_aload_n hx hb dX8_leadOnward_30 rfl (lv_at hl 1 rfl) ?_
          refine va_get (D := (dC, dI)) (ci := 8) (v := .ref to) (C := RX8) (T := TX8) (N := 3) hx hb hg inG8 hown hK.1 hP 0 rfl rfl 2 (Nat.le_of_ble_eq_true rfl) (hg _ wt_261) (fun _ h9 => h9) rfl dX8_leadOnward_31 ?_
          refine lv_iload_n hx hb dX8_leadOnward_34 rfl (lv_at hl 3 rfl) ?_
          refine lv_iconst (v := 1) hx hb dX8_leadOnward_35 rfl ?_
          refine lv_iadd hx hb dX8_leadOnward_36 ?_
          refine lv_cg (y := nI (i + 1)) (by rw [show (1 : Int32) = nI 1 from rfl]; exact nI_add _ _) ?_
          refine va_aldA hx hb hK.1 hP 2 4 rfl rfl (vp_in_nI (by first | omega | (have t_hj5 := hj5; have t_hlo_j1 := hlo_j1; have t_n8 := n8; have t_c9 := nleI c9; have : (0 : Int32).toInt = 0 := qI_0; have tnb_ := nib2 tn2475_ tn2477_; omega)) (by decide)) dX8_leadOnward_37 ?_
          refine lv_cgv (y := .ref (ro (i + 1))) (rowref (by first | omega | (have t_hj5 := hj5; have t_hlo_j1 := hlo_j1; have t_n8 := n8; have t_c9 := nleI c9; have : (0 : Int32).toInt = 0 := qI_0; have tnb_ := nib2 tn2475_ tn2477_; omega)) (by decide)) ?_
          refine lv_iload_n hx hb dX8_leadOnward_38 rfl (lv_at hl 0 rfl) ?_
          refine lv_iconst (v := 1) hx hb dX8_leadOnward_39 rfl ?_
          refine lv_isub hx hb dX8_leadOnward_40 ?_
          refine lv_cg (y := nI (j1 - 1)) (by rw [show (1 : Int32) = nI 1 from rfl]; exact pk_sub (by have t_hj5 := hj5; have t_hlo_j1 := hlo_j1; have t_n8 := n8; have t_c9 := nleI c9; have : (0 : Int32).toInt = 0 := qI_0; have tnb_ := nib2 tn2475_ tn2477_; omega)) ?_
          refine va_iald hx hb hK.1 (blk_P2 (j := (i + 1)) hP (by first | omega | (have t_hj5 := hj5; have t_hlo_j1 := hlo_j1; have t_n8 := n8; have t_c9 := nleI c9; have : (0 : Int32).toInt = 0 := qI_0; have tnb_ := nib2 tn2475_ tn2477_; omega))) 0 0 rfl rfl (vp_in_nI (by first | omega | (have t_hj5 := hj5; have t_hlo_j1 := hlo_j1; have t_n8 := n8; have t_c9 := nleI c9; have : (0 : Int32).toInt = 0 := qI_0; have tnb_ := nib2 tn2475_ tn2477_; omega)) (by decide)) dX8_leadOnward_41 ?_
          refine lv_cg (y := g2 (i + 1) (j1 - 1)) (by rw [nI_clamp (by first | omega | (have t_hj5 := hj5; have t_hlo_j1 := hlo_j1; have t_n8 := n8; have t_c9 := nleI c9; have : (0 : Int32).toInt = 0 := qI_0; have tnb_ := nib2 tn2475_ tn2477_; omega))]) ?_
          refine lv_goto (tgt := 46) hx hb dX8_leadOnward_42 rfl ?_
          refine lv_istore (lv' := [(4, .int (g2 (i + 1) (j1 - 1))), (3, .int (nI j1)), (0, .ref h0), (1, .int x1), (2, .int (nI i))]) hx hb dX8_leadOnward_46 hl (by decide) rfl (fun ls hl => ?_)
          refine lv_iload_n hx hb dX8_leadOnward_48 rfl (lv_at hl 3 rfl) ?_
          refine lv_bipush (v := 20) hx hb dX8_leadOnward_49 rfl ?_
          refine lv_icmp_ge (tgt := 74) hx hb dX8_leadOnward_51 rfl (fun c13 => ?_) (fun c13 => ?_)
          · skip
            refine lv_iconst (v := 0) hx hb dX8_leadOnward_74 rfl ?_
            refine lv_istore (lv' := [(5, .int 0), (4, .int (g2 (i + 1) (j1 - 1))), (3, .int (nI j1)), (0, .ref h0), (1, .int x1), (2, .int (nI i))]) hx hb dX8_leadOnward_75 hl (by decide) rfl (fun ls hl => ?_)
            refine lv_aload_n hx hb dX8_leadOnward_77 rfl (lv_at hl 3 rfl) ?_
            refine va_get (D := (dC, dI)) (ci := 8) (v := .ref to) (C := RX8) (T := TX8) (N := 3) hx hb hg inG8 hown hK.1 hP 0 rfl rfl 2 (Nat.le_of_ble_eq_true rfl) (hg _ wt_261) (fun _ h9 => h9) rfl dX8_leadOnward_78 ?_
            refine lv_iload_n hx hb dX8_leadOnward_81 rfl (lv_at hl 5 rfl) ?_
            refine va_aldA hx hb hK.1 hP 2 4 rfl rfl (vp_in_nI (by first | omega | (have t_hj5 := hj5; have t_hlo_j1 := hlo_j1; have t_n8 := n8; have t_c9 := nleI c9; have t_c13 := leI c13; have tqz_ := qz12_; have tnb_ := nib2 tn2475_ tn2477_; omega)) (by decide)) dX8_leadOnward_82 ?_
            refine lv_cgv (y := .ref (ro i)) (rowref (by first | omega | (have t_hj5 := hj5; have t_hlo_j1 := hlo_j1; have t_n8 := n8; have t_c9 := nleI c9; have t_c13 := leI c13; have tqz_ := qz12_; have tnb_ := nib2 tn2475_ tn2477_; omega)) (by decide)) ?_
            refine lv_iload_n hx hb dX8_leadOnward_83 rfl (lv_at hl 2 rfl) ?_
            refine lv_iload hx hb dX8_leadOnward_84 (lv_at hl 1 rfl) ?_
            refine lv_iload hx hb dX8_leadOnward_86 (lv_at hl 0 rfl) ?_
            refine lv_iadd hx hb dX8_leadOnward_88 ?_
            refine va_iastB2 (j := i) hx hb hK.1 hP hD hS 0 (by first | omega | (have t_hj5 := hj5; have t_hlo_j1 := hlo_j1; have t_n8 := n8; have t_c9 := nleI c9; have t_c13 := leI c13; have tqz_ := qz12_; have tnb_ := nib2 tn2475_ tn2477_; omega)) rfl (vp_in_nI (by first | omega | (have t_hj5 := hj5; have t_hlo_j1 := hlo_j1; have t_n8 := n8; have t_c9 := nleI c9; have t_c13 := leI c13; have tqz_ := qz12_; have tnb_ := nib2 tn2475_ tn2477_; omega)) (by decide)) dX8_leadOnward_89 (fun H locs hP hD hS => ?_)
            rw [nI_clamp (by first | omega | (have t_hj5 := hj5; have t_hlo_j1 := hlo_j1; have t_n8 := n8; have t_c9 := nleI c9; have t_c13 := leI c13; have tqz_ := qz12_; have tnb_ := nib2 tn2475_ tn2477_; omega))] at hP hD
            obtain ⟨hP, hD⟩ := va_rls (ws' := (([(h0, .inr (8, [.int tt, .ref ti, .ref to])), (ti, .inl (G 4, 11, .inr (.inr (.inr (.inr (fun ir => if ir < 11 then some (ri ir) else none)))))), (to, .inl (G 4, 11, .inr (.inr (.inr (.inr (fun ir => if ir < 11 then some (ro ir) else none))))))] : va_W) ++ ((((List.range 11).map (fun iq => (ri iq, .inl (G 0, 10, .inl (F iq))))) : va_W) ++ ((((List.range 11).map (fun iq => (ro iq, .inl (G 0, 10, .inl ((va_up g2 i (upd (g2 i) j1 ((g2 (i + 1) (j1 - 1)) + 0))) iq))))) : va_W) ++ [])))) hP hD rfl
            refine lv_iinc (v := nI (j1 + 1)) (lv' := [(3, .int (nI (j1 + 1))), (5, .int 0), (4, .int (g2 (i + 1) (j1 - 1))), (0, .ref h0), (1, .int x1), (2, .int (nI i))]) hx hb dX8_leadOnward_90 hl (k := 2) rfl (by rw [show Int32.ofInt 1 = nI 1 from by decide]; exact nI_add _ _) (by decide) rfl (fun ls hl => ?_)
            refine lv_goto (tgt := 20) hx hb dX8_leadOnward_93 rfl ?_
            exact ih20_3 (j1 + 1) (by omega) (by omega) (by omega) (va_up g2 i (upd (g2 i) j1 ((g2 (i + 1) (j1 - 1)) + 0))) _ _ (LO.s hinv (onT_b (by omega) (decide_eq_true (by have t_hj5 := hj5; have t_hlo_j1 := hlo_j1; have t_n8 := n8; have t_c9 := nleI c9; have t_c13 := leI c13; have tqz_ := qz12_; have tnb_ := nib2 tn2475_ tn2477_; have lz0 : (0 : Int32).toInt = 0 := qI_0; have lz1 : (1 : Int32).toInt = 1 := qI_1; have lz2 : (2 : Int32).toInt = 2 := qI_2; have lz3 : (3 : Int32).toInt = 3 := qI_3; have lz5 : (5 : Int32).toInt = 5 := qI_5; have lz9 : (9 : Int32).toInt = 9 := qI_9; have lz20 : (20 : Int32).toInt = 20 := qI_20; omega)) (fun e9 => by have e8 := of_decide_eq_true e9; have t_hj5 := hj5; have t_hlo_j1 := hlo_j1; have t_n8 := n8; have t_c9 := nleI c9; have t_c13 := leI c13; have tqz_ := qz12_; have tnb_ := nib2 tn2475_ tn2477_; have lz0 : (0 : Int32).toInt = 0 := qI_0; have lz1 : (1 : Int32).toInt = 1 := qI_1; have lz2 : (2 : Int32).toInt = 2 := qI_2; have lz3 : (3 : Int32).toInt = 3 := qI_3; have lz5 : (5 : Int32).toInt = 5 := qI_5; have lz9 : (9 : Int32).toInt = 9 := qI_9; have lz20 : (20 : Int32).toInt = 20 := qI_20; omega))) hP hD hS ls (lv_sub hl [0, 3, 4, 5] rfl)
          · skip
            refine lv_aload_n hx hb dX8_leadOnward_54 rfl (lv_at hl 2 rfl) ?_
            refine va_get (D := (dC, dI)) (ci := 8) (v := .ref to) (C := RX8) (T := TX8) (N := 3) hx hb hg inG8 hown hK.1 hP 0 rfl rfl 2 (Nat.le_of_ble_eq_true rfl) (hg _ wt_261) (fun _ h9 => h9) rfl dX8_leadOnward_55 ?_
            refine lv_iload_n hx hb dX8_leadOnward_58 rfl (lv_at hl 4 rfl) ?_
            refine lv_iconst (v := 1) hx hb dX8_leadOnward_59 rfl ?_
            refine lv_iadd hx hb dX8_leadOnward_60 ?_
            refine lv_cg (y := nI (i + 1)) (by rw [show (1 : Int32) = nI 1 from rfl]; exact nI_add _ _) ?_
            refine va_aldA hx hb hK.1 hP 2 4 rfl rfl (vp_in_nI (by first | omega | (have t_hj5 := hj5; have t_hlo_j1 := hlo_j1; have t_n8 := n8; have t_c9 := nleI c9; have t_c13 := nleI c13; have tqz_ := qz12_; have tnb_ := nib2 tn2475_ tn2477_; omega)) (by decide)) dX8_leadOnward_61 ?_
            refine lv_cgv (y := .ref (ro (i + 1))) (rowref (by first | omega | (have t_hj5 := hj5; have t_hlo_j1 := hlo_j1; have t_n8 := n8; have t_c9 := nleI c9; have t_c13 := nleI c13; have tqz_ := qz12_; have tnb_ := nib2 tn2475_ tn2477_; omega)) (by decide)) ?_
            refine lv_bipush (v := 9) hx hb dX8_leadOnward_62 rfl ?_
            refine lv_iload_n hx hb dX8_leadOnward_64 rfl (lv_at hl 1 rfl) ?_
            refine lv_iconst (v := 1) hx hb dX8_leadOnward_65 rfl ?_
            refine lv_iadd hx hb dX8_leadOnward_66 ?_
            refine lv_cg (y := nI (j1 + 1)) (by rw [show (1 : Int32) = nI 1 from rfl]; exact nI_add _ _) ?_
            have hPc := hP.sub (ws' := []) [] rfl
            refine va_calli (va_runS (As := [.int 9, .int (nI (j1 + 1))]) (rest := [.ref (ro (i + 1))]) ⟨hx, hb, hml, hown, hg⟩ (c_J9_min l dC dI G _ 9 (nI (j1 + 1))) (kwS hg mfJ9_min_7cf53 wt_776 ⟨Nat.le_of_ble_eq_true rfl, Nat.le_of_ble_eq_true rfl⟩) (preSR hK hPc) rfl rfl hl.1 rfl (lv_room (Nat.le_of_ble_eq_true rfl)) dX8_leadOnward_67 ⟨Nat.le_of_ble_eq_true rfl, Nat.le_of_ble_eq_true rfl⟩) hS (fun q h1 h2 => absurd h2 (Nat.not_le.mpr h1)) (fun q h => hA q (Nat.le_trans hS.1 h)) (fun r14 ur14 t H1 locs ht hvm w15 hB hz1 hk1 hS => ?_)
            have hP := keepR hP hk1
            obtain ⟨w15, w15x⟩ := w15
            have w15 : r14 = nI (min 9 (j1 + 1)) := w15.trans (mn_nI (a := 9) (b := (j1 + 1)) (by omega) (by omega))
            subst w15
            refine va_iald hx hb hK.1 (blk_P2 (j := (i + 1)) hP (by first | omega | (have t_hj5 := hj5; have t_hlo_j1 := hlo_j1; have t_n8 := n8; have t_c9 := nleI c9; have t_c13 := nleI c13; have tqz_ := qz12_; have tnb_ := nib2 tn2475_ tn2477_; omega))) 0 0 rfl rfl (vp_in_nI (by first | omega | (have t_hj5 := hj5; have t_hlo_j1 := hlo_j1; have t_n8 := n8; have t_c9 := nleI c9; have t_c13 := nleI c13; have tqz_ := qz12_; have tnb_ := nib2 tn2475_ tn2477_; omega)) (by decide)) dX8_leadOnward_70 ?_
            refine lv_cg (y := g2 (i + 1) (min 9 (j1 + 1))) (by rw [nI_clamp (by first | omega | (have t_hj5 := hj5; have t_hlo_j1 := hlo_j1; have t_n8 := n8; have t_c9 := nleI c9; have t_c13 := nleI c13; have tqz_ := qz12_; have tnb_ := nib2 tn2475_ tn2477_; omega))]) ?_
            refine lv_goto (tgt := 75) hx hb dX8_leadOnward_71 rfl ?_
            refine lv_istore (lv' := [(5, .int (g2 (i + 1) (min 9 (j1 + 1)))), (4, .int (g2 (i + 1) (j1 - 1))), (3, .int (nI j1)), (0, .ref h0), (1, .int x1), (2, .int (nI i))]) hx hb dX8_leadOnward_75 hl (by decide) rfl (fun ls hl => ?_)
            refine lv_aload_n hx hb dX8_leadOnward_77 rfl (lv_at hl 3 rfl) ?_
            refine va_get (D := (dC, dI)) (ci := 8) (v := .ref to) (C := RX8) (T := TX8) (N := 3) hx hb hg inG8 hown hK.1 hP 0 rfl rfl 2 (Nat.le_of_ble_eq_true rfl) (hg _ wt_261) (fun _ h9 => h9) rfl dX8_leadOnward_78 ?_
            refine lv_iload_n hx hb dX8_leadOnward_81 rfl (lv_at hl 5 rfl) ?_
            refine va_aldA hx hb hK.1 hP 2 4 rfl rfl (vp_in_nI (by first | omega | (have t_hj5 := hj5; have t_hlo_j1 := hlo_j1; have t_n8 := n8; have t_c9 := nleI c9; have t_c13 := nleI c13; have tqz_ := qz12_; have tnb_ := nib2 tn2475_ tn2477_; omega)) (by decide)) dX8_leadOnward_82 ?_
            refine lv_cgv (y := .ref (ro i)) (rowref (by first | omega | (have t_hj5 := hj5; have t_hlo_j1 := hlo_j1; have t_n8 := n8; have t_c9 := nleI c9; have t_c13 := nleI c13; have tqz_ := qz12_; have tnb_ := nib2 tn2475_ tn2477_; omega)) (by decide)) ?_
            refine lv_iload_n hx hb dX8_leadOnward_83 rfl (lv_at hl 2 rfl) ?_
            refine lv_iload hx hb dX8_leadOnward_84 (lv_at hl 1 rfl) ?_
            refine lv_iload hx hb dX8_leadOnward_86 (lv_at hl 0 rfl) ?_
            refine lv_iadd hx hb dX8_leadOnward_88 ?_
            refine va_iastB2 (j := i) hx hb hK.1 hP hD hS 0 (by first | omega | (have t_hj5 := hj5; have t_hlo_j1 := hlo_j1; have t_n8 := n8; have t_c9 := nleI c9; have t_c13 := nleI c13; have tqz_ := qz12_; have tnb_ := nib2 tn2475_ tn2477_; omega)) rfl (vp_in_nI (by first | omega | (have t_hj5 := hj5; have t_hlo_j1 := hlo_j1; have t_n8 := n8; have t_c9 := nleI c9; have t_c13 := nleI c13; have tqz_ := qz12_; have tnb_ := nib2 tn2475_ tn2477_; omega)) (by decide)) dX8_leadOnward_89 (fun H locs hP hD hS => ?_)
            rw [nI_clamp (by first | omega | (have t_hj5 := hj5; have t_hlo_j1 := hlo_j1; have t_n8 := n8; have t_c9 := nleI c9; have t_c13 := nleI c13; have tqz_ := qz12_; have tnb_ := nib2 tn2475_ tn2477_; omega))] at hP hD
            obtain ⟨hP, hD⟩ := va_rls (ws' := (([(h0, .inr (8, [.int tt, .ref ti, .ref to])), (ti, .inl (G 4, 11, .inr (.inr (.inr (.inr (fun ir => if ir < 11 then some (ri ir) else none)))))), (to, .inl (G 4, 11, .inr (.inr (.inr (.inr (fun ir => if ir < 11 then some (ro ir) else none))))))] : va_W) ++ ((((List.range 11).map (fun iq => (ri iq, .inl (G 0, 10, .inl (F iq))))) : va_W) ++ ((((List.range 11).map (fun iq => (ro iq, .inl (G 0, 10, .inl ((va_up g2 i (upd (g2 i) j1 ((g2 (i + 1) (j1 - 1)) + (g2 (i + 1) (min 9 (j1 + 1)))))) iq))))) : va_W) ++ [])))) hP hD rfl
            refine lv_iinc (v := nI (j1 + 1)) (lv' := [(3, .int (nI (j1 + 1))), (5, .int (g2 (i + 1) (min 9 (j1 + 1)))), (4, .int (g2 (i + 1) (j1 - 1))), (0, .ref h0), (1, .int x1), (2, .int (nI i))]) hx hb dX8_leadOnward_90 hl (k := 2) rfl (by rw [show Int32.ofInt 1 = nI 1 from by decide]; exact nI_add _ _) (by decide) rfl (fun ls hl => ?_)
            refine lv_goto (tgt := 20) hx hb dX8_leadOnward_93 rfl ?_
            exact ih20_3 (j1 + 1) (by omega) (by omega) (by omega) (va_up g2 i (upd (g2 i) j1 ((g2 (i + 1) (j1 - 1)) + (g2 (i + 1) (min 9 (j1 + 1)))))) _ _ (LO.s hinv (onT_a (by omega) (decide_eq_true (by have t_hj5 := hj5; have t_hlo_j1 := hlo_j1; have t_n8 := n8; have t_c9 := nleI c9; have t_c13 := nleI c13; have tqz_ := qz12_; have tnb_ := nib2 tn2475_ tn2477_; have lz0 : (0 : Int32).toInt = 0 := qI_0; have lz1 : (1 : Int32).toInt = 1 := qI_1; have lz2 : (2 : Int32).toInt = 2 := qI_2; have lz3 : (3 : Int32).toInt = 3 := qI_3; have lz5 : (5 : Int32).toInt = 5 := qI_5; have lz9 : (9 : Int32).toInt = 9 := qI_9; have lz20 : (20 : Int32).toInt = 20 := qI_20; omega)) (decide_eq_true (by have t_hj5 := hj5; have t_hlo_j1 := hlo_j1; have t_n8 := n8; have t_c9 := nleI c9; have t_c13 := nleI c13; have tqz_ := qz12_; have tnb_ := nib2 tn2475_ tn2477_; have lz0 : (0 : Int32).toInt = 0 := qI_0; have lz1 : (1 : Int32).toInt = 1 := qI_1; have lz2 : (2 : Int32).toInt = 2 := qI_2; have lz3 : (3 : Int32).toInt = 3 := qI_3; have lz5 : (5 : Int32).toInt = 5 := qI_5; have lz9 : (9 : Int32).toInt = 9 := qI_9; have lz20 : (20 : Int32).toInt = 20 := qI_20; omega)))) hP hD hS ls (lv_sub hl [0, 3, 4, 5] rfl)
  exact loop20_3 (10 + 1) 1 (by omega) (by omega) (by omega) (va_up E i (upd (E i) 0 (E (i + 1) 0))) _ _ LO.z hP hD hS ls (lv_sub hl [0, 1, 2, 3] rfl)

theorem ex0_y {G : Nat → Nat → Int32} {D j : Nat} (h : ∀ q : Nat, q < j → G 0 q = if q = D then 1 else 0) (e : j = D) : ∀ q : Nat, q < j + 1 → va_up G 0 (upd (G 0) j 1) 0 q = if q = D then 1 else 0 := by
  intro q hq
  rw [vu_y]
  show (if q = j then 1 else G 0 q) = _
  by_cases c : q = j
  · rw [if_pos c, if_pos (by omega)]
  · rw [if_neg c]; exact h q (by omega)
theorem ex0_n {G : Nat → Nat → Int32} {D j : Nat} (h : ∀ q : Nat, q < j → G 0 q = if q = D then 1 else 0) (e : ¬ j = D) : ∀ q : Nat, q < j + 1 → va_up G 0 (upd (G 0) j 0) 0 q = if q = D then 1 else 0 := by
  intro q hq
  rw [vu_y]
  show (if q = j then 0 else G 0 q) = _
  by_cases c : q = j
  · rw [if_pos c, if_neg (by omega)]
  · rw [if_neg c]; exact h q (by omega)
theorem ex1_s {G : Nat → Nat → Int32} {N j : Nat} (h : ∀ q : Nat, q < j → G N q = 1) : ∀ q : Nat, q < j + 1 → va_up G N (upd (G N) j 1) N q = 1 := by
  intro q hq
  rw [vu_y]
  show (if q = j then 1 else G N q) = 1
  by_cases c : q = j
  · rw [if_pos c]
  · rw [if_neg c]; exact h q (by omega)
def EXF (H : Nat → Int32) (AL : Nat → Nat → Bool) (D j : Nat) (G : Nat → Nat → Int32) : Prop := ∀ m : Nat, m ≤ j → ∀ q : Nat, q < 10 → G m q = inS H AL D m q
theorem exF_z {H : Nat → Int32} {AL : Nat → Nat → Bool} {D : Nat} {G : Nat → Nat → Int32} (h : ∀ q : Nat, q < 10 → G 0 q = if q = D then 1 else 0) : EXF H AL D 0 G := by
  intro m hm q hq
  rw [show m = 0 by omega]
  exact h q hq
theorem exF_s {H : Nat → Int32} {AL : Nat → Nat → Bool} {D j : Nat} {G u u' : Nat → Nat → Int32} (h : EXF H AL D j G) (l : LI1 (decide (0 < (H j).toInt)) (decide ((H j).toInt < 20)) j 10 u G) (d : DUm (AL j) (j + 1) 10 u' u) : EXF H AL D (j + 1) u' := by
  intro m hm q hq
  by_cases c : m = j + 1
  · subst c
    rw [d.1 q hq]
    show (if AL j q = true then u (j + 1) q else 0) = (if AL j q = true then inR (decide (0 < (H j).toInt)) (decide ((H j).toInt < 20)) (inS H AL D j) 9 q else 0)
    rw [l.1 q hq, inR_cg (h j (Nat.le_refl j)) (10 - 1) (by decide) q hq]
  · rw [d.2.2 m c, l.2 m c]
    exact h m (by omega) q hq
def EXO (H : Nat → Int32) (AL : Nat → Nat → Bool) (N j : Nat) (G : Nat → Nat → Int32) : Prop := (∀ q : Nat, q < 10 → G j q = onS H AL N (N - j) q) ∧ (∀ m : Nat, j ≤ m → m < N → ∀ q : Nat, q < 10 → G (m + 1) q = onD (AL m) (onS H AL N (N - (m + 1))) q)
theorem exO_z {H : Nat → Int32} {AL : Nat → Nat → Bool} {N : Nat} {G : Nat → Nat → Int32} (h : ∀ q : Nat, q < 10 → G N q = 1) : EXO H AL N N G := by
  refine ⟨fun q hq => ?_, fun m h1 h2 => absurd h2 (by omega)⟩
  rw [Nat.sub_self]
  exact h q hq
theorem exO_s {H : Nat → Int32} {AL : Nat → Nat → Bool} {N j : Nat} {G u u' : Nat → Nat → Int32} (hj : j + 1 ≤ N) (h : EXO H AL N (j + 1) G) (d : DUm (AL j) (j + 1) 10 u G) (l : LO (decide (0 < (H j).toInt)) (decide ((H j).toInt < 20)) j 10 u' u) : EXO H AL N j u' := by
  have row : ∀ q : Nat, q < 10 → u (j + 1) q = onD (AL j) (onS H AL N (N - (j + 1))) q := fun q hq => by
    rw [d.1 q hq]
    exact onD_cg (fun _ _ => rfl) h.1 q hq
  refine ⟨fun q hq => ?_, fun m h1 h2 q hq => ?_⟩
  · rw [l.1 q hq, show N - j = (N - (j + 1)) + 1 by omega]
    show _ = onT (decide (0 < (H (N - (N - (j + 1) + 1))).toInt)) (decide ((H (N - (N - (j + 1) + 1))).toInt < 20)) (onD (AL (N - (N - (j + 1) + 1))) (onS H AL N (N - (j + 1)))) q
    rw [show N - (N - (j + 1) + 1) = j by omega]
    exact onT_cg row q hq
  · by_cases c : m = j
    · subst c
      rw [l.2 (m + 1) (by omega)]
      exact row q hq
    · rw [l.2 (m + 1) (by omega), d.2.2 (m + 1) (by omega)]
      exact h.2 m (by omega) h2 q hq
def eyR (p : Nat → Bool) : Nat → Int32
  | 0 => 0
  | i + 1 => if p i = true then eyR p i ||| ((1 : Int32) <<< (nI i &&& 31)) else eyR p i
theorem ey_y {p : Nat → Bool} {i : Nat} {y : Int32} (h : y = eyR p i) (e : p i = true) : y ||| ((1 : Int32) <<< (nI i &&& 31)) = eyR p (i + 1) := by
  show _ = (if p i = true then eyR p i ||| ((1 : Int32) <<< (nI i &&& 31)) else eyR p i)
  rw [if_pos e, h]
theorem ey_n {p : Nat → Bool} {i : Nat} {y : Int32} (h : y = eyR p i) (e : ¬ p i = true) : y = eyR p (i + 1) := by
  show _ = (if p i = true then eyR p i ||| ((1 : Int32) <<< (nI i &&& 31)) else eyR p i)
  rw [if_neg e, h]
theorem eyR_cg {p p' : Nat → Bool} : ∀ n : Nat, (∀ i : Nat, i < n → p i = p' i) → eyR p n = eyR p' n := by
  intro n
  induction n with
  | zero => intro _; rfl
  | succ n ih =>
    intro h
    show (if p n = true then eyR p n ||| ((1 : Int32) <<< (nI n &&& 31)) else eyR p n) = (if p' n = true then eyR p' n ||| ((1 : Int32) <<< (nI n &&& 31)) else eyR p' n)
    rw [h n (by omega), ih (fun i hi => h i (by omega))]
/-- what falls, what rises -/
def faF (a b : Nat → Int32) : Nat → Int32
  | 0 => 0
  | d + 1 => faF a b d + a (d + 1) * b d
def riF (a b : Nat → Int32) : Nat → Int32
  | 0 => 0
  | d + 1 => riF a b d + a (d + 1) * b (min 9 (d + 2))
theorem fa_s {a b : Nat → Int32} {j : Nat} {y : Int32} (hj : 1 ≤ j) (h : y = faF a b (j - 1)) : y + a j * b (j - 1) = faF a b (j + 1 - 1) := by
  obtain ⟨d, rfl⟩ : ∃ d : Nat, j = d + 1 := ⟨j - 1, by omega⟩
  rw [h]; rfl
theorem ri_s {a b : Nat → Int32} {j : Nat} {y : Int32} (hj : 1 ≤ j) (h : y = riF a b (j - 1)) : y + a j * b (min 9 (j + 1)) = riF a b (j + 1 - 1) := by
  obtain ⟨d, rfl⟩ : ∃ d : Nat, j = d + 1 := ⟨j - 1, by omega⟩
  rw [h]; rfl
theorem faF_cg {a a' b b' : Nat → Int32} (ha : ∀ q : Nat, q < 10 → a q = a' q) (hb : ∀ q : Nat, q < 10 → b q = b' q) : ∀ d : Nat, d ≤ 9 → faF a b d = faF a' b' d := by
  intro d
  induction d with
  | zero => intro _; rfl
  | succ d ih =>
    intro hd
    show faF a b d + a (d + 1) * b d = faF a' b' d + a' (d + 1) * b' d
    rw [ih (by omega), ha (d + 1) (by omega), hb d (by omega)]
theorem riF_cg {a a' b b' : Nat → Int32} (ha : ∀ q : Nat, q < 10 → a q = a' q) (hb : ∀ q : Nat, q < 10 → b q = b' q) : ∀ d : Nat, d ≤ 9 → riF a b d = riF a' b' d := by
  intro d
  induction d with
  | zero => intro _; rfl
  | succ d ih =>
    intro hd
    show riF a b d + a (d + 1) * b (min 9 (d + 2)) = riF a' b' d + a' (d + 1) * b' (min 9 (d + 2))
    rw [ih (by omega), ha (d + 1) (by omega), hb (min 9 (d + 2)) (by omega)]

set_option maxHeartbeats 4000000 in
set_option maxRecDepth 100000 in
theorem c_X8_exploreE (l : Launch) (dC : Nat → ClassId) (dI : Nat → Nat → Nat) (G : Nat → ClassId) (sz : Nat) (h0 ti to wy a1 a2 a3 a4 a5 a6 N B D mk m1 m2 S : Nat) (tt : Int32) (f1 f2 f3 f4 f5 f6 z1 z2 : Nat → Int32) (ri ro : Nat → Nat) (F E : Nat → Nat → Int32) (hN_N : N ≤ 10) (hB_B : B ≤ 6) (hD_D : 1 ≤ D ∧ D ≤ 9) (hS0 : S ≤ 6) : Met l yX8_explore (Cond.code yX8_explore cX8_explore 4 none :: GT) ({ frames := 4, cells := 0, slots := 0, locals := 88 } : Room) (PcW [.ref h0, .ref wy, .ref mk] dC dI G (([(h0, .inr (8, [.int tt, .ref ti, .ref to])), (ti, .inl (G 4, 11, .inr (.inr (.inr (.inr (fun ir => if ir < 11 then some (ri ir) else none)))))), (to, .inl (G 4, 11, .inr (.inr (.inr (.inr (fun ir => if ir < 11 then some (ro ir) else none)))))), (wy, .inr (9, [.int (nI N), .int (nI B), .int (nI D), .ref a1, .ref a2, .ref a3, .ref a4, .ref a5, .ref a6])), (a1, .inl (G 0, 10, .inl f1)), (a2, .inl (G 0, 10, .inl f2)), (a3, .inl (G 0, 10, .inl f3)), (a4, .inl (G 0, 6, .inl f4)), (a5, .inl (G 0, 6, .inl f5)), (a6, .inl (G 0, 6, .inl f6)), (mk, .inr (3, [.int (nI S), .ref m1, .ref m2])), (m1, .inl (G 0, 6, .inl z1)), (m2, .inl (G 0, 6, .inl z2))] : va_W) ++ ((((List.range 11).map (fun iq => (ri iq, .inl (G 0, 10, .inl (F iq))))) : va_W) ++ ((((List.range 11).map (fun iq => (ro iq, .inl (G 0, 10, .inl (E iq))))) : va_W) ++ []))) sz) (va_Qv (fun (u : Int32 × (Nat → Nat → Int32) × (Nat → Nat → Int32)) => match u with | (u0, u1, u2) => u0 = onS (fun jb => hmO N B f1 f2 f3 f4 f5 f6 (nI jb)) (fun ib qb => alB z1 z2 (nI ib) (nI qb) S) N N D ∧ EXF (fun jb => hmO N B f1 f2 f3 f4 f5 f6 (nI jb)) (fun ib qb => alB z1 z2 (nI ib) (nI qb) S) D N u1 ∧ EXO (fun jb => hmO N B f1 f2 f3 f4 f5 f6 (nI jb)) (fun ib qb => alB z1 z2 (nI ib) (nI qb) S) N 0 u2) (fun (u : Int32 × (Nat → Nat → Int32) × (Nat → Nat → Int32)) (t : State) => match u with | (u0, u1, u2) => va_P (dC, dI) vwCl (([(h0, .inr (8, [.int u0, .ref ti, .ref to])), (ti, .inl (G 4, 11, .inr (.inr (.inr (.inr (fun ir => if ir < 11 then some (ri ir) else none)))))), (to, .inl (G 4, 11, .inr (.inr (.inr (.inr (fun ir => if ir < 11 then some (ro ir) else none)))))), (wy, .inr (9, [.int (nI N), .int (nI B), .int (nI D), .ref a1, .ref a2, .ref a3, .ref a4, .ref a5, .ref a6])), (a1, .inl (G 0, 10, .inl f1)), (a2, .inl (G 0, 10, .inl f2)), (a3, .inl (G 0, 10, .inl f3)), (a4, .inl (G 0, 6, .inl f4)), (a5, .inl (G 0, 6, .inl f5)), (a6, .inl (G 0, 6, .inl f6)), (mk, .inr (3, [.int (nI S), .ref m1, .ref m2])), (m1, .inl (G 0, 6, .inl z1)), (m2, .inl (G 0, 6, .inl z2))] : va_W) ++ ((((List.range 11).map (fun iq => (ri iq, .inl (G 0, 10, .inl (u1 iq))))) : va_W) ++ ((((List.range 11).map (fun iq => (ro iq, .inl (G 0, 10, .inl (u2 iq))))) : va_W) ++ []))) t.heap ∧ va_D (va_A (([(h0, .inr (8, [.int tt, .ref ti, .ref to])), (ti, .inl (G 4, 11, .inr (.inr (.inr (.inr (fun ir => if ir < 11 then some (ri ir) else none)))))), (to, .inl (G 4, 11, .inr (.inr (.inr (.inr (fun ir => if ir < 11 then some (ro ir) else none)))))), (wy, .inr (9, [.int (nI N), .int (nI B), .int (nI D), .ref a1, .ref a2, .ref a3, .ref a4, .ref a5, .ref a6])), (a1, .inl (G 0, 10, .inl f1)), (a2, .inl (G 0, 10, .inl f2)), (a3, .inl (G 0, 10, .inl f3)), (a4, .inl (G 0, 6, .inl f4)), (a5, .inl (G 0, 6, .inl f5)), (a6, .inl (G 0, 6, .inl f6)), (mk, .inr (3, [.int (nI S), .ref m1, .ref m2])), (m1, .inl (G 0, 6, .inl z1)), (m2, .inl (G 0, 6, .inl z2))] : va_W) ++ ((((List.range 11).map (fun iq => (ri iq, .inl (G 0, 10, .inl (F iq))))) : va_W) ++ ((((List.range 11).map (fun iq => (ro iq, .inl (G 0, 10, .inl (E iq))))) : va_W) ++ []))) sz) (([(h0, .inr (8, [.int u0, .ref ti, .ref to])), (ti, .inl (G 4, 11, .inr (.inr (.inr (.inr (fun ir => if ir < 11 then some (ri ir) else none)))))), (to, .inl (G 4, 11, .inr (.inr (.inr (.inr (fun ir => if ir < 11 then some (ro ir) else none)))))), (wy, .inr (9, [.int (nI N), .int (nI B), .int (nI D), .ref a1, .ref a2, .ref a3, .ref a4, .ref a5, .ref a6])), (a1, .inl (G 0, 10, .inl f1)), (a2, .inl (G 0, 10, .inl f2)), (a3, .inl (G 0, 10, .inl f3)), (a4, .inl (G 0, 6, .inl f4)), (a5, .inl (G 0, 6, .inl f5)), (a6, .inl (G 0, 6, .inl f6)), (mk, .inr (3, [.int (nI S), .ref m1, .ref m2])), (m1, .inl (G 0, 6, .inl z1)), (m2, .inl (G 0, 6, .inl z2))] : va_W) ++ ((((List.range 11).map (fun iq => (ri iq, .inl (G 0, 10, .inl (u1 iq))))) : va_W) ++ ((((List.range 11).map (fun iq => (ro iq, .inl (G 0, 10, .inl (u2 iq))))) : va_W) ++ [])))) (va_A (([(h0, .inr (8, [.int tt, .ref ti, .ref to])), (ti, .inl (G 4, 11, .inr (.inr (.inr (.inr (fun ir => if ir < 11 then some (ri ir) else none)))))), (to, .inl (G 4, 11, .inr (.inr (.inr (.inr (fun ir => if ir < 11 then some (ro ir) else none)))))), (wy, .inr (9, [.int (nI N), .int (nI B), .int (nI D), .ref a1, .ref a2, .ref a3, .ref a4, .ref a5, .ref a6])), (a1, .inl (G 0, 10, .inl f1)), (a2, .inl (G 0, 10, .inl f2)), (a3, .inl (G 0, 10, .inl f3)), (a4, .inl (G 0, 6, .inl f4)), (a5, .inl (G 0, 6, .inl f5)), (a6, .inl (G 0, 6, .inl f6)), (mk, .inr (3, [.int (nI S), .ref m1, .ref m2])), (m1, .inl (G 0, 6, .inl z1)), (m2, .inl (G 0, 6, .inl z2))] : va_W) ++ ((((List.range 11).map (fun iq => (ri iq, .inl (G 0, 10, .inl (F iq))))) : va_W) ++ ((((List.range 11).map (fun iq => (ro iq, .inl (G 0, 10, .inl (E iq))))) : va_W) ++ []))) sz)) 0 0 (va_A (([(h0, .inr (8, [.int tt, .ref ti, .ref to])), (ti, .inl (G 4, 11, .inr (.inr (.inr (.inr (fun ir => if ir < 11 then some (ri ir) else none)))))), (to, .inl (G 4, 11, .inr (.inr (.inr (.inr (fun ir => if ir < 11 then some (ro ir) else none)))))), (wy, .inr (9, [.int (nI N), .int (nI B), .int (nI D), .ref a1, .ref a2, .ref a3, .ref a4, .ref a5, .ref a6])), (a1, .inl (G 0, 10, .inl f1)), (a2, .inl (G 0, 10, .inl f2)), (a3, .inl (G 0, 10, .inl f3)), (a4, .inl (G 0, 6, .inl f4)), (a5, .inl (G 0, 6, .inl f5)), (a6, .inl (G 0, 6, .inl f6)), (mk, .inr (3, [.int (nI S), .ref m1, .ref m2])), (m1, .inl (G 0, 6, .inl z1)), (m2, .inl (G 0, 6, .inl z2))] : va_W) ++ ((((List.range 11).map (fun iq => (ri iq, .inl (G 0, 10, .inl (F iq))))) : va_W) ++ ((((List.range 11).map (fun iq => (ro iq, .inl (G 0, 10, .inl (E iq))))) : va_W) ++ []))) sz) := by
  have tn2478_ : nIT N := fun _ => nI_toInt (by omega)
  have tn2479_ : nIT B := fun _ => nI_toInt (by omega)
  have tn2480_ : nIT D := fun _ => nI_toInt (by omega)
  have tn2481_ : nIT S := fun _ => nI_toInt (by omega)
  refine Met.ofW (cc := cX8_explore) (maxL := 4) (ret := none) (by decide) rfl ?_
  intro p e s m args below meth c s₁ Bd hml hv
  obtain ⟨rfl, hsz, hP, hK, hD0⟩ := hv
  have hx := Bd.exec
  have hb := Bd.bytes
  have hr := Bd.returns
  have hg : ∀ w ∈ GT, w.before ([.ref h0, .ref wy, .ref mk] : List Value).toArray s = true := fun w h => atoms_spec (ws := Cond.code yX8_explore cX8_explore 4 none :: GT) Bd.pre w (List.mem_cons_of_mem _ h)
  have hown : s.vm.findClass RX8 = some m.cls := findClass_of_methodNamed Bd.named
  have hlocks := Bd.notSynchronized
  subst hsz
  have hD := hD0.self (sz := s.heap.size)
  generalize hAe : va_A (([(h0, .inr (8, [.int tt, .ref ti, .ref to])), (ti, .inl (G 4, 11, .inr (.inr (.inr (.inr (fun ir => if ir < 11 then some (ri ir) else none)))))), (to, .inl (G 4, 11, .inr (.inr (.inr (.inr (fun ir => if ir < 11 then some (ro ir) else none)))))), (wy, .inr (9, [.int (nI N), .int (nI B), .int (nI D), .ref a1, .ref a2, .ref a3, .ref a4, .ref a5, .ref a6])), (a1, .inl (G 0, 10, .inl f1)), (a2, .inl (G 0, 10, .inl f2)), (a3, .inl (G 0, 10, .inl f3)), (a4, .inl (G 0, 6, .inl f4)), (a5, .inl (G 0, 6, .inl f5)), (a6, .inl (G 0, 6, .inl f6)), (mk, .inr (3, [.int (nI S), .ref m1, .ref m2])), (m1, .inl (G 0, 6, .inl z1)), (m2, .inl (G 0, 6, .inl z2))] : va_W) ++ ((((List.range 11).map (fun iq => (ri iq, .inl (G 0, 10, .inl (F iq))))) : va_W) ++ ((((List.range 11).map (fun iq => (ro iq, .inl (G 0, 10, .inl (E iq))))) : va_W) ++ []))) s.heap.size = A at hD ⊢
  have hA : ∀ q : Nat, s.heap.size ≤ q → A q := fun q h => by rw [← hAe]; exact Or.inr h
  have hS : va_S A s.heap s.heap [] := va_S.rf
  have hl := lv_entry ([.ref h0, .ref wy, .ref mk]) (n := 4) (Nat.le_of_ble_eq_true rfl)
  rw [lg_entry_eq]
  generalize (lg_sl ([.ref h0, .ref wy, .ref mk]) ++ List.replicate (4 - (lg_sl ([.ref h0, .ref wy, .ref mk])).length) Slot.unset).toArray = ls at hl ⊢
  have hl : lv_has ls 4 [(0, .ref h0), (1, .ref wy), (2, .ref mk)] := hl
  refine lv_iconst (v := 0) hx hb dX8_explore_0 rfl ?_
  refine lv_istore_n (lv' := [(3, .int 0), (0, .ref h0), (1, .ref wy), (2, .ref mk)]) hx hb dX8_explore_1 rfl hl (by decide) rfl (fun ls hl => ?_)
  have loop2_4 : ∀ (nf j1 : Nat), 10 + 1 ≤ j1 + nf → j1 ≤ 10 → ∀ (g2 : Nat → Nat → Int32) (g3 : Nat → Nat → Int32) (H : Heap) (locs : List Loc), ((∀ q9 : Nat, q9 < j1 → g2 0 q9 = (if q9 = D then 1 else 0)) ∧ (∀ q9 : Nat, q9 < j1 → g3 N q9 = 1)) → va_P (dC, dI) vwCl (([(h0, .inr (8, [.int tt, .ref ti, .ref to])), (ti, .inl (G 4, 11, .inr (.inr (.inr (.inr (fun ir => if ir < 11 then some (ri ir) else none)))))), (to, .inl (G 4, 11, .inr (.inr (.inr (.inr (fun ir => if ir < 11 then some (ro ir) else none)))))), (wy, .inr (9, [.int (nI N), .int (nI B), .int (nI D), .ref a1, .ref a2, .ref a3, .ref a4, .ref a5, .ref a6])), (a1, .inl (G 0, 10, .inl f1)), (a2, .inl (G 0, 10, .inl f2)), (a3, .inl (G 0, 10, .inl f3)), (a4, .inl (G 0, 6, .inl f4)), (a5, .inl (G 0, 6, .inl f5)), (a6, .inl (G 0, 6, .inl f6)), (mk, .inr (3, [.int (nI S), .ref m1, .ref m2])), (m1, .inl (G 0, 6, .inl z1)), (m2, .inl (G 0, 6, .inl z2))] : va_W) ++ ((((List.range 11).map (fun iq => (ri iq, .inl (G 0, 10, .inl (g2 iq))))) : va_W) ++ ((((List.range 11).map (fun iq => (ro iq, .inl (G 0, 10, .inl (g3 iq))))) : va_W) ++ []))) H → va_D A (([(h0, .inr (8, [.int tt, .ref ti, .ref to])), (ti, .inl (G 4, 11, .inr (.inr (.inr (.inr (fun ir => if ir < 11 then some (ri ir) else none)))))), (to, .inl (G 4, 11, .inr (.inr (.inr (.inr (fun ir => if ir < 11 then some (ro ir) else none)))))), (wy, .inr (9, [.int (nI N), .int (nI B), .int (nI D), .ref a1, .ref a2, .ref a3, .ref a4, .ref a5, .ref a6])), (a1, .inl (G 0, 10, .inl f1)), (a2, .inl (G 0, 10, .inl f2)), (a3, .inl (G 0, 10, .inl f3)), (a4, .inl (G 0, 6, .inl f4)), (a5, .inl (G 0, 6, .inl f5)), (a6, .inl (G 0, 6, .inl f6)), (mk, .inr (3, [.int (nI S), .ref m1, .ref m2])), (m1, .inl (G 0, 6, .inl z1)), (m2, .inl (G 0, 6, .inl z2))] : va_W) ++ ((((List.range 11).map (fun iq => (ri iq, .inl (G 0, 10, .inl (g2 iq))))) : va_W) ++ ((((List.range 11).map (fun iq => (ro iq, .inl (G 0, 10, .inl (g3 iq))))) : va_W) ++ []))) → va_S A s.heap H locs → ∀ (ls : Array Slot), lv_has ls 4 [(3, .int (nI j1)), (0, .ref h0), (1, .ref wy), (2, .ref mk)] → W p l e (headSpec (Cond.code yX8_explore cX8_explore 4 none :: GT) ({ frames := 4, cells := 0, slots := 0, locals := 88 } : Room)).room s m ([.ref h0, .ref wy, .ref mk] : List Value).toArray below meth c H locs 0 0 (MQ below (va_Qv (fun (u : Int32 × (Nat → Nat → Int32) × (Nat → Nat → Int32)) => match u with | (u0, u1, u2) => u0 = onS (fun jb => hmO N B f1 f2 f3 f4 f5 f6 (nI jb)) (fun ib qb => alB z1 z2 (nI ib) (nI qb) S) N N D ∧ EXF (fun jb => hmO N B f1 f2 f3 f4 f5 f6 (nI jb)) (fun ib qb => alB z1 z2 (nI ib) (nI qb) S) D N u1 ∧ EXO (fun jb => hmO N B f1 f2 f3 f4 f5 f6 (nI jb)) (fun ib qb => alB z1 z2 (nI ib) (nI qb) S) N 0 u2) (fun (u : Int32 × (Nat → Nat → Int32) × (Nat → Nat → Int32)) (t : State) => match u with | (u0, u1, u2) => va_P (dC, dI) vwCl (([(h0, .inr (8, [.int u0, .ref ti, .ref to])), (ti, .inl (G 4, 11, .inr (.inr (.inr (.inr (fun ir => if ir < 11 then some (ri ir) else none)))))), (to, .inl (G 4, 11, .inr (.inr (.inr (.inr (fun ir => if ir < 11 then some (ro ir) else none)))))), (wy, .inr (9, [.int (nI N), .int (nI B), .int (nI D), .ref a1, .ref a2, .ref a3, .ref a4, .ref a5, .ref a6])), (a1, .inl (G 0, 10, .inl f1)), (a2, .inl (G 0, 10, .inl f2)), (a3, .inl (G 0, 10, .inl f3)), (a4, .inl (G 0, 6, .inl f4)), (a5, .inl (G 0, 6, .inl f5)), (a6, .inl (G 0, 6, .inl f6)), (mk, .inr (3, [.int (nI S), .ref m1, .ref m2])), (m1, .inl (G 0, 6, .inl z1)), (m2, .inl (G 0, 6, .inl z2))] : va_W) ++ ((((List.range 11).map (fun iq => (ri iq, .inl (G 0, 10, .inl (u1 iq))))) : va_W) ++ ((((List.range 11).map (fun iq => (ro iq, .inl (G 0, 10, .inl (u2 iq))))) : va_W) ++ []))) t.heap ∧ va_D A (([(h0, .inr (8, [.int u0, .ref ti, .ref to])), (ti, .inl (G 4, 11, .inr (.inr (.inr (.inr (fun ir => if ir < 11 then some (ri ir) else none)))))), (to, .inl (G 4, 11, .inr (.inr (.inr (.inr (fun ir => if ir < 11 then some (ro ir) else none)))))), (wy, .inr (9, [.int (nI N), .int (nI B), .int (nI D), .ref a1, .ref a2, .ref a3, .ref a4, .ref a5, .ref a6])), (a1, .inl (G 0, 10, .inl f1)), (a2, .inl (G 0, 10, .inl f2)), (a3, .inl (G 0, 10, .inl f3)), (a4, .inl (G 0, 6, .inl f4)), (a5, .inl (G 0, 6, .inl f5)), (a6, .inl (G 0, 6, .inl f6)), (mk, .inr (3, [.int (nI S), .ref m1, .ref m2])), (m1, .inl (G 0, 6, .inl z1)), (m2, .inl (G 0, 6, .inl z2))] : va_W) ++ ((((List.range 11).map (fun iq => (ri iq, .inl (G 0, 10, .inl (u1 iq))))) : va_W) ++ ((((List.range 11).map (fun iq => (ro iq, .inl (G 0, 10, .inl (u2 iq))))) : va_W) ++ [])))) A) ([.ref h0, .ref wy, .ref mk] : List Value).toArray s 0 0 A) (F0 m 2 ls []) := by
    intro nf
    induction nf with
    | zero => intro j1 h1 h2; exact absurd h1 (by omega)
    | succ nf ih2_4 =>
      intro j1 hn5 hj6 g2 g3 H locs hinv hP hD hS ls hl
      refine lv_iload_n hx hb dX8_explore_2 rfl (lv_at hl 0 rfl) ?_
      refine lv_bipush (v := 10) hx hb dX8_explore_3 rfl ?_
      refine lv_icmp_ge (tgt := 47) hx hb dX8_explore_5 rfl (fun c7 => ?_) (fun c7 => ?_)
      · skip
        have tn2482_ : nIT j1 := fun _ => nI_toInt (by first | omega | (have t := leI c7; omega))
        have n8 : 10 ≤ j1 := by have t := leI c7; rw [show (nI (j1)).toInt = ((j1 : Nat) : Int) from tn2482_ ()] at t; have : (10 : Int32).toInt = 10 := qI_10; omega
        have hF9 : ∀ q9 : Nat, q9 < 10 → g2 0 q9 = (if q9 = D then 1 else 0) := fun q9 h9 => hinv.1 q9 (by omega)
        have hE9 : ∀ q9 : Nat, q9 < 10 → g3 N q9 = 1 := fun q9 h9 => hinv.2 q9 (by omega)
        refine lv_iconst (v := 0) hx hb dX8_explore_47 rfl ?_
        refine lv_istore_n (lv' := [(3, .int 0), (0, .ref h0), (1, .ref wy), (2, .ref mk)]) hx hb dX8_explore_48 rfl hl (by decide) rfl (fun ls hl => ?_)
        have loop49_13 : ∀ (nf j9 : Nat), N + 1 ≤ j9 + nf → j9 ≤ N → ∀ (y10 : Int32) (g11 : Nat → Nat → Int32) (g12 : Nat → Nat → Int32) (H : Heap) (locs : List Loc), (EXF (fun jb => hmO N B f1 f2 f3 f4 f5 f6 (nI jb)) (fun ib qb => alB z1 z2 (nI ib) (nI qb) S) D j9 g11 ∧ ∀ q9 : Nat, q9 < 10 → g12 N q9 = 1) → va_P (dC, dI) vwCl (([(h0, .inr (8, [.int y10, .ref ti, .ref to])), (ti, .inl (G 4, 11, .inr (.inr (.inr (.inr (fun ir => if ir < 11 then some (ri ir) else none)))))), (to, .inl (G 4, 11, .inr (.inr (.inr (.inr (fun ir => if ir < 11 then some (ro ir) else none)))))), (wy, .inr (9, [.int (nI N), .int (nI B), .int (nI D), .ref a1, .ref a2, .ref a3, .ref a4, .ref a5, .ref a6])), (a1, .inl (G 0, 10, .inl f1)), (a2, .inl (G 0, 10, .inl f2)), (a3, .inl (G 0, 10, .inl f3)), (a4, .inl (G 0, 6, .inl f4)), (a5, .inl (G 0, 6, .inl f5)), (a6, .inl (G 0, 6, .inl f6)), (mk, .inr (3, [.int (nI S), .ref m1, .ref m2])), (m1, .inl (G 0, 6, .inl z1)), (m2, .inl (G 0, 6, .inl z2))] : va_W) ++ ((((List.range 11).map (fun iq => (ri iq, .inl (G 0, 10, .inl (g11 iq))))) : va_W) ++ ((((List.range 11).map (fun iq => (ro iq, .inl (G 0, 10, .inl (g12 iq))))) : va_W) ++ []))) H → va_D A (([(h0, .inr (8, [.int y10, .ref ti, .ref to])), (ti, .inl (G 4, 11, .inr (.inr (.inr (.inr (fun ir => if ir < 11 then some (ri ir) else none)))))), (to, .inl (G 4, 11, .inr (.inr (.inr (.inr (fun ir => if ir < 11 then some (ro ir) else none)))))), (wy, .inr (9, [.int (nI N), .int (nI B), .int (nI D), .ref a1, .ref a2, .ref a3, .ref a4, .ref a5, .ref a6])), (a1, .inl (G 0, 10, .inl f1)), (a2, .inl (G 0, 10, .inl f2)), (a3, .inl (G 0, 10, .inl f3)), (a4, .inl (G 0, 6, .inl f4)), (a5, .inl (G 0, 6, .inl f5)), (a6, .inl (G 0, 6, .inl f6)), (mk, .inr (3, [.int (nI S), .ref m1, .ref m2])), (m1, .inl (G 0, 6, .inl z1)), (m2, .inl (G 0, 6, .inl z2))] : va_W) ++ ((((List.range 11).map (fun iq => (ri iq, .inl (G 0, 10, .inl (g11 iq))))) : va_W) ++ ((((List.range 11).map (fun iq => (ro iq, .inl (G 0, 10, .inl (g12 iq))))) : va_W) ++ []))) → va_S A s.heap H locs → ∀ (ls : Array Slot), lv_has ls 4 [(3, .int (nI j9)), (0, .ref h0), (1, .ref wy), (2, .ref mk)] → W p l e (headSpec (Cond.code yX8_explore cX8_explore 4 none :: GT) ({ frames := 4, cells := 0, slots := 0, locals := 88 } : Room)).room s m ([.ref h0, .ref wy, .ref mk] : List Value).toArray below meth c H locs 0 0 (MQ below (va_Qv (fun (u : Int32 × (Nat → Nat → Int32) × (Nat → Nat → Int32)) => match u with | (u0, u1, u2) => u0 = onS (fun jb => hmO N B f1 f2 f3 f4 f5 f6 (nI jb)) (fun ib qb => alB z1 z2 (nI ib) (nI qb) S) N N D ∧ EXF (fun jb => hmO N B f1 f2 f3 f4 f5 f6 (nI jb)) (fun ib qb => alB z1 z2 (nI ib) (nI qb) S) D N u1 ∧ EXO (fun jb => hmO N B f1 f2 f3 f4 f5 f6 (nI jb)) (fun ib qb => alB z1 z2 (nI ib) (nI qb) S) N 0 u2) (fun (u : Int32 × (Nat → Nat → Int32) × (Nat → Nat → Int32)) (t : State) => match u with | (u0, u1, u2) => va_P (dC, dI) vwCl (([(h0, .inr (8, [.int u0, .ref ti, .ref to])), (ti, .inl (G 4, 11, .inr (.inr (.inr (.inr (fun ir => if ir < 11 then some (ri ir) else none)))))), (to, .inl (G 4, 11, .inr (.inr (.inr (.inr (fun ir => if ir < 11 then some (ro ir) else none)))))), (wy, .inr (9, [.int (nI N), .int (nI B), .int (nI D), .ref a1, .ref a2, .ref a3, .ref a4, .ref a5, .ref a6])), (a1, .inl (G 0, 10, .inl f1)), (a2, .inl (G 0, 10, .inl f2)), (a3, .inl (G 0, 10, .inl f3)), (a4, .inl (G 0, 6, .inl f4)), (a5, .inl (G 0, 6, .inl f5)), (a6, .inl (G 0, 6, .inl f6)), (mk, .inr (3, [.int (nI S), .ref m1, .ref m2])), (m1, .inl (G 0, 6, .inl z1)), (m2, .inl (G 0, 6, .inl z2))] : va_W) ++ ((((List.range 11).map (fun iq => (ri iq, .inl (G 0, 10, .inl (u1 iq))))) : va_W) ++ ((((List.range 11).map (fun iq => (ro iq, .inl (G 0, 10, .inl (u2 iq))))) : va_W) ++ []))) t.heap ∧ va_D A (([(h0, .inr (8, [.int u0, .ref ti, .ref to])), (ti, .inl (G 4, 11, .inr (.inr (.inr (.inr (fun ir => if ir < 11 then some (ri ir) else none)))))), (to, .inl (G 4, 11, .inr (.inr (.inr (.inr (fun ir => if ir < 11 then some (ro ir) else none)))))), (wy, .inr (9, [.int (nI N), .int (nI B), .int (nI D), .ref a1, .ref a2, .ref a3, .ref a4, .ref a5, .ref a6])), (a1, .inl (G 0, 10, .inl f1)), (a2, .inl (G 0, 10, .inl f2)), (a3, .inl (G 0, 10, .inl f3)), (a4, .inl (G 0, 6, .inl f4)), (a5, .inl (G 0, 6, .inl f5)), (a6, .inl (G 0, 6, .inl f6)), (mk, .inr (3, [.int (nI S), .ref m1, .ref m2])), (m1, .inl (G 0, 6, .inl z1)), (m2, .inl (G 0, 6, .inl z2))] : va_W) ++ ((((List.range 11).map (fun iq => (ri iq, .inl (G 0, 10, .inl (u1 iq))))) : va_W) ++ ((((List.range 11).map (fun iq => (ro iq, .inl (G 0, 10, .inl (u2 iq))))) : va_W) ++ [])))) A) ([.ref h0, .ref wy, .ref mk] : List Value).toArray s 0 0 A) (F0 m 49 ls []) := by
          intro nf
          induction nf with
          | zero => intro j9 h1 h2; exact absurd h1 (by omega)
          | succ nf ih49_13 =>
            intro j9 hn14 hj15 y10 g11 g12 H locs hinv hP hD hS ls hl
            refine lv_iload_n hx hb dX8_explore_49 rfl (lv_at hl 0 rfl) ?_
            refine lv_aload_n hx hb dX8_explore_50 rfl (lv_at hl 2 rfl) ?_
            refine va_getN (D := (dC, dI)) (ci := 9) (v := .int (nI N)) (C := RX9) (T := TX9) (N := 9) hx hb hg inG9 hown hK.1 hP 3 rfl rfl 0 (Nat.le_of_ble_eq_true rfl) (hK.nest wn_58) (fun _ h9 => h9) rfl dX8_explore_51 ?_
            refine lv_icmp_ge (tgt := 86) hx hb dX8_explore_54 rfl (fun c16 => ?_) (fun c16 => ?_)
            · skip
              have tn2483_ : nIT j9 := fun _ => nI_toInt (by first | omega | (have t := leI c16; omega))
              have n17 : N ≤ j9 := by have t := leI c16; rw [show (nI (j9)).toInt = ((j9 : Nat) : Int) from tn2483_ ()] at t; rw [show (nI (N)).toInt = ((N : Nat) : Int) from tn2478_ ()] at t; omega
              have hA9 := hinv.1
              rw [show j9 = N by omega] at hA9
              refine lv_aload_n hx hb dX8_explore_86 rfl (lv_at hl 2 rfl) ?_
              refine va_getN (D := (dC, dI)) (ci := 9) (v := .int (nI N)) (C := RX9) (T := TX9) (N := 9) hx hb hg inG9 hown hK.1 hP 3 rfl rfl 0 (Nat.le_of_ble_eq_true rfl) (hK.nest wn_58) (fun _ h9 => h9) rfl dX8_explore_87 ?_
              refine lv_iconst (v := 1) hx hb dX8_explore_90 rfl ?_
              refine lv_isub hx hb dX8_explore_91 ?_
              refine lv_istore_n (lv' := [(3, .int ((nI N) - 1)), (0, .ref h0), (1, .ref wy), (2, .ref mk)]) hx hb dX8_explore_92 rfl hl (by decide) rfl (fun ls hl => ?_)
              rw [dn_sub] at hl
              have loop93_22 : ∀ (j18 : Nat), j18 ≤ N → ∀ (y19 : Int32) (g20 : Nat → Nat → Int32) (g21 : Nat → Nat → Int32) (H : Heap) (locs : List Loc), (EXO (fun jb => hmO N B f1 f2 f3 f4 f5 f6 (nI jb)) (fun ib qb => alB z1 z2 (nI ib) (nI qb) S) N j18 g21 ∧ EXF (fun jb => hmO N B f1 f2 f3 f4 f5 f6 (nI jb)) (fun ib qb => alB z1 z2 (nI ib) (nI qb) S) D N g20) → va_P (dC, dI) vwCl (([(h0, .inr (8, [.int y19, .ref ti, .ref to])), (ti, .inl (G 4, 11, .inr (.inr (.inr (.inr (fun ir => if ir < 11 then some (ri ir) else none)))))), (to, .inl (G 4, 11, .inr (.inr (.inr (.inr (fun ir => if ir < 11 then some (ro ir) else none)))))), (wy, .inr (9, [.int (nI N), .int (nI B), .int (nI D), .ref a1, .ref a2, .ref a3, .ref a4, .ref a5, .ref a6])), (a1, .inl (G 0, 10, .inl f1)), (a2, .inl (G 0, 10, .inl f2)), (a3, .inl (G 0, 10, .inl f3)), (a4, .inl (G 0, 6, .inl f4)), (a5, .inl (G 0, 6, .inl f5)), (a6, .inl (G 0, 6, .inl f6)), (mk, .inr (3, [.int (nI S), .ref m1, .ref m2])), (m1, .inl (G 0, 6, .inl z1)), (m2, .inl (G 0, 6, .inl z2))] : va_W) ++ ((((List.range 11).map (fun iq => (ri iq, .inl (G 0, 10, .inl (g20 iq))))) : va_W) ++ ((((List.range 11).map (fun iq => (ro iq, .inl (G 0, 10, .inl (g21 iq))))) : va_W) ++ []))) H → va_D A (([(h0, .inr (8, [.int y19, .ref ti, .ref to])), (ti, .inl (G 4, 11, .inr (.inr (.inr (.inr (fun ir => if ir < 11 then some (ri ir) else none)))))), (to, .inl (G 4, 11, .inr (.inr (.inr (.inr (fun ir => if ir < 11 then some (ro ir) else none)))))), (wy, .inr (9, [.int (nI N), .int (nI B), .int (nI D), .ref a1, .ref a2, .ref a3, .ref a4, .ref a5, .ref a6])), (a1, .inl (G 0, 10, .inl f1)), (a2, .inl (G 0, 10, .inl f2)), (a3, .inl (G 0, 10, .inl f3)), (a4, .inl (G 0, 6, .inl f4)), (a5, .inl (G 0, 6, .inl f5)), (a6, .inl (G 0, 6, .inl f6)), (mk, .inr (3, [.int (nI S), .ref m1, .ref m2])), (m1, .inl (G 0, 6, .inl z1)), (m2, .inl (G 0, 6, .inl z2))] : va_W) ++ ((((List.range 11).map (fun iq => (ri iq, .inl (G 0, 10, .inl (g20 iq))))) : va_W) ++ ((((List.range 11).map (fun iq => (ro iq, .inl (G 0, 10, .inl (g21 iq))))) : va_W) ++ []))) → va_S A s.heap H locs → ∀ (ls : Array Slot), lv_has ls 4 [(3, .int (dn j18)), (0, .ref h0), (1, .ref wy), (2, .ref mk)] → W p l e (headSpec (Cond.code yX8_explore cX8_explore 4 none :: GT) ({ frames := 4, cells := 0, slots := 0, locals := 88 } : Room)).room s m ([.ref h0, .ref wy, .ref mk] : List Value).toArray below meth c H locs 0 0 (MQ below (va_Qv (fun (u : Int32 × (Nat → Nat → Int32) × (Nat → Nat → Int32)) => match u with | (u0, u1, u2) => u0 = onS (fun jb => hmO N B f1 f2 f3 f4 f5 f6 (nI jb)) (fun ib qb => alB z1 z2 (nI ib) (nI qb) S) N N D ∧ EXF (fun jb => hmO N B f1 f2 f3 f4 f5 f6 (nI jb)) (fun ib qb => alB z1 z2 (nI ib) (nI qb) S) D N u1 ∧ EXO (fun jb => hmO N B f1 f2 f3 f4 f5 f6 (nI jb)) (fun ib qb => alB z1 z2 (nI ib) (nI qb) S) N 0 u2) (fun (u : Int32 × (Nat → Nat → Int32) × (Nat → Nat → Int32)) (t : State) => match u with | (u0, u1, u2) => va_P (dC, dI) vwCl (([(h0, .inr (8, [.int u0, .ref ti, .ref to])), (ti, .inl (G 4, 11, .inr (.inr (.inr (.inr (fun ir => if ir < 11 then some (ri ir) else none)))))), (to, .inl (G 4, 11, .inr (.inr (.inr (.inr (fun ir => if ir < 11 then some (ro ir) else none)))))), (wy, .inr (9, [.int (nI N), .int (nI B), .int (nI D), .ref a1, .ref a2, .ref a3, .ref a4, .ref a5, .ref a6])), (a1, .inl (G 0, 10, .inl f1)), (a2, .inl (G 0, 10, .inl f2)), (a3, .inl (G 0, 10, .inl f3)), (a4, .inl (G 0, 6, .inl f4)), (a5, .inl (G 0, 6, .inl f5)), (a6, .inl (G 0, 6, .inl f6)), (mk, .inr (3, [.int (nI S), .ref m1, .ref m2])), (m1, .inl (G 0, 6, .inl z1)), (m2, .inl (G 0, 6, .inl z2))] : va_W) ++ ((((List.range 11).map (fun iq => (ri iq, .inl (G 0, 10, .inl (u1 iq))))) : va_W) ++ ((((List.range 11).map (fun iq => (ro iq, .inl (G 0, 10, .inl (u2 iq))))) : va_W) ++ []))) t.heap ∧ va_D A (([(h0, .inr (8, [.int u0, .ref ti, .ref to])), (ti, .inl (G 4, 11, .inr (.inr (.inr (.inr (fun ir => if ir < 11 then some (ri ir) else none)))))), (to, .inl (G 4, 11, .inr (.inr (.inr (.inr (fun ir => if ir < 11 then some (ro ir) else none)))))), (wy, .inr (9, [.int (nI N), .int (nI B), .int (nI D), .ref a1, .ref a2, .ref a3, .ref a4, .ref a5, .ref a6])), (a1, .inl (G 0, 10, .inl f1)), (a2, .inl (G 0, 10, .inl f2)), (a3, .inl (G 0, 10, .inl f3)), (a4, .inl (G 0, 6, .inl f4)), (a5, .inl (G 0, 6, .inl f5)), (a6, .inl (G 0, 6, .inl f6)), (mk, .inr (3, [.int (nI S), .ref m1, .ref m2])), (m1, .inl (G 0, 6, .inl z1)), (m2, .inl (G 0, 6, .inl z2))] : va_W) ++ ((((List.range 11).map (fun iq => (ri iq, .inl (G 0, 10, .inl (u1 iq))))) : va_W) ++ ((((List.range 11).map (fun iq => (ro iq, .inl (G 0, 10, .inl (u2 iq))))) : va_W) ++ [])))) A) ([.ref h0, .ref wy, .ref mk] : List Value).toArray s 0 0 A) (F0 m 93 ls []) := by
                intro j18
                induction j18 with
                | zero =>
                  intro hj23 y19 g20 g21 H locs hinv hP hD hS ls hl
                  have hl : lv_has ls 4 [(3, .int (-1)), (0, .ref h0), (1, .ref wy), (2, .ref mk)] := hl
                  refine lv_iload_n hx hb dX8_explore_93 rfl (lv_at hl 0 rfl) ?_
                  refine lv_if_lt (tgt := 126) hx hb dX8_explore_94 rfl (fun c24 => ?_) (fun c24 => ?_)
                  · skip
                    refine lv_aload_n hx hb dX8_explore_126 rfl (lv_at hl 1 rfl) ?_
                    refine lv_aload_n hx hb dX8_explore_127 rfl (lv_at hl 1 rfl) ?_
                    refine va_get (D := (dC, dI)) (ci := 8) (v := .ref to) (C := RX8) (T := TX8) (N := 3) hx hb hg inG8 hown hK.1 hP 0 rfl rfl 2 (Nat.le_of_ble_eq_true rfl) (hg _ wt_261) (fun _ h9 => h9) rfl dX8_explore_128 ?_
                    refine lv_iconst (v := 0) hx hb dX8_explore_131 rfl ?_
                    refine va_aldA hx hb hK.1 hP 2 4 rfl rfl (vp_in_iff.mpr ⟨by decide, by decide⟩) dX8_explore_132 ?_
                    refine lv_cgv (y := .ref (ro 0)) (by rfl) ?_
                    refine lv_aload_n hx hb dX8_explore_133 rfl (lv_at hl 2 rfl) ?_
                    refine va_getN (D := (dC, dI)) (ci := 9) (v := .int (nI D)) (C := RX9) (T := TX9) (N := 9) hx hb hg inG9 hown hK.1 hP 3 rfl rfl 2 (Nat.le_of_ble_eq_true rfl) (hK.nest wn_69) (fun _ h9 => h9) rfl dX8_explore_134 ?_
                    refine va_iald hx hb hK.1 (blk_P2 (j := 0) hP (by first | omega | (have t_hj6 := hj6; have t_n8 := n8; have t_hj15 := hj15; have t_n17 := n17; have t_c24 := ltI c24; have tqz_ := qz0_; have tnb_ := nib6 tn2478_ tn2479_ tn2480_ tn2481_ tn2482_ tn2483_; omega))) 0 0 rfl rfl (vp_in_nI (by first | omega | (have t_hj6 := hj6; have t_n8 := n8; have t_hj15 := hj15; have t_n17 := n17; have t_c24 := ltI c24; have tqz_ := qz0_; have tnb_ := nib6 tn2478_ tn2479_ tn2480_ tn2481_ tn2482_ tn2483_; omega)) (by decide)) dX8_explore_137 ?_
                    refine lv_cg (y := g21 0 D) (by rw [nI_clamp (by first | omega | (have t_hj6 := hj6; have t_n8 := n8; have t_hj15 := hj15; have t_n17 := n17; have t_c24 := ltI c24; have tqz_ := qz0_; have tnb_ := nib6 tn2478_ tn2479_ tn2480_ tn2481_ tn2482_ tn2483_; omega))]) ?_
                    refine va_put (D := (dC, dI)) (ci := 8) (v := .int (g21 0 D)) (ty := .int) (C := RX8) (T := TX8) (N := 3) hx hb hg inG8 tyX8 tyX8_ok nmX8 hown hK.1 hP hD hS 0 rfl rfl 0 (Nat.le_of_ble_eq_true rfl) (hg _ wt_258) (fun _ h9 => h9) rfl (by decide +kernel) rfl rfl (Nat.le_of_ble_eq_true rfl) dX8_explore_138 (fun H locs hP hD hS => ?_)
                    obtain ⟨hP, hD⟩ := va_rls (ws' := (([(h0, .inr (8, [.int (g21 0 D), .ref ti, .ref to])), (ti, .inl (G 4, 11, .inr (.inr (.inr (.inr (fun ir => if ir < 11 then some (ri ir) else none)))))), (to, .inl (G 4, 11, .inr (.inr (.inr (.inr (fun ir => if ir < 11 then some (ro ir) else none)))))), (wy, .inr (9, [.int (nI N), .int (nI B), .int (nI D), .ref a1, .ref a2, .ref a3, .ref a4, .ref a5, .ref a6])), (a1, .inl (G 0, 10, .inl f1)), (a2, .inl (G 0, 10, .inl f2)), (a3, .inl (G 0, 10, .inl f3)), (a4, .inl (G 0, 6, .inl f4)), (a5, .inl (G 0, 6, .inl f5)), (a6, .inl (G 0, 6, .inl f6)), (mk, .inr (3, [.int (nI S), .ref m1, .ref m2])), (m1, .inl (G 0, 6, .inl z1)), (m2, .inl (G 0, 6, .inl z2))] : va_W) ++ ((((List.range 11).map (fun iq => (ri iq, .inl (G 0, 10, .inl (g20 iq))))) : va_W) ++ ((((List.range 11).map (fun iq => (ro iq, .inl (G 0, 10, .inl (g21 iq))))) : va_W) ++ [])))) hP hD rfl
                    have hP9 := hP
                    have hD9 := hD
                    refine W.widen (k := 0) (n := 0) (Nat.le_of_ble_eq_true rfl) (Nat.le_of_ble_eq_true rfl) ?_
                    exact W.vret hx hb hr (fun t ht hW => ⟨⟨((g21 0 D), g20, g21), rfl, ⟨hinv.1.1 D (by omega), hinv.2, hinv.1⟩, ⟨by rw [ht]; exact hP9, hD9⟩⟩, hS.F ht⟩) hS.2.2 dX8_explore_141
                  · skip
                    exact absurd c24 (by decide)
                | succ j18 ih93_22 =>
                  intro hj23 y19 g20 g21 H locs hinv hP hD hS ls hl
                  have hl : lv_has ls 4 [(3, .int (nI j18)), (0, .ref h0), (1, .ref wy), (2, .ref mk)] := hl
                  refine lv_iload_n hx hb dX8_explore_93 rfl (lv_at hl 0 rfl) ?_
                  refine lv_if_lt (tgt := 126) hx hb dX8_explore_94 rfl (fun c25 => ?_) (fun c25 => ?_)
                  · skip
                    have t_hj6 := hj6
                    have t_n8 := n8
                    have t_hj15 := hj15
                    have t_n17 := n17
                    have t_hj23 := hj23
                    have t_c25 := ltI c25
                    have : (0 : Int32).toInt = 0 := qI_0
                    have t_n0 : (nI N).toInt = (N : Int) := tn2478_ ()
                    have t_n1 : (nI B).toInt = (B : Int) := tn2479_ ()
                    have t_n2 : (nI D).toInt = (D : Int) := tn2480_ ()
                    have t_n3 : (nI S).toInt = (S : Int) := tn2481_ ()
                    have t_n4 : (nI j1).toInt = (j1 : Int) := tn2482_ ()
                    have t_n5 : (nI j9).toInt = (j9 : Int) := tn2483_ ()
                    have tn2484_ : nIT j18 := fun _ => nI_toInt (by omega)
                    have t_n6 : (nI j18).toInt = (j18 : Int) := tn2484_ ()
                    exfalso; omega
                  · skip
                    have tn2485_ : nIT j18 := fun _ => nI_toInt (by first | omega | (have t := nltI c25; omega))
                    have n26 : 0 ≤ j18 := by have t := nltI c25; rw [show (nI (j18)).toInt = ((j18 : Nat) : Int) from tn2485_ ()] at t; have : (0 : Int32).toInt = 0 := qI_0; omega
                    refine lv_aload_n hx hb dX8_explore_97 rfl (lv_at hl 1 rfl) ?_
                    refine va_get (D := (dC, dI)) (ci := 8) (v := .ref to) (C := RX8) (T := TX8) (N := 3) hx hb hg inG8 hown hK.1 hP 0 rfl rfl 2 (Nat.le_of_ble_eq_true rfl) (hg _ wt_261) (fun _ h9 => h9) rfl dX8_explore_98 ?_
                    refine lv_iload_n hx hb dX8_explore_101 rfl (lv_at hl 0 rfl) ?_
                    refine lv_iconst (v := 1) hx hb dX8_explore_102 rfl ?_
                    refine lv_iadd hx hb dX8_explore_103 ?_
                    refine lv_cg (y := nI (j18 + 1)) (by rw [show (1 : Int32) = nI 1 from rfl]; exact nI_add _ _) ?_
                    refine va_aldA hx hb hK.1 hP 2 4 rfl rfl (vp_in_nI (by first | omega | (have t_hj6 := hj6; have t_n8 := n8; have t_hj15 := hj15; have t_n17 := n17; have t_hj23 := hj23; have t_n26 := n26; have tnb_ := nib7 tn2478_ tn2479_ tn2480_ tn2481_ tn2482_ tn2483_ tn2485_; omega)) (by decide)) dX8_explore_104 ?_
                    refine lv_cgv (y := .ref (ro (j18 + 1))) (rowref (by first | omega | (have t_hj6 := hj6; have t_n8 := n8; have t_hj15 := hj15; have t_n17 := n17; have t_hj23 := hj23; have t_n26 := n26; have tnb_ := nib7 tn2478_ tn2479_ tn2480_ tn2481_ tn2482_ tn2483_ tn2485_; omega)) (by decide)) ?_
                    refine lv_aload_n hx hb dX8_explore_105 rfl (lv_at hl 3 rfl) ?_
                    refine lv_iload_n hx hb dX8_explore_106 rfl (lv_at hl 0 rfl) ?_
                    obtain ⟨hPc, hDc, hFc⟩ := va_sub3 (ws' := (([(mk, .inr (3, [.int (nI S), .ref m1, .ref m2])), (m1, .inl (G 0, 6, .inl z1)), (m2, .inl (G 0, 6, .inl z2))] : va_W) ++ ((((List.range 11).map (fun iq => (ri iq, .inl (G 0, 10, .inl (g20 iq))))) : va_W) ++ ((((List.range 11).map (fun iq => (ro iq, .inl (G 0, 10, .inl (g21 iq))))) : va_W) ++ [])))) hP hD hS hA [10, 11, 12, 13, 14, 15, 16, 17, 18, 19, 20, 21, 22, 23, 24, 25, 26, 27, 28, 29, 30, 31, 32, 33, 34] (by decide +kernel) rfl
                    refine va_callv (va_runS (As := [.ref (ro (j18 + 1)), .ref mk, .int (nI j18)]) (rest := []) ⟨hx, hb, hml, hown, hg⟩ (c_X8_dropUnmarked2E l dC dI G _ mk m1 m2 S (j18 + 1) (nI j18) z1 z2 ri ro g20 g21 hS0 (by first | omega | (have t_hj6 := hj6; have t_n8 := n8; have t_hj15 := hj15; have t_n17 := n17; have t_hj23 := hj23; have t_n26 := n26; have tnb_ := nib7 tn2478_ tn2479_ tn2480_ tn2481_ tn2482_ tn2483_ tn2485_; omega))) (kwS hg mfX8_dropUnmarked wt_777 ⟨Nat.le_of_ble_eq_true rfl, Nat.le_of_ble_eq_true rfl⟩) (preSW hK hPc hDc) rfl rfl hl.1 rfl (lv_room (Nat.le_of_ble_eq_true rfl)) dX8_explore_107 ⟨Nat.le_of_ble_eq_true rfl, Nat.le_of_ble_eq_true rfl⟩) hS (fun q _ h => hFc q h) hFc (fun ur27 t H1 locs ht hvm w28 hB hz1 hk1 hS => ?_)
                    obtain ⟨u29, u30⟩ := ur27
                    obtain ⟨hP1, hD1⟩ := hB
                    rw [ht] at hP1
                    obtain ⟨hP, hD⟩ := va_join (wr := [(h0, .inr (8, [.int y19, .ref ti, .ref to])), (ti, .inl (G 4, 11, .inr (.inr (.inr (.inr (fun ir => if ir < 11 then some (ri ir) else none)))))), (to, .inl (G 4, 11, .inr (.inr (.inr (.inr (fun ir => if ir < 11 then some (ro ir) else none)))))), (wy, .inr (9, [.int (nI N), .int (nI B), .int (nI D), .ref a1, .ref a2, .ref a3, .ref a4, .ref a5, .ref a6])), (a1, .inl (G 0, 10, .inl f1)), (a2, .inl (G 0, 10, .inl f2)), (a3, .inl (G 0, 10, .inl f3)), (a4, .inl (G 0, 6, .inl f4)), (a5, .inl (G 0, 6, .inl f5)), (a6, .inl (G 0, 6, .inl f6))]) (w1 := (([(mk, .inr (3, [.int (nI S), .ref m1, .ref m2])), (m1, .inl (G 0, 6, .inl z1)), (m2, .inl (G 0, 6, .inl z2))] : va_W) ++ ((((List.range 11).map (fun iq => (ri iq, .inl (G 0, 10, .inl (u29 iq))))) : va_W) ++ ((((List.range 11).map (fun iq => (ro iq, .inl (G 0, 10, .inl (u30 iq))))) : va_W) ++ [])))) hP hD [10, 11, 12, 13, 14, 15, 16, 17, 18, 19, 20, 21, 22, 23, 24, 25, 26, 27, 28, 29, 30, 31, 32, 33, 34] [0, 1, 2, 3, 4, 5, 6, 7, 8, 9] rfl rfl (by decide +kernel) (by decide +kernel) hk1 hFc hP1 hD1
                    have w28 : DUm (fun qb => alB z1 z2 (nI j18) (nI qb) S) (j18 + 1) 10 u30 g21 ∧ u29 = g20 := w28
                    generalize H1 = H at hP hS ⊢
                    obtain ⟨hP, hD⟩ := va_rls (ws' := (([(h0, .inr (8, [.int y19, .ref ti, .ref to])), (ti, .inl (G 4, 11, .inr (.inr (.inr (.inr (fun ir => if ir < 11 then some (ri ir) else none)))))), (to, .inl (G 4, 11, .inr (.inr (.inr (.inr (fun ir => if ir < 11 then some (ro ir) else none)))))), (wy, .inr (9, [.int (nI N), .int (nI B), .int (nI D), .ref a1, .ref a2, .ref a3, .ref a4, .ref a5, .ref a6])), (a1, .inl (G 0, 10, .inl f1)), (a2, .inl (G 0, 10, .inl f2)), (a3, .inl (G 0, 10, .inl f3)), (a4, .inl (G 0, 6, .inl f4)), (a5, .inl (G 0, 6, .inl f5)), (a6, .inl (G 0, 6, .inl f6)), (mk, .inr (3, [.int (nI S), .ref m1, .ref m2])), (m1, .inl (G 0, 6, .inl z1)), (m2, .inl (G 0, 6, .inl z2))] : va_W) ++ ((((List.range 11).map (fun iq => (ri iq, .inl (G 0, 10, .inl (u29 iq))))) : va_W) ++ ((((List.range 11).map (fun iq => (ro iq, .inl (G 0, 10, .inl (u30 iq))))) : va_W) ++ [])))) hP hD rfl
                    refine lv_aload_n hx hb dX8_explore_110 rfl (lv_at hl 1 rfl) ?_
                    refine lv_aload_n hx hb dX8_explore_111 rfl (lv_at hl 2 rfl) ?_
                    refine lv_iload_n hx hb dX8_explore_112 rfl (lv_at hl 0 rfl) ?_
                    have hPc := hP.sub (ws' := [(wy, .inr (9, [.int (nI N), .int (nI B), .int (nI D), .ref a1, .ref a2, .ref a3, .ref a4, .ref a5, .ref a6])), (a1, .inl (G 0, 10, .inl f1)), (a2, .inl (G 0, 10, .inl f2)), (a3, .inl (G 0, 10, .inl f3)), (a4, .inl (G 0, 6, .inl f4)), (a5, .inl (G 0, 6, .inl f5)), (a6, .inl (G 0, 6, .inl f6))]) [3, 4, 5, 6, 7, 8, 9] rfl
                    refine va_calli (va_runVN (As := [.int (nI j18)]) (rest := [.ref h0]) ⟨hx, hb, hml, hown, hg⟩ (c_X9_harmInOrder l dC dI G _ wy a1 a2 a3 a4 a5 a6 N B D (nI j18) f1 f2 f3 f4 f5 f6 hN_N hB_B hD_D) (kwVN hg hK mfX9_harmInOrder wn_771 ⟨Nat.le_of_ble_eq_true rfl, Nat.le_of_ble_eq_true rfl⟩) (preVR hK hPc (ci := 9) (r := (RX9, TX9, 9)) rfl rfl) rfl rfl hl.1 rfl (lv_room (Nat.le_of_ble_eq_true rfl)) dX8_explore_113 ⟨Nat.le_of_ble_eq_true rfl, Nat.le_of_ble_eq_true rfl⟩) hS (fun q h1 h2 => absurd h2 (Nat.not_le.mpr h1)) (fun q h => hA q (Nat.le_trans hS.1 h)) (fun r31 ur31 t H1 locs ht hvm w32 hB hz1 hk1 hS => ?_)
                    have hP := keepR hP hk1
                    obtain ⟨w32, w32x⟩ := w32
                    subst w32
                    refine lv_iload_n hx hb dX8_explore_116 rfl (lv_at hl 0 rfl) ?_
                    obtain ⟨hPc, hDc, hFc⟩ := va_sub3 (ws' := (([(h0, .inr (8, [.int y19, .ref ti, .ref to])), (ti, .inl (G 4, 11, .inr (.inr (.inr (.inr (fun ir => if ir < 11 then some (ri ir) else none)))))), (to, .inl (G 4, 11, .inr (.inr (.inr (.inr (fun ir => if ir < 11 then some (ro ir) else none))))))] : va_W) ++ ((((List.range 11).map (fun iq => (ri iq, .inl (G 0, 10, .inl (u29 iq))))) : va_W) ++ ((((List.range 11).map (fun iq => (ro iq, .inl (G 0, 10, .inl (u30 iq))))) : va_W) ++ [])))) hP hD hS hA [0, 1, 2, 13, 14, 15, 16, 17, 18, 19, 20, 21, 22, 23, 24, 25, 26, 27, 28, 29, 30, 31, 32, 33, 34] (by decide +kernel) rfl
                    refine va_callv (va_runV (As := [.int (hmO N B f1 f2 f3 f4 f5 f6 (nI j18)), .int (nI j18)]) (rest := []) ⟨hx, hb, hml, hown, hg⟩ (c_X8_leadOnwardE l dC dI G _ h0 ti to j18 (hmO N B f1 f2 f3 f4 f5 f6 (nI j18)) y19 ri ro u29 u30 (by first | omega | (have t_hj6 := hj6; have t_n8 := n8; have t_hj15 := hj15; have t_n17 := n17; have t_hj23 := hj23; have t_n26 := n26; have tnb_ := nib7 tn2478_ tn2479_ tn2480_ tn2481_ tn2482_ tn2483_ tn2485_; omega))) (kwV hg mfX8_leadOnward wt_784 ⟨Nat.le_of_ble_eq_true rfl, Nat.le_of_ble_eq_true rfl⟩) (preVW hK hPc hDc (ci := 8) (r := (RX8, TX8, 3)) rfl rfl) rfl rfl hl.1 rfl (lv_room (Nat.le_of_ble_eq_true rfl)) dX8_explore_117 ⟨Nat.le_of_ble_eq_true rfl, Nat.le_of_ble_eq_true rfl⟩) hS (fun q _ h => hFc q h) hFc (fun ur33 t H1 locs ht hvm w34 hB hz1 hk1 hS => ?_)
                    obtain ⟨u35, u36, u37⟩ := ur33
                    obtain ⟨hP1, hD1⟩ := hB
                    rw [ht] at hP1
                    obtain ⟨hP, hD⟩ := va_join (wr := [(wy, .inr (9, [.int (nI N), .int (nI B), .int (nI D), .ref a1, .ref a2, .ref a3, .ref a4, .ref a5, .ref a6])), (a1, .inl (G 0, 10, .inl f1)), (a2, .inl (G 0, 10, .inl f2)), (a3, .inl (G 0, 10, .inl f3)), (a4, .inl (G 0, 6, .inl f4)), (a5, .inl (G 0, 6, .inl f5)), (a6, .inl (G 0, 6, .inl f6)), (mk, .inr (3, [.int (nI S), .ref m1, .ref m2])), (m1, .inl (G 0, 6, .inl z1)), (m2, .inl (G 0, 6, .inl z2))]) (w1 := (([(h0, .inr (8, [.int u35, .ref ti, .ref to])), (ti, .inl (G 4, 11, .inr (.inr (.inr (.inr (fun ir => if ir < 11 then some (ri ir) else none)))))), (to, .inl (G 4, 11, .inr (.inr (.inr (.inr (fun ir => if ir < 11 then some (ro ir) else none))))))] : va_W) ++ ((((List.range 11).map (fun iq => (ri iq, .inl (G 0, 10, .inl (u36 iq))))) : va_W) ++ ((((List.range 11).map (fun iq => (ro iq, .inl (G 0, 10, .inl (u37 iq))))) : va_W) ++ [])))) hP hD [0, 1, 2, 13, 14, 15, 16, 17, 18, 19, 20, 21, 22, 23, 24, 25, 26, 27, 28, 29, 30, 31, 32, 33, 34] [3, 4, 5, 6, 7, 8, 9, 10, 11, 12] rfl rfl (by decide +kernel) (by decide +kernel) hk1 hFc hP1 hD1
                    have w34 : u35 = y19 ∧ LO (decide (0 < (hmO N B f1 f2 f3 f4 f5 f6 (nI j18)).toInt)) (decide ((hmO N B f1 f2 f3 f4 f5 f6 (nI j18)).toInt < 20)) j18 10 u37 u30 ∧ u36 = u29 := w34
                    generalize H1 = H at hP hS ⊢
                    obtain ⟨hP, hD⟩ := va_rls (ws' := (([(wy, .inr (9, [.int (nI N), .int (nI B), .int (nI D), .ref a1, .ref a2, .ref a3, .ref a4, .ref a5, .ref a6])), (a1, .inl (G 0, 10, .inl f1)), (a2, .inl (G 0, 10, .inl f2)), (a3, .inl (G 0, 10, .inl f3)), (a4, .inl (G 0, 6, .inl f4)), (a5, .inl (G 0, 6, .inl f5)), (a6, .inl (G 0, 6, .inl f6)), (mk, .inr (3, [.int (nI S), .ref m1, .ref m2])), (m1, .inl (G 0, 6, .inl z1)), (m2, .inl (G 0, 6, .inl z2)), (h0, .inr (8, [.int u35, .ref ti, .ref to])), (ti, .inl (G 4, 11, .inr (.inr (.inr (.inr (fun ir => if ir < 11 then some (ri ir) else none)))))), (to, .inl (G 4, 11, .inr (.inr (.inr (.inr (fun ir => if ir < 11 then some (ro ir) else none))))))] : va_W) ++ ((((List.range 11).map (fun iq => (ri iq, .inl (G 0, 10, .inl (u36 iq))))) : va_W) ++ ((((List.range 11).map (fun iq => (ro iq, .inl (G 0, 10, .inl (u37 iq))))) : va_W) ++ [])))) hP hD rfl
                    refine lv_iinc (v := dn j18) (lv' := [(3, .int (dn j18)), (0, .ref h0), (1, .ref wy), (2, .ref mk)]) hx hb dX8_explore_120 hl (k := 0) rfl (by exact dn_pred _) (by decide) rfl (fun ls hl => ?_)
                    refine lv_goto (tgt := 93) hx hb dX8_explore_123 rfl ?_
                    exact ih93_22 (by omega) u35 u36 u37 _ _ ⟨exO_s (H := (fun jb => hmO N B f1 f2 f3 f4 f5 f6 (nI jb))) (AL := (fun ib qb => alB z1 z2 (nI ib) (nI qb) S)) (by omega) hinv.1 w28.1 w34.2.1, (by rw [w34.2.2, w28.2]; exact hinv.2)⟩ (hP.sub [10, 11, 12, 0, 1, 2, 3, 4, 5, 6, 7, 8, 9, 13, 14, 15, 16, 17, 18, 19, 20, 21, 22, 23, 24, 25, 26, 27, 28, 29, 30, 31, 32, 33, 34] rfl) (hD.sub [10, 11, 12, 0, 1, 2, 3, 4, 5, 6, 7, 8, 9, 13, 14, 15, 16, 17, 18, 19, 20, 21, 22, 23, 24, 25, 26, 27, 28, 29, 30, 31, 32, 33, 34] (by decide) rfl) hS ls (lv_sub hl [0, 1, 2, 3] rfl)
              exact loop93_22 N (Nat.le_refl _) y10 g11 g12 _ _ ⟨exO_z hinv.2, hA9⟩ hP hD hS ls (lv_sub hl [0, 1, 2, 3] rfl)
            · skip
              have tn2486_ : nIT j9 := fun _ => nI_toInt (by first | omega | (have t := nleI c16; omega))
              have n38 : j9 < N := by have t := nleI c16; rw [show (nI (j9)).toInt = ((j9 : Nat) : Int) from tn2486_ ()] at t; rw [show (nI (N)).toInt = ((N : Nat) : Int) from tn2478_ ()] at t; omega
              refine lv_aload_n hx hb dX8_explore_57 rfl (lv_at hl 1 rfl) ?_
              refine lv_aload_n hx hb dX8_explore_58 rfl (lv_at hl 2 rfl) ?_
              refine lv_iload_n hx hb dX8_explore_59 rfl (lv_at hl 0 rfl) ?_
              have hPc := hP.sub (ws' := [(wy, .inr (9, [.int (nI N), .int (nI B), .int (nI D), .ref a1, .ref a2, .ref a3, .ref a4, .ref a5, .ref a6])), (a1, .inl (G 0, 10, .inl f1)), (a2, .inl (G 0, 10, .inl f2)), (a3, .inl (G 0, 10, .inl f3)), (a4, .inl (G 0, 6, .inl f4)), (a5, .inl (G 0, 6, .inl f5)), (a6, .inl (G 0, 6, .inl f6))]) [3, 4, 5, 6, 7, 8, 9] rfl
              refine va_calli (va_runVN (As := [.int (nI j9)]) (rest := [.ref h0]) ⟨hx, hb, hml, hown, hg⟩ (c_X9_harmInOrder l dC dI G _ wy a1 a2 a3 a4 a5 a6 N B D (nI j9) f1 f2 f3 f4 f5 f6 hN_N hB_B hD_D) (kwVN hg hK mfX9_harmInOrder wn_771 ⟨Nat.le_of_ble_eq_true rfl, Nat.le_of_ble_eq_true rfl⟩) (preVR hK hPc (ci := 9) (r := (RX9, TX9, 9)) rfl rfl) rfl rfl hl.1 rfl (lv_room (Nat.le_of_ble_eq_true rfl)) dX8_explore_60 ⟨Nat.le_of_ble_eq_true rfl, Nat.le_of_ble_eq_true rfl⟩) hS (fun q h1 h2 => absurd h2 (Nat.not_le.mpr h1)) (fun q h => hA q (Nat.le_trans hS.1 h)) (fun r39 ur39 t H1 locs ht hvm w40 hB hz1 hk1 hS => ?_)
              have hP := keepR hP hk1
              obtain ⟨w40, w40x⟩ := w40
              subst w40
              refine lv_iload_n hx hb dX8_explore_63 rfl (lv_at hl 0 rfl) ?_
              obtain ⟨hPc, hDc, hFc⟩ := va_sub3 (ws' := (([(h0, .inr (8, [.int y10, .ref ti, .ref to])), (ti, .inl (G 4, 11, .inr (.inr (.inr (.inr (fun ir => if ir < 11 then some (ri ir) else none)))))), (to, .inl (G 4, 11, .inr (.inr (.inr (.inr (fun ir => if ir < 11 then some (ro ir) else none))))))] : va_W) ++ ((((List.range 11).map (fun iq => (ri iq, .inl (G 0, 10, .inl (g11 iq))))) : va_W) ++ ((((List.range 11).map (fun iq => (ro iq, .inl (G 0, 10, .inl (g12 iq))))) : va_W) ++ [])))) hP hD hS hA [0, 1, 2, 13, 14, 15, 16, 17, 18, 19, 20, 21, 22, 23, 24, 25, 26, 27, 28, 29, 30, 31, 32, 33, 34] (by decide +kernel) rfl
              refine va_callv (va_runV (As := [.int (hmO N B f1 f2 f3 f4 f5 f6 (nI j9)), .int (nI j9)]) (rest := []) ⟨hx, hb, hml, hown, hg⟩ (c_X8_leadIntoE l dC dI G _ h0 ti to j9 (hmO N B f1 f2 f3 f4 f5 f6 (nI j9)) y10 ri ro g11 g12 (by first | omega | (have t_hj6 := hj6; have t_n8 := n8; have t_hj15 := hj15; have t_n38 := n38; have tnb_ := nib6 tn2478_ tn2479_ tn2480_ tn2481_ tn2482_ tn2486_; omega))) (kwV hg mfX8_leadInto wt_772 ⟨Nat.le_of_ble_eq_true rfl, Nat.le_of_ble_eq_true rfl⟩) (preVW hK hPc hDc (ci := 8) (r := (RX8, TX8, 3)) rfl rfl) rfl rfl hl.1 rfl (lv_room (Nat.le_of_ble_eq_true rfl)) dX8_explore_64 ⟨Nat.le_of_ble_eq_true rfl, Nat.le_of_ble_eq_true rfl⟩) hS (fun q _ h => hFc q h) hFc (fun ur41 t H1 locs ht hvm w42 hB hz1 hk1 hS => ?_)
              obtain ⟨u43, u44, u45⟩ := ur41
              obtain ⟨hP1, hD1⟩ := hB
              rw [ht] at hP1
              obtain ⟨hP, hD⟩ := va_join (wr := [(wy, .inr (9, [.int (nI N), .int (nI B), .int (nI D), .ref a1, .ref a2, .ref a3, .ref a4, .ref a5, .ref a6])), (a1, .inl (G 0, 10, .inl f1)), (a2, .inl (G 0, 10, .inl f2)), (a3, .inl (G 0, 10, .inl f3)), (a4, .inl (G 0, 6, .inl f4)), (a5, .inl (G 0, 6, .inl f5)), (a6, .inl (G 0, 6, .inl f6)), (mk, .inr (3, [.int (nI S), .ref m1, .ref m2])), (m1, .inl (G 0, 6, .inl z1)), (m2, .inl (G 0, 6, .inl z2))]) (w1 := (([(h0, .inr (8, [.int u43, .ref ti, .ref to])), (ti, .inl (G 4, 11, .inr (.inr (.inr (.inr (fun ir => if ir < 11 then some (ri ir) else none)))))), (to, .inl (G 4, 11, .inr (.inr (.inr (.inr (fun ir => if ir < 11 then some (ro ir) else none))))))] : va_W) ++ ((((List.range 11).map (fun iq => (ri iq, .inl (G 0, 10, .inl (u44 iq))))) : va_W) ++ ((((List.range 11).map (fun iq => (ro iq, .inl (G 0, 10, .inl (u45 iq))))) : va_W) ++ [])))) hP hD [0, 1, 2, 13, 14, 15, 16, 17, 18, 19, 20, 21, 22, 23, 24, 25, 26, 27, 28, 29, 30, 31, 32, 33, 34] [3, 4, 5, 6, 7, 8, 9, 10, 11, 12] rfl rfl (by decide +kernel) (by decide +kernel) hk1 hFc hP1 hD1
              have w42 : u43 = y10 ∧ LI1 (decide (0 < (hmO N B f1 f2 f3 f4 f5 f6 (nI j9)).toInt)) (decide ((hmO N B f1 f2 f3 f4 f5 f6 (nI j9)).toInt < 20)) j9 10 u44 g11 ∧ u45 = g12 := w42
              generalize H1 = H at hP hS ⊢
              obtain ⟨hP, hD⟩ := va_rls (ws' := (([(wy, .inr (9, [.int (nI N), .int (nI B), .int (nI D), .ref a1, .ref a2, .ref a3, .ref a4, .ref a5, .ref a6])), (a1, .inl (G 0, 10, .inl f1)), (a2, .inl (G 0, 10, .inl f2)), (a3, .inl (G 0, 10, .inl f3)), (a4, .inl (G 0, 6, .inl f4)), (a5, .inl (G 0, 6, .inl f5)), (a6, .inl (G 0, 6, .inl f6)), (mk, .inr (3, [.int (nI S), .ref m1, .ref m2])), (m1, .inl (G 0, 6, .inl z1)), (m2, .inl (G 0, 6, .inl z2)), (h0, .inr (8, [.int u43, .ref ti, .ref to])), (ti, .inl (G 4, 11, .inr (.inr (.inr (.inr (fun ir => if ir < 11 then some (ri ir) else none)))))), (to, .inl (G 4, 11, .inr (.inr (.inr (.inr (fun ir => if ir < 11 then some (ro ir) else none))))))] : va_W) ++ ((((List.range 11).map (fun iq => (ri iq, .inl (G 0, 10, .inl (u44 iq))))) : va_W) ++ ((((List.range 11).map (fun iq => (ro iq, .inl (G 0, 10, .inl (u45 iq))))) : va_W) ++ [])))) hP hD rfl
              refine lv_aload_n hx hb dX8_explore_67 rfl (lv_at hl 1 rfl) ?_
              refine va_get (D := (dC, dI)) (ci := 8) (v := .ref ti) (C := RX8) (T := TX8) (N := 3) hx hb hg inG8 hown hK.1 hP 10 rfl rfl 1 (Nat.le_of_ble_eq_true rfl) (hg _ wt_260) (fun _ h9 => h9) rfl dX8_explore_68 ?_
              refine lv_iload_n hx hb dX8_explore_71 rfl (lv_at hl 0 rfl) ?_
              refine lv_iconst (v := 1) hx hb dX8_explore_72 rfl ?_
              refine lv_iadd hx hb dX8_explore_73 ?_
              refine lv_cg (y := nI (j9 + 1)) (by rw [show (1 : Int32) = nI 1 from rfl]; exact nI_add _ _) ?_
              refine va_aldA hx hb hK.1 hP 11 4 rfl rfl (vp_in_nI (by first | omega | (have t_hj6 := hj6; have t_n8 := n8; have t_hj15 := hj15; have t_n38 := n38; have tnb_ := nib6 tn2478_ tn2479_ tn2480_ tn2481_ tn2482_ tn2486_; omega)) (by decide)) dX8_explore_74 ?_
              refine lv_cgv (y := .ref (ri (j9 + 1))) (rowref (by first | omega | (have t_hj6 := hj6; have t_n8 := n8; have t_hj15 := hj15; have t_n38 := n38; have tnb_ := nib6 tn2478_ tn2479_ tn2480_ tn2481_ tn2482_ tn2486_; omega)) (by decide)) ?_
              refine lv_aload_n hx hb dX8_explore_75 rfl (lv_at hl 3 rfl) ?_
              refine lv_iload_n hx hb dX8_explore_76 rfl (lv_at hl 0 rfl) ?_
              obtain ⟨hPc, hDc, hFc⟩ := va_sub3 (ws' := (([(mk, .inr (3, [.int (nI S), .ref m1, .ref m2])), (m1, .inl (G 0, 6, .inl z1)), (m2, .inl (G 0, 6, .inl z2))] : va_W) ++ ((((List.range 11).map (fun iq => (ri iq, .inl (G 0, 10, .inl (u44 iq))))) : va_W) ++ ((((List.range 11).map (fun iq => (ro iq, .inl (G 0, 10, .inl (u45 iq))))) : va_W) ++ [])))) hP hD hS hA [7, 8, 9, 13, 14, 15, 16, 17, 18, 19, 20, 21, 22, 23, 24, 25, 26, 27, 28, 29, 30, 31, 32, 33, 34] (by decide +kernel) rfl
              refine va_callv (va_runS (As := [.ref (ri (j9 + 1)), .ref mk, .int (nI j9)]) (rest := []) ⟨hx, hb, hml, hown, hg⟩ (c_X8_dropUnmarked1E l dC dI G _ mk m1 m2 S (j9 + 1) (nI j9) z1 z2 ri ro u44 u45 hS0 (by first | omega | (have t_hj6 := hj6; have t_n8 := n8; have t_hj15 := hj15; have t_n38 := n38; have tnb_ := nib6 tn2478_ tn2479_ tn2480_ tn2481_ tn2482_ tn2486_; omega))) (kwS hg mfX8_dropUnmarked wt_777 ⟨Nat.le_of_ble_eq_true rfl, Nat.le_of_ble_eq_true rfl⟩) (preSW hK hPc hDc) rfl rfl hl.1 rfl (lv_room (Nat.le_of_ble_eq_true rfl)) dX8_explore_77 ⟨Nat.le_of_ble_eq_true rfl, Nat.le_of_ble_eq_true rfl⟩) hS (fun q _ h => hFc q h) hFc (fun ur46 t H1 locs ht hvm w47 hB hz1 hk1 hS => ?_)
              obtain ⟨u48, u49⟩ := ur46
              obtain ⟨hP1, hD1⟩ := hB
              rw [ht] at hP1
              obtain ⟨hP, hD⟩ := va_join (wr := [(wy, .inr (9, [.int (nI N), .int (nI B), .int (nI D), .ref a1, .ref a2, .ref a3, .ref a4, .ref a5, .ref a6])), (a1, .inl (G 0, 10, .inl f1)), (a2, .inl (G 0, 10, .inl f2)), (a3, .inl (G 0, 10, .inl f3)), (a4, .inl (G 0, 6, .inl f4)), (a5, .inl (G 0, 6, .inl f5)), (a6, .inl (G 0, 6, .inl f6)), (h0, .inr (8, [.int u43, .ref ti, .ref to])), (ti, .inl (G 4, 11, .inr (.inr (.inr (.inr (fun ir => if ir < 11 then some (ri ir) else none)))))), (to, .inl (G 4, 11, .inr (.inr (.inr (.inr (fun ir => if ir < 11 then some (ro ir) else none))))))]) (w1 := (([(mk, .inr (3, [.int (nI S), .ref m1, .ref m2])), (m1, .inl (G 0, 6, .inl z1)), (m2, .inl (G 0, 6, .inl z2))] : va_W) ++ ((((List.range 11).map (fun iq => (ri iq, .inl (G 0, 10, .inl (u48 iq))))) : va_W) ++ ((((List.range 11).map (fun iq => (ro iq, .inl (G 0, 10, .inl (u49 iq))))) : va_W) ++ [])))) hP hD [7, 8, 9, 13, 14, 15, 16, 17, 18, 19, 20, 21, 22, 23, 24, 25, 26, 27, 28, 29, 30, 31, 32, 33, 34] [0, 1, 2, 3, 4, 5, 6, 10, 11, 12] rfl rfl (by decide +kernel) (by decide +kernel) hk1 hFc hP1 hD1
              have w47 : DUm (fun qb => alB z1 z2 (nI j9) (nI qb) S) (j9 + 1) 10 u48 u44 ∧ u49 = u45 := w47
              generalize H1 = H at hP hS ⊢
              obtain ⟨hP, hD⟩ := va_rls (ws' := (([(wy, .inr (9, [.int (nI N), .int (nI B), .int (nI D), .ref a1, .ref a2, .ref a3, .ref a4, .ref a5, .ref a6])), (a1, .inl (G 0, 10, .inl f1)), (a2, .inl (G 0, 10, .inl f2)), (a3, .inl (G 0, 10, .inl f3)), (a4, .inl (G 0, 6, .inl f4)), (a5, .inl (G 0, 6, .inl f5)), (a6, .inl (G 0, 6, .inl f6)), (h0, .inr (8, [.int u43, .ref ti, .ref to])), (ti, .inl (G 4, 11, .inr (.inr (.inr (.inr (fun ir => if ir < 11 then some (ri ir) else none)))))), (to, .inl (G 4, 11, .inr (.inr (.inr (.inr (fun ir => if ir < 11 then some (ro ir) else none)))))), (mk, .inr (3, [.int (nI S), .ref m1, .ref m2])), (m1, .inl (G 0, 6, .inl z1)), (m2, .inl (G 0, 6, .inl z2))] : va_W) ++ ((((List.range 11).map (fun iq => (ri iq, .inl (G 0, 10, .inl (u48 iq))))) : va_W) ++ ((((List.range 11).map (fun iq => (ro iq, .inl (G 0, 10, .inl (u49 iq))))) : va_W) ++ [])))) hP hD rfl
              refine lv_iinc (v := nI (j9 + 1)) (lv' := [(3, .int (nI (j9 + 1))), (0, .ref h0), (1, .ref wy), (2, .ref mk)]) hx hb dX8_explore_80 hl (k := 0) rfl (by rw [show Int32.ofInt 1 = nI 1 from by decide]; exact nI_add _ _) (by decide) rfl (fun ls hl => ?_)
              refine lv_goto (tgt := 49) hx hb dX8_explore_83 rfl ?_
              exact ih49_13 (j9 + 1) (by omega) (by omega) u43 u48 u49 _ _ ⟨exF_s (H := (fun jb => hmO N B f1 f2 f3 f4 f5 f6 (nI jb))) (AL := (fun ib qb => alB z1 z2 (nI ib) (nI qb) S)) hinv.1 w42.2.1 w47.1, (by rw [w47.2, w42.2.2]; exact hinv.2)⟩ (hP.sub [7, 8, 9, 0, 1, 2, 3, 4, 5, 6, 10, 11, 12, 13, 14, 15, 16, 17, 18, 19, 20, 21, 22, 23, 24, 25, 26, 27, 28, 29, 30, 31, 32, 33, 34] rfl) (hD.sub [7, 8, 9, 0, 1, 2, 3, 4, 5, 6, 10, 11, 12, 13, 14, 15, 16, 17, 18, 19, 20, 21, 22, 23, 24, 25, 26, 27, 28, 29, 30, 31, 32, 33, 34] (by decide) rfl) hS ls (lv_sub hl [0, 1, 2, 3] rfl)
        exact loop49_13 (N + 1) 0 (by omega) (by omega) tt g2 g3 _ _ ⟨exF_z hF9, hE9⟩ hP hD hS ls (lv_sub hl [0, 1, 2, 3] rfl)
      · skip
        have tn2487_ : nIT j1 := fun _ => nI_toInt (by first | omega | (have t := nleI c7; omega))
        have n50 : j1 < 10 := by have t := nleI c7; rw [show (nI (j1)).toInt = ((j1 : Nat) : Int) from tn2487_ ()] at t; have : (10 : Int32).toInt = 10 := qI_10; omega
        refine lv_aload_n hx hb dX8_explore_8 rfl (lv_at hl 1 rfl) ?_
        refine va_get (D := (dC, dI)) (ci := 8) (v := .ref ti) (C := RX8) (T := TX8) (N := 3) hx hb hg inG8 hown hK.1 hP 0 rfl rfl 1 (Nat.le_of_ble_eq_true rfl) (hg _ wt_260) (fun _ h9 => h9) rfl dX8_explore_9 ?_
        refine lv_iconst (v := 0) hx hb dX8_explore_12 rfl ?_
        refine va_aldA hx hb hK.1 hP 1 4 rfl rfl (vp_in_iff.mpr ⟨by decide, by decide⟩) dX8_explore_13 ?_
        refine lv_cgv (y := .ref (ri 0)) (by rfl) ?_
        refine lv_iload_n hx hb dX8_explore_14 rfl (lv_at hl 0 rfl) ?_
        refine lv_iload_n hx hb dX8_explore_15 rfl (lv_at hl 0 rfl) ?_
        refine lv_aload_n hx hb dX8_explore_16 rfl (lv_at hl 2 rfl) ?_
        refine va_getN (D := (dC, dI)) (ci := 9) (v := .int (nI D)) (C := RX9) (T := TX9) (N := 9) hx hb hg inG9 hown hK.1 hP 3 rfl rfl 2 (Nat.le_of_ble_eq_true rfl) (hK.nest wn_69) (fun _ h9 => h9) rfl dX8_explore_17 ?_
        refine lv_icmp_ne (tgt := 27) hx hb dX8_explore_20 rfl (fun c51 => ?_) (fun c51 => ?_)
        · skip
          have n52 : j1 ≠ D := by have t := neI c51; rw [show (nI (j1)).toInt = ((j1 : Nat) : Int) from tn2487_ ()] at t; rw [show (nI (D)).toInt = ((D : Nat) : Int) from tn2480_ ()] at t; omega
          refine lv_iconst (v := 0) hx hb dX8_explore_27 rfl ?_
          refine va_iastB (j := 0) hx hb hK.1 hP hD hS 0 (by first | omega | (have t_hj6 := hj6; have t_n50 := n50; have t_n52 := n52; have tnb_ := nib5 tn2478_ tn2479_ tn2480_ tn2481_ tn2487_; omega)) rfl (vp_in_nI (by first | omega | (have t_hj6 := hj6; have t_n50 := n50; have t_n52 := n52; have tnb_ := nib5 tn2478_ tn2479_ tn2480_ tn2481_ tn2487_; omega)) (by decide)) dX8_explore_28 (fun H locs hP hD hS => ?_)
          rw [nI_clamp (by first | omega | (have t_hj6 := hj6; have t_n50 := n50; have t_n52 := n52; have tnb_ := nib5 tn2478_ tn2479_ tn2480_ tn2481_ tn2487_; omega))] at hP hD
          obtain ⟨hP, hD⟩ := va_rls (ws' := (([(h0, .inr (8, [.int tt, .ref ti, .ref to])), (ti, .inl (G 4, 11, .inr (.inr (.inr (.inr (fun ir => if ir < 11 then some (ri ir) else none)))))), (to, .inl (G 4, 11, .inr (.inr (.inr (.inr (fun ir => if ir < 11 then some (ro ir) else none)))))), (wy, .inr (9, [.int (nI N), .int (nI B), .int (nI D), .ref a1, .ref a2, .ref a3, .ref a4, .ref a5, .ref a6])), (a1, .inl (G 0, 10, .inl f1)), (a2, .inl (G 0, 10, .inl f2)), (a3, .inl (G 0, 10, .inl f3)), (a4, .inl (G 0, 6, .inl f4)), (a5, .inl (G 0, 6, .inl f5)), (a6, .inl (G 0, 6, .inl f6)), (mk, .inr (3, [.int (nI S), .ref m1, .ref m2])), (m1, .inl (G 0, 6, .inl z1)), (m2, .inl (G 0, 6, .inl z2))] : va_W) ++ ((((List.range 11).map (fun iq => (ri iq, .inl (G 0, 10, .inl ((va_up g2 0 (upd (g2 0) j1 0)) iq))))) : va_W) ++ ((((List.range 11).map (fun iq => (ro iq, .inl (G 0, 10, .inl (g3 iq))))) : va_W) ++ [])))) hP hD rfl
          refine lv_aload_n hx hb dX8_explore_29 rfl (lv_at hl 1 rfl) ?_
          refine va_get (D := (dC, dI)) (ci := 8) (v := .ref to) (C := RX8) (T := TX8) (N := 3) hx hb hg inG8 hown hK.1 hP 0 rfl rfl 2 (Nat.le_of_ble_eq_true rfl) (hg _ wt_261) (fun _ h9 => h9) rfl dX8_explore_30 ?_
          refine lv_aload_n hx hb dX8_explore_33 rfl (lv_at hl 2 rfl) ?_
          refine va_getN (D := (dC, dI)) (ci := 9) (v := .int (nI N)) (C := RX9) (T := TX9) (N := 9) hx hb hg inG9 hown hK.1 hP 3 rfl rfl 0 (Nat.le_of_ble_eq_true rfl) (hK.nest wn_58) (fun _ h9 => h9) rfl dX8_explore_34 ?_
          refine va_aldA hx hb hK.1 hP 2 4 rfl rfl (vp_in_nI (by first | omega | (have t_hj6 := hj6; have t_n50 := n50; have t_n52 := n52; have tnb_ := nib5 tn2478_ tn2479_ tn2480_ tn2481_ tn2487_; omega)) (by decide)) dX8_explore_37 ?_
          refine lv_cgv (y := .ref (ro N)) (rowref (by first | omega | (have t_hj6 := hj6; have t_n50 := n50; have t_n52 := n52; have tnb_ := nib5 tn2478_ tn2479_ tn2480_ tn2481_ tn2487_; omega)) (by decide)) ?_
          refine lv_iload_n hx hb dX8_explore_38 rfl (lv_at hl 0 rfl) ?_
          refine lv_iconst (v := 1) hx hb dX8_explore_39 rfl ?_
          refine va_iastB2 (j := N) hx hb hK.1 hP hD hS 0 (by first | omega | (have t_hj6 := hj6; have t_n50 := n50; have t_n52 := n52; have tnb_ := nib5 tn2478_ tn2479_ tn2480_ tn2481_ tn2487_; omega)) rfl (vp_in_nI (by first | omega | (have t_hj6 := hj6; have t_n50 := n50; have t_n52 := n52; have tnb_ := nib5 tn2478_ tn2479_ tn2480_ tn2481_ tn2487_; omega)) (by decide)) dX8_explore_40 (fun H locs hP hD hS => ?_)
          rw [nI_clamp (by first | omega | (have t_hj6 := hj6; have t_n50 := n50; have t_n52 := n52; have tnb_ := nib5 tn2478_ tn2479_ tn2480_ tn2481_ tn2487_; omega))] at hP hD
          obtain ⟨hP, hD⟩ := va_rls (ws' := (([(h0, .inr (8, [.int tt, .ref ti, .ref to])), (ti, .inl (G 4, 11, .inr (.inr (.inr (.inr (fun ir => if ir < 11 then some (ri ir) else none)))))), (to, .inl (G 4, 11, .inr (.inr (.inr (.inr (fun ir => if ir < 11 then some (ro ir) else none)))))), (wy, .inr (9, [.int (nI N), .int (nI B), .int (nI D), .ref a1, .ref a2, .ref a3, .ref a4, .ref a5, .ref a6])), (a1, .inl (G 0, 10, .inl f1)), (a2, .inl (G 0, 10, .inl f2)), (a3, .inl (G 0, 10, .inl f3)), (a4, .inl (G 0, 6, .inl f4)), (a5, .inl (G 0, 6, .inl f5)), (a6, .inl (G 0, 6, .inl f6)), (mk, .inr (3, [.int (nI S), .ref m1, .ref m2])), (m1, .inl (G 0, 6, .inl z1)), (m2, .inl (G 0, 6, .inl z2))] : va_W) ++ ((((List.range 11).map (fun iq => (ri iq, .inl (G 0, 10, .inl ((va_up g2 0 (upd (g2 0) j1 0)) iq))))) : va_W) ++ ((((List.range 11).map (fun iq => (ro iq, .inl (G 0, 10, .inl ((va_up g3 N (upd (g3 N) j1 1)) iq))))) : va_W) ++ [])))) hP hD rfl
          refine lv_iinc (v := nI (j1 + 1)) (lv' := [(3, .int (nI (j1 + 1))), (0, .ref h0), (1, .ref wy), (2, .ref mk)]) hx hb dX8_explore_41 hl (k := 0) rfl (by rw [show Int32.ofInt 1 = nI 1 from by decide]; exact nI_add _ _) (by decide) rfl (fun ls hl => ?_)
          refine lv_goto (tgt := 2) hx hb dX8_explore_44 rfl ?_
          exact ih2_4 (j1 + 1) (by omega) (by omega) (va_up g2 0 (upd (g2 0) j1 0)) (va_up g3 N (upd (g3 N) j1 1)) _ _ ⟨(by first | exact ex0_y hinv.1 (by omega) | exact ex0_n hinv.1 (by omega)), ex1_s hinv.2⟩ hP hD hS ls (lv_sub hl [0, 1, 2, 3] rfl)
        · skip
          have n53 : j1 = D := by have t := eqI c51; rw [show (nI (j1)).toInt = ((j1 : Nat) : Int) from tn2487_ ()] at t; rw [show (nI (D)).toInt = ((D : Nat) : Int) from tn2480_ ()] at t; omega
          refine lv_iconst (v := 1) hx hb dX8_explore_23 rfl ?_
          refine lv_goto (tgt := 28) hx hb dX8_explore_24 rfl ?_
          refine va_iastB (j := 0) hx hb hK.1 hP hD hS 0 (by first | omega | (have t_hj6 := hj6; have t_n50 := n50; have t_n53 := n53; have tnb_ := nib5 tn2478_ tn2479_ tn2480_ tn2481_ tn2487_; omega)) rfl (vp_in_nI (by first | omega | (have t_hj6 := hj6; have t_n50 := n50; have t_n53 := n53; have tnb_ := nib5 tn2478_ tn2479_ tn2480_ tn2481_ tn2487_; omega)) (by decide)) dX8_explore_28 (fun H locs hP hD hS => ?_)
          rw [nI_clamp (by first | omega | (have t_hj6 := hj6; have t_n50 := n50; have t_n53 := n53; have tnb_ := nib5 tn2478_ tn2479_ tn2480_ tn2481_ tn2487_; omega))] at hP hD
          obtain ⟨hP, hD⟩ := va_rls (ws' := (([(h0, .inr (8, [.int tt, .ref ti, .ref to])), (ti, .inl (G 4, 11, .inr (.inr (.inr (.inr (fun ir => if ir < 11 then some (ri ir) else none)))))), (to, .inl (G 4, 11, .inr (.inr (.inr (.inr (fun ir => if ir < 11 then some (ro ir) else none)))))), (wy, .inr (9, [.int (nI N), .int (nI B), .int (nI D), .ref a1, .ref a2, .ref a3, .ref a4, .ref a5, .ref a6])), (a1, .inl (G 0, 10, .inl f1)), (a2, .inl (G 0, 10, .inl f2)), (a3, .inl (G 0, 10, .inl f3)), (a4, .inl (G 0, 6, .inl f4)), (a5, .inl (G 0, 6, .inl f5)), (a6, .inl (G 0, 6, .inl f6)), (mk, .inr (3, [.int (nI S), .ref m1, .ref m2])), (m1, .inl (G 0, 6, .inl z1)), (m2, .inl (G 0, 6, .inl z2))] : va_W) ++ ((((List.range 11).map (fun iq => (ri iq, .inl (G 0, 10, .inl ((va_up g2 0 (upd (g2 0) j1 1)) iq))))) : va_W) ++ ((((List.range 11).map (fun iq => (ro iq, .inl (G 0, 10, .inl (g3 iq))))) : va_W) ++ [])))) hP hD rfl
          refine lv_aload_n hx hb dX8_explore_29 rfl (lv_at hl 1 rfl) ?_
          refine va_get (D := (dC, dI)) (ci := 8) (v := .ref to) (C := RX8) (T := TX8) (N := 3) hx hb hg inG8 hown hK.1 hP 0 rfl rfl 2 (Nat.le_of_ble_eq_true rfl) (hg _ wt_261) (fun _ h9 => h9) rfl dX8_explore_30 ?_
          refine lv_aload_n hx hb dX8_explore_33 rfl (lv_at hl 2 rfl) ?_
          refine va_getN (D := (dC, dI)) (ci := 9) (v := .int (nI N)) (C := RX9) (T := TX9) (N := 9) hx hb hg inG9 hown hK.1 hP 3 rfl rfl 0 (Nat.le_of_ble_eq_true rfl) (hK.nest wn_58) (fun _ h9 => h9) rfl dX8_explore_34 ?_
          refine va_aldA hx hb hK.1 hP 2 4 rfl rfl (vp_in_nI (by first | omega | (have t_hj6 := hj6; have t_n50 := n50; have t_n53 := n53; have tnb_ := nib5 tn2478_ tn2479_ tn2480_ tn2481_ tn2487_; omega)) (by decide)) dX8_explore_37 ?_
          refine lv_cgv (y := .ref (ro N)) (rowref (by first | omega | (have t_hj6 := hj6; have t_n50 := n50; have t_n53 := n53; have tnb_ := nib5 tn2478_ tn2479_ tn2480_ tn2481_ tn2487_; omega)) (by decide)) ?_
          refine lv_iload_n hx hb dX8_explore_38 rfl (lv_at hl 0 rfl) ?_
          refine lv_iconst (v := 1) hx hb dX8_explore_39 rfl ?_
          refine va_iastB2 (j := N) hx hb hK.1 hP hD hS 0 (by first | omega | (have t_hj6 := hj6; have t_n50 := n50; have t_n53 := n53; have tnb_ := nib5 tn2478_ tn2479_ tn2480_ tn2481_ tn2487_; omega)) rfl (vp_in_nI (by first | omega | (have t_hj6 := hj6; have t_n50 := n50; have t_n53 := n53; have tnb_ := nib5 tn2478_ tn2479_ tn2480_ tn2481_ tn2487_; omega)) (by decide)) dX8_explore_40 (fun H locs hP hD hS => ?_)
          rw [nI_clamp (by first | omega | (have t_hj6 := hj6; have t_n50 := n50; have t_n53 := n53; have tnb_ := nib5 tn2478_ tn2479_ tn2480_ tn2481_ tn2487_; omega))] at hP hD
          obtain ⟨hP, hD⟩ := va_rls (ws' := (([(h0, .inr (8, [.int tt, .ref ti, .ref to])), (ti, .inl (G 4, 11, .inr (.inr (.inr (.inr (fun ir => if ir < 11 then some (ri ir) else none)))))), (to, .inl (G 4, 11, .inr (.inr (.inr (.inr (fun ir => if ir < 11 then some (ro ir) else none)))))), (wy, .inr (9, [.int (nI N), .int (nI B), .int (nI D), .ref a1, .ref a2, .ref a3, .ref a4, .ref a5, .ref a6])), (a1, .inl (G 0, 10, .inl f1)), (a2, .inl (G 0, 10, .inl f2)), (a3, .inl (G 0, 10, .inl f3)), (a4, .inl (G 0, 6, .inl f4)), (a5, .inl (G 0, 6, .inl f5)), (a6, .inl (G 0, 6, .inl f6)), (mk, .inr (3, [.int (nI S), .ref m1, .ref m2])), (m1, .inl (G 0, 6, .inl z1)), (m2, .inl (G 0, 6, .inl z2))] : va_W) ++ ((((List.range 11).map (fun iq => (ri iq, .inl (G 0, 10, .inl ((va_up g2 0 (upd (g2 0) j1 1)) iq))))) : va_W) ++ ((((List.range 11).map (fun iq => (ro iq, .inl (G 0, 10, .inl ((va_up g3 N (upd (g3 N) j1 1)) iq))))) : va_W) ++ [])))) hP hD rfl
          refine lv_iinc (v := nI (j1 + 1)) (lv' := [(3, .int (nI (j1 + 1))), (0, .ref h0), (1, .ref wy), (2, .ref mk)]) hx hb dX8_explore_41 hl (k := 0) rfl (by rw [show Int32.ofInt 1 = nI 1 from by decide]; exact nI_add _ _) (by decide) rfl (fun ls hl => ?_)
          refine lv_goto (tgt := 2) hx hb dX8_explore_44 rfl ?_
          exact ih2_4 (j1 + 1) (by omega) (by omega) (va_up g2 0 (upd (g2 0) j1 1)) (va_up g3 N (upd (g3 N) j1 1)) _ _ ⟨(by first | exact ex0_y hinv.1 (by omega) | exact ex0_n hinv.1 (by omega)), ex1_s hinv.2⟩ hP hD hS ls (lv_sub hl [0, 1, 2, 3] rfl)
  exact loop2_4 (10 + 1) 0 (by omega) (by omega) F E _ _ ⟨fun q9 h9 => absurd h9 (Nat.not_lt_zero _), fun q9 h9 => absurd h9 (Nat.not_lt_zero _)⟩ hP hD hS ls (lv_sub hl [0, 1, 2, 3] rfl)

set_option maxHeartbeats 1000000 in
set_option maxRecDepth 100000 in
theorem c_X8_fallingE (l : Launch) (dC : Nat → ClassId) (dI : Nat → Nat → Nat) (G : Nat → ClassId) (sz : Nat) (h0 ti to wy a1 a2 a3 a4 a5 a6 N B D i : Nat) (tt : Int32) (f1 f2 f3 f4 f5 f6 : Nat → Int32) (ri ro : Nat → Nat) (F E : Nat → Nat → Int32) (hN_N : N ≤ 10) (hB_B : B ≤ 6) (hD_D : 1 ≤ D ∧ D ≤ 9) (hi : i < 10) : Met l yX8_falling (Cond.code yX8_falling cX8_falling 5 (some .int) :: GT) ({ frames := 4, cells := 0, slots := 0, locals := 88 } : Room) (PcR [.ref h0, .ref wy, .int (nI i)] dC dI G (([(h0, .inr (8, [.int tt, .ref ti, .ref to])), (ti, .inl (G 4, 11, .inr (.inr (.inr (.inr (fun ir => if ir < 11 then some (ri ir) else none)))))), (to, .inl (G 4, 11, .inr (.inr (.inr (.inr (fun ir => if ir < 11 then some (ro ir) else none)))))), (wy, .inr (9, [.int (nI N), .int (nI B), .int (nI D), .ref a1, .ref a2, .ref a3, .ref a4, .ref a5, .ref a6])), (a1, .inl (G 0, 10, .inl f1)), (a2, .inl (G 0, 10, .inl f2)), (a3, .inl (G 0, 10, .inl f3)), (a4, .inl (G 0, 6, .inl f4)), (a5, .inl (G 0, 6, .inl f5)), (a6, .inl (G 0, 6, .inl f6))] : va_W) ++ ((((List.range 11).map (fun iq => (ri iq, .inl (G 0, 10, .inl (F iq))))) : va_W) ++ ((((List.range 11).map (fun iq => (ro iq, .inl (G 0, 10, .inl (E iq))))) : va_W) ++ []))) sz) (va_Qi (fun (r : Int32) (u : Unit) => match u with | _ => (r = if hmO N B f1 f2 f3 f4 f5 f6 (nI i) = 0 then 0 else faF (F i) (E (i + 1)) 9) ∧ True) (fun _ _ => True) (fun q : Nat => sz ≤ q)) 0 0 (fun q : Nat => sz ≤ q) := by
  have tn2489_ : nIT N := fun _ => nI_toInt (by omega)
  have tn2490_ : nIT B := fun _ => nI_toInt (by omega)
  have tn2491_ : nIT D := fun _ => nI_toInt (by omega)
  refine Met.ofW (cc := cX8_falling) (maxL := 5) (ret := (some .int)) (by decide) rfl ?_
  intro p e s m args below meth c s₁ Bd hml hv
  obtain ⟨rfl, hsz, hP, hK⟩ := hv
  have hx := Bd.exec
  have hb := Bd.bytes
  have hr := Bd.returns
  have hg : ∀ w ∈ GT, w.before ([.ref h0, .ref wy, .int (nI i)] : List Value).toArray s = true := fun w h => atoms_spec (ws := Cond.code yX8_falling cX8_falling 5 (some .int) :: GT) Bd.pre w (List.mem_cons_of_mem _ h)
  have hown : s.vm.findClass RX8 = some m.cls := findClass_of_methodNamed Bd.named
  have hlocks := Bd.notSynchronized
  subst hsz
  have hA : ∀ q : Nat, s.heap.size ≤ q → (fun q : Nat => s.heap.size ≤ q) q := fun _ h => h
  have hS : va_S (fun q : Nat => s.heap.size ≤ q) s.heap s.heap [] := va_S.rf
  have hl := lv_entry ([.ref h0, .ref wy, .int (nI i)]) (n := 5) (Nat.le_of_ble_eq_true rfl)
  rw [lg_entry_eq]
  generalize (lg_sl ([.ref h0, .ref wy, .int (nI i)]) ++ List.replicate (5 - (lg_sl ([.ref h0, .ref wy, .int (nI i)])).length) Slot.unset).toArray = ls at hl ⊢
  have hl : lv_has ls 5 [(0, .ref h0), (1, .ref wy), (2, .int (nI i))] := hl
  refine lv_aload_n hx hb dX8_falling_0 rfl (lv_at hl 1 rfl) ?_
  refine lv_iload_n hx hb dX8_falling_1 rfl (lv_at hl 2 rfl) ?_
  have hPc := hP.sub (ws' := [(wy, .inr (9, [.int (nI N), .int (nI B), .int (nI D), .ref a1, .ref a2, .ref a3, .ref a4, .ref a5, .ref a6])), (a1, .inl (G 0, 10, .inl f1)), (a2, .inl (G 0, 10, .inl f2)), (a3, .inl (G 0, 10, .inl f3)), (a4, .inl (G 0, 6, .inl f4)), (a5, .inl (G 0, 6, .inl f5)), (a6, .inl (G 0, 6, .inl f6))]) [3, 4, 5, 6, 7, 8, 9] rfl
  have tn2492_ : nIT i := fun _ => nI_toInt (by omega)
  refine va_calli (va_runVN (As := [.int (nI i)]) (rest := []) ⟨hx, hb, hml, hown, hg⟩ (c_X9_harmInOrder l dC dI G _ wy a1 a2 a3 a4 a5 a6 N B D (nI i) f1 f2 f3 f4 f5 f6 hN_N hB_B hD_D) (kwVN hg hK mfX9_harmInOrder wn_771 ⟨Nat.le_of_ble_eq_true rfl, Nat.le_of_ble_eq_true rfl⟩) (preVR hK hPc (ci := 9) (r := (RX9, TX9, 9)) rfl rfl) rfl rfl hl.1 rfl (lv_room (Nat.le_of_ble_eq_true rfl)) dX8_falling_2 ⟨Nat.le_of_ble_eq_true rfl, Nat.le_of_ble_eq_true rfl⟩) hS (fun q h1 h2 => absurd h2 (Nat.not_le.mpr h1)) (fun q h => hA q (Nat.le_trans hS.1 h)) (fun r1 ur1 t H1 locs ht hvm w2 hB hz1 hk1 hS => ?_)
  have hP := keepR hP hk1
  obtain ⟨w2, w2x⟩ := w2
  subst w2
  refine lv_if_ne (tgt := 10) hx hb dX8_falling_5 rfl (fun c3 => ?_) (fun c3 => ?_)
  · skip
    refine lv_iconst (v := 0) hx hb dX8_falling_10 rfl ?_
    refine lv_istore_n (lv' := [(3, .int 0), (0, .ref h0), (1, .ref wy), (2, .int (nI i))]) hx hb dX8_falling_11 rfl hl (by decide) rfl (fun ls hl => ?_)
    refine lv_iconst (v := 1) hx hb dX8_falling_12 rfl ?_
    refine lv_istore (lv' := [(4, .int 1), (3, .int 0), (0, .ref h0), (1, .ref wy), (2, .int (nI i))]) hx hb dX8_falling_13 hl (by decide) rfl (fun ls hl => ?_)
    have loop15_6 : ∀ (nf j4 : Nat), 10 + 1 ≤ j4 + nf → j4 ≤ 10 → 1 ≤ j4 → ∀ (y5 : Int32) (H : Heap) (locs : List Loc), y5 = faF (F i) (E (i + 1)) (j4 - 1) → va_P (dC, dI) vwCl (([(h0, .inr (8, [.int tt, .ref ti, .ref to])), (ti, .inl (G 4, 11, .inr (.inr (.inr (.inr (fun ir => if ir < 11 then some (ri ir) else none)))))), (to, .inl (G 4, 11, .inr (.inr (.inr (.inr (fun ir => if ir < 11 then some (ro ir) else none)))))), (wy, .inr (9, [.int (nI N), .int (nI B), .int (nI D), .ref a1, .ref a2, .ref a3, .ref a4, .ref a5, .ref a6])), (a1, .inl (G 0, 10, .inl f1)), (a2, .inl (G 0, 10, .inl f2)), (a3, .inl (G 0, 10, .inl f3)), (a4, .inl (G 0, 6, .inl f4)), (a5, .inl (G 0, 6, .inl f5)), (a6, .inl (G 0, 6, .inl f6))] : va_W) ++ ((((List.range 11).map (fun iq => (ri iq, .inl (G 0, 10, .inl (F iq))))) : va_W) ++ ((((List.range 11).map (fun iq => (ro iq, .inl (G 0, 10, .inl (E iq))))) : va_W) ++ []))) H → va_S (fun q : Nat => s.heap.size ≤ q) s.heap H locs → ∀ (ls : Array Slot), lv_has ls 5 [(4, .int (nI j4)), (3, .int y5), (0, .ref h0), (1, .ref wy), (2, .int (nI i))] → W p l e (headSpec (Cond.code yX8_falling cX8_falling 5 (some .int) :: GT) ({ frames := 4, cells := 0, slots := 0, locals := 88 } : Room)).room s m ([.ref h0, .ref wy, .int (nI i)] : List Value).toArray below meth c H locs 0 0 (MQ below (va_Qi (fun (r : Int32) (u : Unit) => match u with | _ => (r = if hmO N B f1 f2 f3 f4 f5 f6 (nI i) = 0 then 0 else faF (F i) (E (i + 1)) 9) ∧ True) (fun _ _ => True) (fun q : Nat => s.heap.size ≤ q)) ([.ref h0, .ref wy, .int (nI i)] : List Value).toArray s 0 0 (fun q : Nat => s.heap.size ≤ q)) (F0 m 15 ls []) := by
      intro nf
      induction nf with
      | zero => intro j4 h1 h2; exact absurd h1 (by omega)
      | succ nf ih15_6 =>
        intro j4 hn7 hj8 hlo_j4 y5 H locs hinv hP hS ls hl
        refine lv_iload hx hb dX8_falling_15 (lv_at hl 0 rfl) ?_
        refine lv_bipush (v := 10) hx hb dX8_falling_17 rfl ?_
        refine lv_icmp_ge (tgt := 54) hx hb dX8_falling_19 rfl (fun c9 => ?_) (fun c9 => ?_)
        · skip
          have tn2493_ : nIT j4 := fun _ => nI_toInt (by first | omega | (have t := leI c9; omega))
          have n10 : 10 ≤ j4 := by have t := leI c9; rw [show (nI (j4)).toInt = ((j4 : Nat) : Int) from tn2493_ ()] at t; have : (10 : Int32).toInt = 10 := qI_10; omega
          refine lv_iload_n hx hb dX8_falling_54 rfl (lv_at hl 1 rfl) ?_
          have hpost : (y5 : Int32) = if hmO N B f1 f2 f3 f4 f5 f6 (nI i) = 0 then 0 else faF (F i) (E (i + 1)) 9 := by
            rw [if_neg (by first | with_reducible assumption | assumption), hinv, show j4 - 1 = 9 by (have t_c3 := neI c3; have t_hj8 := hj8; have t_hlo_j4 := hlo_j4; have t_n10 := n10; have : (0 : Int32).toInt = 0 := qI_0; have tnb_ := nib5 tn2492_ tn2489_ tn2490_ tn2491_ tn2493_; have lz0 : (0 : Int32).toInt = 0 := qI_0; have lz1 : (1 : Int32).toInt = 1 := qI_1; have lz2 : (2 : Int32).toInt = 2 := qI_2; have lz3 : (3 : Int32).toInt = 3 := qI_3; have lz5 : (5 : Int32).toInt = 5 := qI_5; have lz9 : (9 : Int32).toInt = 9 := qI_9; omega)]
          refine W.widen (k := 0) (n := 0) (Nat.le_of_ble_eq_true rfl) (Nat.le_of_ble_eq_true rfl) ?_
          exact W.iret (v := y5) hx hb hr (fun t ht hW => ⟨⟨y5, (), rfl, ⟨hpost, trivial⟩, trivial⟩, hS.F ht⟩) hS.2.2 dX8_falling_55
        · skip
          have tn2494_ : nIT j4 := fun _ => nI_toInt (by first | omega | (have t := nleI c9; omega))
          have n11 : j4 < 10 := by have t := nleI c9; rw [show (nI (j4)).toInt = ((j4 : Nat) : Int) from tn2494_ ()] at t; have : (10 : Int32).toInt = 10 := qI_10; omega
          refine lv_iload_n hx hb dX8_falling_22 rfl (lv_at hl 1 rfl) ?_
          refine lv_aload_n hx hb dX8_falling_23 rfl (lv_at hl 2 rfl) ?_
          refine va_get (D := (dC, dI)) (ci := 8) (v := .ref ti) (C := RX8) (T := TX8) (N := 3) hx hb hg inG8 hown hK.1 hP 0 rfl rfl 1 (Nat.le_of_ble_eq_true rfl) (hg _ wt_260) (fun _ h9 => h9) rfl dX8_falling_24 ?_
          refine lv_iload_n hx hb dX8_falling_27 rfl (lv_at hl 4 rfl) ?_
          refine va_aldA hx hb hK.1 hP 1 4 rfl rfl (vp_in_nI (by first | omega | (have t_c3 := neI c3; have t_hj8 := hj8; have t_hlo_j4 := hlo_j4; have t_n11 := n11; have : (0 : Int32).toInt = 0 := qI_0; have tnb_ := nib5 tn2492_ tn2489_ tn2490_ tn2491_ tn2494_; omega)) (by decide)) dX8_falling_28 ?_
          refine lv_cgv (y := .ref (ri i)) (rowref (by first | omega | (have t_c3 := neI c3; have t_hj8 := hj8; have t_hlo_j4 := hlo_j4; have t_n11 := n11; have : (0 : Int32).toInt = 0 := qI_0; have tnb_ := nib5 tn2492_ tn2489_ tn2490_ tn2491_ tn2494_; omega)) (by decide)) ?_
          refine lv_iload hx hb dX8_falling_29 (lv_at hl 0 rfl) ?_
          refine va_iald hx hb hK.1 (blk_P (j := i) hP (by first | omega | (have t_c3 := neI c3; have t_hj8 := hj8; have t_hlo_j4 := hlo_j4; have t_n11 := n11; have : (0 : Int32).toInt = 0 := qI_0; have tnb_ := nib5 tn2492_ tn2489_ tn2490_ tn2491_ tn2494_; omega))) 0 0 rfl rfl (vp_in_nI (by first | omega | (have t_c3 := neI c3; have t_hj8 := hj8; have t_hlo_j4 := hlo_j4; have t_n11 := n11; have : (0 : Int32).toInt = 0 := qI_0; have tnb_ := nib5 tn2492_ tn2489_ tn2490_ tn2491_ tn2494_; omega)) (by decide)) dX8_falling_31 ?_
          refine lv_cg (y := F i j4) (by rw [nI_clamp (by first | omega | (have t_c3 := neI c3; have t_hj8 := hj8; have t_hlo_j4 := hlo_j4; have t_n11 := n11; have : (0 : Int32).toInt = 0 := qI_0; have tnb_ := nib5 tn2492_ tn2489_ tn2490_ tn2491_ tn2494_; omega))]) ?_
          refine lv_aload_n hx hb dX8_falling_32 rfl (lv_at hl 2 rfl) ?_
          refine va_get (D := (dC, dI)) (ci := 8) (v := .ref to) (C := RX8) (T := TX8) (N := 3) hx hb hg inG8 hown hK.1 hP 0 rfl rfl 2 (Nat.le_of_ble_eq_true rfl) (hg _ wt_261) (fun _ h9 => h9) rfl dX8_falling_33 ?_
          refine lv_iload_n hx hb dX8_falling_36 rfl (lv_at hl 4 rfl) ?_
          refine lv_iconst (v := 1) hx hb dX8_falling_37 rfl ?_
          refine lv_iadd hx hb dX8_falling_38 ?_
          refine lv_cg (y := nI (i + 1)) (by rw [show (1 : Int32) = nI 1 from rfl]; exact nI_add _ _) ?_
          refine va_aldA hx hb hK.1 hP 2 4 rfl rfl (vp_in_nI (by first | omega | (have t_c3 := neI c3; have t_hj8 := hj8; have t_hlo_j4 := hlo_j4; have t_n11 := n11; have : (0 : Int32).toInt = 0 := qI_0; have tnb_ := nib5 tn2492_ tn2489_ tn2490_ tn2491_ tn2494_; omega)) (by decide)) dX8_falling_39 ?_
          refine lv_cgv (y := .ref (ro (i + 1))) (rowref (by first | omega | (have t_c3 := neI c3; have t_hj8 := hj8; have t_hlo_j4 := hlo_j4; have t_n11 := n11; have : (0 : Int32).toInt = 0 := qI_0; have tnb_ := nib5 tn2492_ tn2489_ tn2490_ tn2491_ tn2494_; omega)) (by decide)) ?_
          refine lv_iload hx hb dX8_falling_40 (lv_at hl 0 rfl) ?_
          refine lv_iconst (v := 1) hx hb dX8_falling_42 rfl ?_
          refine lv_isub hx hb dX8_falling_43 ?_
          refine lv_cg (y := nI (j4 - 1)) (by rw [show (1 : Int32) = nI 1 from rfl]; exact pk_sub (by have t_c3 := neI c3; have t_hj8 := hj8; have t_hlo_j4 := hlo_j4; have t_n11 := n11; have : (0 : Int32).toInt = 0 := qI_0; have tnb_ := nib5 tn2492_ tn2489_ tn2490_ tn2491_ tn2494_; omega)) ?_
          refine va_iald hx hb hK.1 (blk_P2 (j := (i + 1)) hP (by first | omega | (have t_c3 := neI c3; have t_hj8 := hj8; have t_hlo_j4 := hlo_j4; have t_n11 := n11; have : (0 : Int32).toInt = 0 := qI_0; have tnb_ := nib5 tn2492_ tn2489_ tn2490_ tn2491_ tn2494_; omega))) 0 0 rfl rfl (vp_in_nI (by first | omega | (have t_c3 := neI c3; have t_hj8 := hj8; have t_hlo_j4 := hlo_j4; have t_n11 := n11; have : (0 : Int32).toInt = 0 := qI_0; have tnb_ := nib5 tn2492_ tn2489_ tn2490_ tn2491_ tn2494_; omega)) (by decide)) dX8_falling_44 ?_
          refine lv_cg (y := E (i + 1) (j4 - 1)) (by rw [nI_clamp (by first | omega | (have t_c3 := neI c3; have t_hj8 := hj8; have t_hlo_j4 := hlo_j4; have t_n11 := n11; have : (0 : Int32).toInt = 0 := qI_0; have tnb_ := nib5 tn2492_ tn2489_ tn2490_ tn2491_ tn2494_; omega))]) ?_
          refine lv_imul hx hb dX8_falling_45 ?_
          refine lv_iadd hx hb dX8_falling_46 ?_
          refine lv_istore_n (lv' := [(3, .int (y5 + ((F i j4) * (E (i + 1) (j4 - 1))))), (4, .int (nI j4)), (0, .ref h0), (1, .ref wy), (2, .int (nI i))]) hx hb dX8_falling_47 rfl hl (by decide) rfl (fun ls hl => ?_)
          refine lv_iinc (v := nI (j4 + 1)) (lv' := [(4, .int (nI (j4 + 1))), (3, .int (y5 + ((F i j4) * (E (i + 1) (j4 - 1))))), (0, .ref h0), (1, .ref wy), (2, .int (nI i))]) hx hb dX8_falling_48 hl (k := 1) rfl (by rw [show Int32.ofInt 1 = nI 1 from by decide]; exact nI_add _ _) (by decide) rfl (fun ls hl => ?_)
          refine lv_goto (tgt := 15) hx hb dX8_falling_51 rfl ?_
          exact ih15_6 (j4 + 1) (by omega) (by omega) (by omega) (y5 + ((F i j4) * (E (i + 1) (j4 - 1)))) _ _ (fa_s (by omega) hinv) hP hS ls (lv_sub hl [0, 1, 2, 3, 4] rfl)
    exact loop15_6 (10 + 1) 1 (by omega) (by omega) (by omega) 0 _ _ rfl hP hS ls (lv_sub hl [0, 1, 2, 3, 4] rfl)
  · skip
    refine lv_iconst (v := 0) hx hb dX8_falling_8 rfl ?_
    have hpost : (0 : Int32) = if hmO N B f1 f2 f3 f4 f5 f6 (nI i) = 0 then 0 else faF (F i) (E (i + 1)) 9 := by
      rw [if_pos (by first | with_reducible assumption | assumption)]
    refine W.widen (k := 0) (n := 0) (Nat.le_of_ble_eq_true rfl) (Nat.le_of_ble_eq_true rfl) ?_
    exact W.iret (v := 0) hx hb hr (fun t ht hW => ⟨⟨0, (), rfl, ⟨hpost, trivial⟩, trivial⟩, hS.F ht⟩) hS.2.2 dX8_falling_9

set_option maxHeartbeats 1000000 in
set_option maxRecDepth 100000 in
theorem c_X8_risingE (l : Launch) (dC : Nat → ClassId) (dI : Nat → Nat → Nat) (G : Nat → ClassId) (sz : Nat) (h0 ti to wy a1 a2 a3 a4 a5 a6 N B D i : Nat) (tt : Int32) (f1 f2 f3 f4 f5 f6 : Nat → Int32) (ri ro : Nat → Nat) (F E : Nat → Nat → Int32) (hN_N : N ≤ 10) (hB_B : B ≤ 6) (hD_D : 1 ≤ D ∧ D ≤ 9) (hi : i < 10) : Met l yX8_rising (Cond.code yX8_rising cX8_rising 5 (some .int) :: GT) ({ frames := 4, cells := 0, slots := 0, locals := 88 } : Room) (PcR [.ref h0, .ref wy, .int (nI i)] dC dI G (([(h0, .inr (8, [.int tt, .ref ti, .ref to])), (ti, .inl (G 4, 11, .inr (.inr (.inr (.inr (fun ir => if ir < 11 then some (ri ir) else none)))))), (to, .inl (G 4, 11, .inr (.inr (.inr (.inr (fun ir => if ir < 11 then some (ro ir) else none)))))), (wy, .inr (9, [.int (nI N), .int (nI B), .int (nI D), .ref a1, .ref a2, .ref a3, .ref a4, .ref a5, .ref a6])), (a1, .inl (G 0, 10, .inl f1)), (a2, .inl (G 0, 10, .inl f2)), (a3, .inl (G 0, 10, .inl f3)), (a4, .inl (G 0, 6, .inl f4)), (a5, .inl (G 0, 6, .inl f5)), (a6, .inl (G 0, 6, .inl f6))] : va_W) ++ ((((List.range 11).map (fun iq => (ri iq, .inl (G 0, 10, .inl (F iq))))) : va_W) ++ ((((List.range 11).map (fun iq => (ro iq, .inl (G 0, 10, .inl (E iq))))) : va_W) ++ []))) sz) (va_Qi (fun (r : Int32) (u : Unit) => match u with | _ => (r = if hmO N B f1 f2 f3 f4 f5 f6 (nI i) = 20 then 0 else riF (F i) (E (i + 1)) 9) ∧ True) (fun _ _ => True) (fun q : Nat => sz ≤ q)) 0 0 (fun q : Nat => sz ≤ q) := by
  have tn2495_ : nIT N := fun _ => nI_toInt (by omega)
  have tn2496_ : nIT B := fun _ => nI_toInt (by omega)
  have tn2497_ : nIT D := fun _ => nI_toInt (by omega)
  refine Met.ofW (cc := cX8_rising) (maxL := 5) (ret := (some .int)) (by decide) rfl ?_
  intro p e s m args below meth c s₁ Bd hml hv
  obtain ⟨rfl, hsz, hP, hK⟩ := hv
  have hx := Bd.exec
  have hb := Bd.bytes
  have hr := Bd.returns
  have hg : ∀ w ∈ GT, w.before ([.ref h0, .ref wy, .int (nI i)] : List Value).toArray s = true := fun w h => atoms_spec (ws := Cond.code yX8_rising cX8_rising 5 (some .int) :: GT) Bd.pre w (List.mem_cons_of_mem _ h)
  have hown : s.vm.findClass RX8 = some m.cls := findClass_of_methodNamed Bd.named
  have hlocks := Bd.notSynchronized
  subst hsz
  have hA : ∀ q : Nat, s.heap.size ≤ q → (fun q : Nat => s.heap.size ≤ q) q := fun _ h => h
  have hS : va_S (fun q : Nat => s.heap.size ≤ q) s.heap s.heap [] := va_S.rf
  have hl := lv_entry ([.ref h0, .ref wy, .int (nI i)]) (n := 5) (Nat.le_of_ble_eq_true rfl)
  rw [lg_entry_eq]
  generalize (lg_sl ([.ref h0, .ref wy, .int (nI i)]) ++ List.replicate (5 - (lg_sl ([.ref h0, .ref wy, .int (nI i)])).length) Slot.unset).toArray = ls at hl ⊢
  have hl : lv_has ls 5 [(0, .ref h0), (1, .ref wy), (2, .int (nI i))] := hl
  refine lv_aload_n hx hb dX8_rising_0 rfl (lv_at hl 1 rfl) ?_
  refine lv_iload_n hx hb dX8_rising_1 rfl (lv_at hl 2 rfl) ?_
  have hPc := hP.sub (ws' := [(wy, .inr (9, [.int (nI N), .int (nI B), .int (nI D), .ref a1, .ref a2, .ref a3, .ref a4, .ref a5, .ref a6])), (a1, .inl (G 0, 10, .inl f1)), (a2, .inl (G 0, 10, .inl f2)), (a3, .inl (G 0, 10, .inl f3)), (a4, .inl (G 0, 6, .inl f4)), (a5, .inl (G 0, 6, .inl f5)), (a6, .inl (G 0, 6, .inl f6))]) [3, 4, 5, 6, 7, 8, 9] rfl
  have tn2498_ : nIT i := fun _ => nI_toInt (by omega)
  refine va_calli (va_runVN (As := [.int (nI i)]) (rest := []) ⟨hx, hb, hml, hown, hg⟩ (c_X9_harmInOrder l dC dI G _ wy a1 a2 a3 a4 a5 a6 N B D (nI i) f1 f2 f3 f4 f5 f6 hN_N hB_B hD_D) (kwVN hg hK mfX9_harmInOrder wn_771 ⟨Nat.le_of_ble_eq_true rfl, Nat.le_of_ble_eq_true rfl⟩) (preVR hK hPc (ci := 9) (r := (RX9, TX9, 9)) rfl rfl) rfl rfl hl.1 rfl (lv_room (Nat.le_of_ble_eq_true rfl)) dX8_rising_2 ⟨Nat.le_of_ble_eq_true rfl, Nat.le_of_ble_eq_true rfl⟩) hS (fun q h1 h2 => absurd h2 (Nat.not_le.mpr h1)) (fun q h => hA q (Nat.le_trans hS.1 h)) (fun r1 ur1 t H1 locs ht hvm w2 hB hz1 hk1 hS => ?_)
  have hP := keepR hP hk1
  obtain ⟨w2, w2x⟩ := w2
  subst w2
  refine lv_bipush (v := 20) hx hb dX8_rising_5 rfl ?_
  refine lv_icmp_ne (tgt := 12) hx hb dX8_rising_7 rfl (fun c3 => ?_) (fun c3 => ?_)
  · skip
    refine lv_iconst (v := 0) hx hb dX8_rising_12 rfl ?_
    refine lv_istore_n (lv' := [(3, .int 0), (0, .ref h0), (1, .ref wy), (2, .int (nI i))]) hx hb dX8_rising_13 rfl hl (by decide) rfl (fun ls hl => ?_)
    refine lv_iconst (v := 1) hx hb dX8_rising_14 rfl ?_
    refine lv_istore (lv' := [(4, .int 1), (3, .int 0), (0, .ref h0), (1, .ref wy), (2, .int (nI i))]) hx hb dX8_rising_15 hl (by decide) rfl (fun ls hl => ?_)
    have loop17_6 : ∀ (nf j4 : Nat), 10 + 1 ≤ j4 + nf → j4 ≤ 10 → 1 ≤ j4 → ∀ (y5 : Int32) (H : Heap) (locs : List Loc), y5 = riF (F i) (E (i + 1)) (j4 - 1) → va_P (dC, dI) vwCl (([(h0, .inr (8, [.int tt, .ref ti, .ref to])), (ti, .inl (G 4, 11, .inr (.inr (.inr (.inr (fun ir => if ir < 11 then some (ri ir) else none)))))), (to, .inl (G 4, 11, .inr (.inr (.inr (.inr (fun ir => if ir < 11 then some (ro ir) else none)))))), (wy, .inr (9, [.int (nI N), .int (nI B), .int (nI D), .ref a1, .ref a2, .ref a3, .ref a4, .ref a5, .ref a6])), (a1, .inl (G 0, 10, .inl f1)), (a2, .inl (G 0, 10, .inl f2)), (a3, .inl (G 0, 10, .inl f3)), (a4, .inl (G 0, 6, .inl f4)), (a5, .inl (G 0, 6, .inl f5)), (a6, .inl (G 0, 6, .inl f6))] : va_W) ++ ((((List.range 11).map (fun iq => (ri iq, .inl (G 0, 10, .inl (F iq))))) : va_W) ++ ((((List.range 11).map (fun iq => (ro iq, .inl (G 0, 10, .inl (E iq))))) : va_W) ++ []))) H → va_S (fun q : Nat => s.heap.size ≤ q) s.heap H locs → ∀ (ls : Array Slot), lv_has ls 5 [(4, .int (nI j4)), (3, .int y5), (0, .ref h0), (1, .ref wy), (2, .int (nI i))] → W p l e (headSpec (Cond.code yX8_rising cX8_rising 5 (some .int) :: GT) ({ frames := 4, cells := 0, slots := 0, locals := 88 } : Room)).room s m ([.ref h0, .ref wy, .int (nI i)] : List Value).toArray below meth c H locs 0 0 (MQ below (va_Qi (fun (r : Int32) (u : Unit) => match u with | _ => (r = if hmO N B f1 f2 f3 f4 f5 f6 (nI i) = 20 then 0 else riF (F i) (E (i + 1)) 9) ∧ True) (fun _ _ => True) (fun q : Nat => s.heap.size ≤ q)) ([.ref h0, .ref wy, .int (nI i)] : List Value).toArray s 0 0 (fun q : Nat => s.heap.size ≤ q)) (F0 m 17 ls []) := by
      intro nf
      induction nf with
      | zero => intro j4 h1 h2; exact absurd h1 (by omega)
      | succ nf ih17_6 =>
        intro j4 hn7 hj8 hlo_j4 y5 H locs hinv hP hS ls hl
        refine lv_iload hx hb dX8_rising_17 (lv_at hl 0 rfl) ?_
        refine lv_bipush (v := 10) hx hb dX8_rising_19 rfl ?_
        refine lv_icmp_ge (tgt := 61) hx hb dX8_rising_21 rfl (fun c9 => ?_) (fun c9 => ?_)
        · skip
          have tn2499_ : nIT j4 := fun _ => nI_toInt (by first | omega | (have t := leI c9; omega))
          have n10 : 10 ≤ j4 := by have t := leI c9; rw [show (nI (j4)).toInt = ((j4 : Nat) : Int) from tn2499_ ()] at t; have : (10 : Int32).toInt = 10 := qI_10; omega
          refine lv_iload_n hx hb dX8_rising_61 rfl (lv_at hl 1 rfl) ?_
          have hpost : (y5 : Int32) = if hmO N B f1 f2 f3 f4 f5 f6 (nI i) = 20 then 0 else riF (F i) (E (i + 1)) 9 := by
            rw [if_neg (by first | with_reducible assumption | assumption), hinv, show j4 - 1 = 9 by (have t_c3 := neI c3; have t_hj8 := hj8; have t_hlo_j4 := hlo_j4; have t_n10 := n10; have : (20 : Int32).toInt = 20 := qI_20; have tnb_ := nib5 tn2498_ tn2495_ tn2496_ tn2497_ tn2499_; have lz0 : (0 : Int32).toInt = 0 := qI_0; have lz1 : (1 : Int32).toInt = 1 := qI_1; have lz2 : (2 : Int32).toInt = 2 := qI_2; have lz3 : (3 : Int32).toInt = 3 := qI_3; have lz5 : (5 : Int32).toInt = 5 := qI_5; have lz9 : (9 : Int32).toInt = 9 := qI_9; omega)]
          refine W.widen (k := 0) (n := 0) (Nat.le_of_ble_eq_true rfl) (Nat.le_of_ble_eq_true rfl) ?_
          exact W.iret (v := y5) hx hb hr (fun t ht hW => ⟨⟨y5, (), rfl, ⟨hpost, trivial⟩, trivial⟩, hS.F ht⟩) hS.2.2 dX8_rising_62
        · skip
          have tn2500_ : nIT j4 := fun _ => nI_toInt (by first | omega | (have t := nleI c9; omega))
          have n11 : j4 < 10 := by have t := nleI c9; rw [show (nI (j4)).toInt = ((j4 : Nat) : Int) from tn2500_ ()] at t; have : (10 : Int32).toInt = 10 := qI_10; omega
          refine lv_iload_n hx hb dX8_rising_24 rfl (lv_at hl 1 rfl) ?_
          refine lv_aload_n hx hb dX8_rising_25 rfl (lv_at hl 2 rfl) ?_
          refine va_get (D := (dC, dI)) (ci := 8) (v := .ref ti) (C := RX8) (T := TX8) (N := 3) hx hb hg inG8 hown hK.1 hP 0 rfl rfl 1 (Nat.le_of_ble_eq_true rfl) (hg _ wt_260) (fun _ h9 => h9) rfl dX8_rising_26 ?_
          refine lv_iload_n hx hb dX8_rising_29 rfl (lv_at hl 4 rfl) ?_
          refine va_aldA hx hb hK.1 hP 1 4 rfl rfl (vp_in_nI (by first | omega | (have t_c3 := neI c3; have t_hj8 := hj8; have t_hlo_j4 := hlo_j4; have t_n11 := n11; have : (20 : Int32).toInt = 20 := qI_20; have tnb_ := nib5 tn2498_ tn2495_ tn2496_ tn2497_ tn2500_; omega)) (by decide)) dX8_rising_30 ?_
          refine lv_cgv (y := .ref (ri i)) (rowref (by first | omega | (have t_c3 := neI c3; have t_hj8 := hj8; have t_hlo_j4 := hlo_j4; have t_n11 := n11; have : (20 : Int32).toInt = 20 := qI_20; have tnb_ := nib5 tn2498_ tn2495_ tn2496_ tn2497_ tn2500_; omega)) (by decide)) ?_
          refine lv_iload hx hb dX8_rising_31 (lv_at hl 0 rfl) ?_
          refine va_iald hx hb hK.1 (blk_P (j := i) hP (by first | omega | (have t_c3 := neI c3; have t_hj8 := hj8; have t_hlo_j4 := hlo_j4; have t_n11 := n11; have : (20 : Int32).toInt = 20 := qI_20; have tnb_ := nib5 tn2498_ tn2495_ tn2496_ tn2497_ tn2500_; omega))) 0 0 rfl rfl (vp_in_nI (by first | omega | (have t_c3 := neI c3; have t_hj8 := hj8; have t_hlo_j4 := hlo_j4; have t_n11 := n11; have : (20 : Int32).toInt = 20 := qI_20; have tnb_ := nib5 tn2498_ tn2495_ tn2496_ tn2497_ tn2500_; omega)) (by decide)) dX8_rising_33 ?_
          refine lv_cg (y := F i j4) (by rw [nI_clamp (by first | omega | (have t_c3 := neI c3; have t_hj8 := hj8; have t_hlo_j4 := hlo_j4; have t_n11 := n11; have : (20 : Int32).toInt = 20 := qI_20; have tnb_ := nib5 tn2498_ tn2495_ tn2496_ tn2497_ tn2500_; omega))]) ?_
          refine lv_aload_n hx hb dX8_rising_34 rfl (lv_at hl 2 rfl) ?_
          refine va_get (D := (dC, dI)) (ci := 8) (v := .ref to) (C := RX8) (T := TX8) (N := 3) hx hb hg inG8 hown hK.1 hP 0 rfl rfl 2 (Nat.le_of_ble_eq_true rfl) (hg _ wt_261) (fun _ h9 => h9) rfl dX8_rising_35 ?_
          refine lv_iload_n hx hb dX8_rising_38 rfl (lv_at hl 4 rfl) ?_
          refine lv_iconst (v := 1) hx hb dX8_rising_39 rfl ?_
          refine lv_iadd hx hb dX8_rising_40 ?_
          refine lv_cg (y := nI (i + 1)) (by rw [show (1 : Int32) = nI 1 from rfl]; exact nI_add _ _) ?_
          refine va_aldA hx hb hK.1 hP 2 4 rfl rfl (vp_in_nI (by first | omega | (have t_c3 := neI c3; have t_hj8 := hj8; have t_hlo_j4 := hlo_j4; have t_n11 := n11; have : (20 : Int32).toInt = 20 := qI_20; have tnb_ := nib5 tn2498_ tn2495_ tn2496_ tn2497_ tn2500_; omega)) (by decide)) dX8_rising_41 ?_
          refine lv_cgv (y := .ref (ro (i + 1))) (rowref (by first | omega | (have t_c3 := neI c3; have t_hj8 := hj8; have t_hlo_j4 := hlo_j4; have t_n11 := n11; have : (20 : Int32).toInt = 20 := qI_20; have tnb_ := nib5 tn2498_ tn2495_ tn2496_ tn2497_ tn2500_; omega)) (by decide)) ?_
          refine lv_bipush (v := 9) hx hb dX8_rising_42 rfl ?_
          refine lv_iload hx hb dX8_rising_44 (lv_at hl 0 rfl) ?_
          refine lv_iconst (v := 1) hx hb dX8_rising_46 rfl ?_
          refine lv_iadd hx hb dX8_rising_47 ?_
          refine lv_cg (y := nI (j4 + 1)) (by rw [show (1 : Int32) = nI 1 from rfl]; exact nI_add _ _) ?_
          have hPc := hP.sub (ws' := []) [] rfl
          refine va_calli (va_runS (As := [.int 9, .int (nI (j4 + 1))]) (rest := [.ref (ro (i + 1)), .int (F i j4), .int y5]) ⟨hx, hb, hml, hown, hg⟩ (c_J9_min l dC dI G _ 9 (nI (j4 + 1))) (kwS hg mfJ9_min_7cf53 wt_776 ⟨Nat.le_of_ble_eq_true rfl, Nat.le_of_ble_eq_true rfl⟩) (preSR hK hPc) rfl rfl hl.1 rfl (lv_room (Nat.le_of_ble_eq_true rfl)) dX8_rising_48 ⟨Nat.le_of_ble_eq_true rfl, Nat.le_of_ble_eq_true rfl⟩) hS (fun q h1 h2 => absurd h2 (Nat.not_le.mpr h1)) (fun q h => hA q (Nat.le_trans hS.1 h)) (fun r12 ur12 t H1 locs ht hvm w13 hB hz1 hk1 hS => ?_)
          have hP := keepR hP hk1
          obtain ⟨w13, w13x⟩ := w13
          have w13 : r12 = nI (min 9 (j4 + 1)) := w13.trans (mn_nI (a := 9) (b := (j4 + 1)) (by omega) (by omega))
          subst w13
          refine va_iald hx hb hK.1 (blk_P2 (j := (i + 1)) hP (by first | omega | (have t_c3 := neI c3; have t_hj8 := hj8; have t_hlo_j4 := hlo_j4; have t_n11 := n11; have : (20 : Int32).toInt = 20 := qI_20; have tnb_ := nib5 tn2498_ tn2495_ tn2496_ tn2497_ tn2500_; omega))) 0 0 rfl rfl (vp_in_nI (by first | omega | (have t_c3 := neI c3; have t_hj8 := hj8; have t_hlo_j4 := hlo_j4; have t_n11 := n11; have : (20 : Int32).toInt = 20 := qI_20; have tnb_ := nib5 tn2498_ tn2495_ tn2496_ tn2497_ tn2500_; omega)) (by decide)) dX8_rising_51 ?_
          refine lv_cg (y := E (i + 1) (min 9 (j4 + 1))) (by rw [nI_clamp (by first | omega | (have t_c3 := neI c3; have t_hj8 := hj8; have t_hlo_j4 := hlo_j4; have t_n11 := n11; have : (20 : Int32).toInt = 20 := qI_20; have tnb_ := nib5 tn2498_ tn2495_ tn2496_ tn2497_ tn2500_; omega))]) ?_
          refine lv_imul hx hb dX8_rising_52 ?_
          refine lv_iadd hx hb dX8_rising_53 ?_
          refine lv_istore_n (lv' := [(3, .int (y5 + ((F i j4) * (E (i + 1) (min 9 (j4 + 1)))))), (4, .int (nI j4)), (0, .ref h0), (1, .ref wy), (2, .int (nI i))]) hx hb dX8_rising_54 rfl hl (by decide) rfl (fun ls hl => ?_)
          refine lv_iinc (v := nI (j4 + 1)) (lv' := [(4, .int (nI (j4 + 1))), (3, .int (y5 + ((F i j4) * (E (i + 1) (min 9 (j4 + 1)))))), (0, .ref h0), (1, .ref wy), (2, .int (nI i))]) hx hb dX8_rising_55 hl (k := 1) rfl (by rw [show Int32.ofInt 1 = nI 1 from by decide]; exact nI_add _ _) (by decide) rfl (fun ls hl => ?_)
          refine lv_goto (tgt := 17) hx hb dX8_rising_58 rfl ?_
          exact ih17_6 (j4 + 1) (by omega) (by omega) (by omega) (y5 + ((F i j4) * (E (i + 1) (min 9 (j4 + 1))))) _ _ (ri_s (by omega) hinv) hP hS ls (lv_sub hl [0, 1, 2, 3, 4] rfl)
    exact loop17_6 (10 + 1) 1 (by omega) (by omega) (by omega) 0 _ _ rfl hP hS ls (lv_sub hl [0, 1, 2, 3, 4] rfl)
  · skip
    refine lv_iconst (v := 0) hx hb dX8_rising_10 rfl ?_
    have hpost : (0 : Int32) = if hmO N B f1 f2 f3 f4 f5 f6 (nI i) = 20 then 0 else riF (F i) (E (i + 1)) 9 := by
      rw [if_pos (by first | with_reducible assumption | assumption)]
    refine W.widen (k := 0) (n := 0) (Nat.le_of_ble_eq_true rfl) (Nat.le_of_ble_eq_true rfl) ?_
    exact W.iret (v := 0) hx hb hr (fun t ht hW => ⟨⟨0, (), rfl, ⟨hpost, trivial⟩, trivial⟩, hS.F ht⟩) hS.2.2 dX8_rising_11
