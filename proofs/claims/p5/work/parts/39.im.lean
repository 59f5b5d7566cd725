set_option maxHeartbeats 1000000 in
set_option maxRecDepth 100000 in
theorem c_X11_init (l : Launch) (dC : Nat → ClassId) (dI : Nat → Nat → Nat) (G : Nat → ClassId) (sz : Nat) (h0 : Nat)  : Met l yX11_init (Cond.code yX11_init cX11_init 1 none :: GT) ({ frames := 1, cells := 16, slots := 1854, locals := 24 } : Room) (PcW [.ref h0] dC dI G [(h0, .inr (11, [.null, .int 0, .int 0, .null, .int 0, .int 0, .int 0, .int 0, .int 0, .int 0, .null, .int 0, .int 0, .int 0, .int 0, .int 0, .int 0, .int 0, .int 0, .null, .null, .null, .null, .null, .null, .int 0, .null, .int 0, .null, .null, .null, .null, .null, .null, .int 0]))] sz) (va_Qv (fun (u : (Nat → Nat) × (Nat → Int32)) => match u with | (v, fl) => ∀ q : Nat, q < 54 → fl q = letL.getD q 0) (fun (u : (Nat → Nat) × (Nat → Int32)) (t : State) => match u with | (v, fl) => va_P (dC, dI) vwCl [(h0, .inr (11, [.ref (v 0), .int 0, .int 0, .ref (v 1), .int 0, .int 0, .int 0, .int 0, .int 0, .int 0, .ref (v 2), .int 0, .int 0, .int 0, .int 0, .int 0, .int 0, .int 0, .int 0, .ref (v 3), .ref (v 4), .ref (v 5), .ref (v 6), .ref (v 7), .ref (v 8), .int 0, .ref (v 9), .int 0, .ref (v 10), .ref (v 11), .ref (v 12), .ref (v 13), .ref (v 14), .ref (v 15), .int 0])), ((v 0), .inl (G 0, 196, .inl (fun _ => 0))), ((v 1), .inl (G 0, 49, .inl (fun _ => 0))), ((v 2), .inl (G 0, 320, .inl (fun _ => 0))), ((v 3), .inl (G 0, 11, .inl (upd (upd (upd (upd (upd (upd (upd (upd (upd (upd (upd (fun _ => 0) 0 0) 1 5) 2 12) 3 18) 4 23) 5 28) 6 34) 7 42) 8 46) 9 50) 10 54))), ((v 4), .inl (G 0, 54, .inl fl)), ((v 5), .inl (G 1, 10, .inr (.inl (fun _ => 0)))), ((v 6), .inl (G 1, 10, .inr (.inl (fun _ => 0)))), ((v 7), .inl (G 1, 770, .inr (.inl (fun _ => 0)))), ((v 8), .inl (G 0, 32, .inl (fun _ => 0))), ((v 9), .inl (G 0, 12, .inl (fun _ => 0))), ((v 10), .inl (G 0, 110, .inl (fun _ => 0))), ((v 11), .inl (G 0, 110, .inl (fun _ => 0))), ((v 12), .inl (G 2, 2, .inl (fun _ => 0))), ((v 13), .inl (G 0, 4, .inl (upd (upd (upd (upd (fun _ => 0) 0 (-4)) 1 (-4)) 2 (-4)) 3 (-4)))), ((v 14), .inl (G 0, 4, .inl (fun _ => 0))), ((v 15), .inl (G 0, 160, .inl (fun _ => 0)))] t.heap ∧ va_D (va_A [(h0, .inr (11, [.null, .int 0, .int 0, .null, .int 0, .int 0, .int 0, .int 0, .int 0, .int 0, .null, .int 0, .int 0, .int 0, .int 0, .int 0, .int 0, .int 0, .int 0, .null, .null, .null, .null, .null, .null, .int 0, .null, .int 0, .null, .null, .null, .null, .null, .null, .int 0]))] sz) [(h0, .inr (11, [.ref (v 0), .int 0, .int 0, .ref (v 1), .int 0, .int 0, .int 0, .int 0, .int 0, .int 0, .ref (v 2), .int 0, .int 0, .int 0, .int 0, .int 0, .int 0, .int 0, .int 0, .ref (v 3), .ref (v 4), .ref (v 5), .ref (v 6), .ref (v 7), .ref (v 8), .int 0, .ref (v 9), .int 0, .ref (v 10), .ref (v 11), .ref (v 12), .ref (v 13), .ref (v 14), .ref (v 15), .int 0])), ((v 0), .inl (G 0, 196, .inl (fun _ => 0))), ((v 1), .inl (G 0, 49, .inl (fun _ => 0))), ((v 2), .inl (G 0, 320, .inl (fun _ => 0))), ((v 3), .inl (G 0, 11, .inl (upd (upd (upd (upd (upd (upd (upd (upd (upd (upd (upd (fun _ => 0) 0 0) 1 5) 2 12) 3 18) 4 23) 5 28) 6 34) 7 42) 8 46) 9 50) 10 54))), ((v 4), .inl (G 0, 54, .inl fl)), ((v 5), .inl (G 1, 10, .inr (.inl (fun _ => 0)))), ((v 6), .inl (G 1, 10, .inr (.inl (fun _ => 0)))), ((v 7), .inl (G 1, 770, .inr (.inl (fun _ => 0)))), ((v 8), .inl (G 0, 32, .inl (fun _ => 0))), ((v 9), .inl (G 0, 12, .inl (fun _ => 0))), ((v 10), .inl (G 0, 110, .inl (fun _ => 0))), ((v 11), .inl (G 0, 110, .inl (fun _ => 0))), ((v 12), .inl (G 2, 2, .inl (fun _ => 0))), ((v 13), .inl (G 0, 4, .inl (upd (upd (upd (upd (fun _ => 0) 0 (-4)) 1 (-4)) 2 (-4)) 3 (-4)))), ((v 14), .inl (G 0, 4, .inl (fun _ => 0))), ((v 15), .inl (G 0, 160, .inl (fun _ => 0)))]) (va_A [(h0, .inr (11, [.null, .int 0, .int 0, .null, .int 0, .int 0, .int 0, .int 0, .int 0, .int 0, .null, .int 0, .int 0, .int 0, .int 0, .int 0, .int 0, .int 0, .int 0, .null, .null, .null, .null, .null, .null, .int 0, .null, .int 0, .null, .null, .null, .null, .null, .null, .int 0]))] sz)) 16 1854 (va_A [(h0, .inr (11, [.null, .int 0, .int 0, .null, .int 0, .int 0, .int 0, .int 0, .int 0, .int 0, .null, .int 0, .int 0, .int 0, .int 0, .int 0, .int 0, .int 0, .int 0, .null, .null, .null, .null, .null, .null, .int 0, .null, .int 0, .null, .null, .null, .null, .null, .null, .int 0]))] sz) := by
  refine Met.ofW (cc := cX11_init) (maxL := 1) (ret := none) (by decide) rfl ?_
  intro p e s m args below meth c s₁ Bd hml hv
  obtain ⟨rfl, hsz, hP, hK, hD0⟩ := hv
  have hx := Bd.exec
  have hb := Bd.bytes
  have hr := Bd.returns
  have hg : ∀ w ∈ GT, w.before ([.ref h0] : List Value).toArray s = true := fun w h => atoms_spec (ws := Cond.code yX11_init cX11_init 1 none :: GT) Bd.pre w (List.mem_cons_of_mem _ h)
  have hown : s.vm.findClass RX11 = some m.cls := findClass_of_methodNamed Bd.named
  have hlocks := Bd.notSynchronized
  have hin : meth.name = "<init>" := (name_of_methodNamed Bd.named Bd.method).1
  subst hsz
  have hD := hD0.self (sz := s.heap.size)
  generalize hAe : va_A [(h0, .inr (11, [.null, .int 0, .int 0, .null, .int 0, .int 0, .int 0, .int 0, .int 0, .int 0, .null, .int 0, .int 0, .int 0, .int 0, .int 0, .int 0, .int 0, .int 0, .null, .null, .null, .null, .null, .null, .int 0, .null, .int 0, .null, .null, .null, .null, .null, .null, .int 0]))] s.heap.size = A at hD ⊢
  have hA : ∀ q : Nat, s.heap.size ≤ q → A q := fun q h => by rw [← hAe]; exact Or.inr h
  have hS : va_S A s.heap s.heap [] := va_S.rf
  have hl := lv_entry ([.ref h0]) (n := 1) (Nat.le_of_ble_eq_true rfl)
  rw [lg_entry_eq]
  generalize (lg_sl ([.ref h0]) ++ List.replicate (1 - (lg_sl ([.ref h0])).length) Slot.unset).toArray = ls at hl ⊢
  have hl : lv_has ls 1 [(0, .ref h0)] := hl
  refine lv_aload_n hx hb dX11_init_0 rfl (lv_at hl 0 rfl) ?_
  refine W.objInit hx hb hown (hg _ wt_877) (hg _ wt_26) (hg _ wt_27) rfl (by rw [hml]; exact hl.1) rfl dX11_init_1 (Nat.le_of_ble_eq_true rfl) (Nat.le_of_ble_eq_true rfl) ?_
  refine W.eq (g2 := F0 m 4 ls []) rfl ?_
  refine lv_aload_n hx hb dX11_init_4 rfl (lv_at hl 0 rfl) ?_
  refine lv_sipush (v := 196) hx hb dX11_init_5 (by decide) ?_
  refine va_newa (atype := .int) (N' := 196) (a0 := (196, .inl (fun _ => 0))) hx hb (hg _ wt_49) rfl hK.1 hP hD hS hA (fun _ => rfl) (by decide) (by decide) (by decide) (Nat.le_of_ble_eq_true rfl) (Nat.le_of_ble_eq_true rfl) dX11_init_8 (fun q1 cA H hK9 hP hD hS => ?_)
  obtain rfl := uniA hK9 0 rfl
  have hP : va_P (dC, dI) vwCl [(h0, .inr (11, [.null, .int 0, .int 0, .null, .int 0, .int 0, .int 0, .int 0, .int 0, .int 0, .null, .int 0, .int 0, .int 0, .int 0, .int 0, .int 0, .int 0, .int 0, .null, .null, .null, .null, .null, .null, .int 0, .null, .int 0, .null, .null, .null, .null, .null, .null, .int 0])), (q1, .inl (G 0, 196, .inl (fun _ => 0)))] H := hP
  have hD : va_D A [(h0, .inr (11, [.null, .int 0, .int 0, .null, .int 0, .int 0, .int 0, .int 0, .int 0, .int 0, .null, .int 0, .int 0, .int 0, .int 0, .int 0, .int 0, .int 0, .int 0, .null, .null, .null, .null, .null, .null, .int 0, .null, .int 0, .null, .null, .null, .null, .null, .null, .int 0])), (q1, .inl (G 0, 196, .inl (fun _ => 0)))] := hD
  refine W.widen (k := 1) (n := 196) (by omega) (by omega) ?_
  refine va_putF (D := (dC, dI)) (ci := 11) (v := .ref q1) (ty := (.array .int)) (C := RX11) (T := TX11) (N := 35) hx hb hg inG11 tyX11 tyX11_ok nmX11 hown hK.1 hP hD hS 0 rfl rfl 0 (by decide) (hg _ wt_878) (fun _ h9 => h9) rfl hin rfl (by decide +kernel) rfl rfl (Nat.le_of_ble_eq_true rfl) dX11_init_10 (fun H locs hP hD hS => ?_)
  have hP : va_P (dC, dI) vwCl [(h0, .inr (11, [.ref q1, .int 0, .int 0, .null, .int 0, .int 0, .int 0, .int 0, .int 0, .int 0, .null, .int 0, .int 0, .int 0, .int 0, .int 0, .int 0, .int 0, .int 0, .null, .null, .null, .null, .null, .null, .int 0, .null, .int 0, .null, .null, .null, .null, .null, .null, .int 0])), (q1, .inl (G 0, 196, .inl (fun _ => 0)))] H := hP
  have hD : va_D A [(h0, .inr (11, [.ref q1, .int 0, .int 0, .null, .int 0, .int 0, .int 0, .int 0, .int 0, .int 0, .null, .int 0, .int 0, .int 0, .int 0, .int 0, .int 0, .int 0, .int 0, .null, .null, .null, .null, .null, .null, .int 0, .null, .int 0, .null, .null, .null, .null, .null, .null, .int 0])), (q1, .inl (G 0, 196, .inl (fun _ => 0)))] := hD
  refine lv_aload_n hx hb dX11_init_13 rfl (lv_at hl 0 rfl) ?_
  refine lv_bipush (v := 49) hx hb dX11_init_14 (by decide) ?_
  refine va_newa (atype := .int) (N' := 49) (a0 := (49, .inl (fun _ => 0))) hx hb (hg _ wt_49) rfl hK.1 hP hD hS hA (fun _ => rfl) (by decide) (by decide) (by decide) (Nat.le_of_ble_eq_true rfl) (Nat.le_of_ble_eq_true rfl) dX11_init_16 (fun q2 cA H hK9 hP hD hS => ?_)
  obtain rfl := uniA hK9 0 rfl
  have hP : va_P (dC, dI) vwCl [(h0, .inr (11, [.ref q1, .int 0, .int 0, .null, .int 0, .int 0, .int 0, .int 0, .int 0, .int 0, .null, .int 0, .int 0, .int 0, .int 0, .int 0, .int 0, .int 0, .int 0, .null, .null, .null, .null, .null, .null, .int 0, .null, .int 0, .null, .null, .null, .null, .null, .null, .int 0])), (q1, .inl (G 0, 196, .inl (fun _ => 0))), (q2, .inl (G 0, 49, .inl (fun _ => 0)))] H := hP
  have hD : va_D A [(h0, .inr (11, [.ref q1, .int 0, .int 0, .null, .int 0, .int 0, .int 0, .int 0, .int 0, .int 0, .null, .int 0, .int 0, .int 0, .int 0, .int 0, .int 0, .int 0, .int 0, .null, .null, .null, .null, .null, .null, .int 0, .null, .int 0, .null, .null, .null, .null, .null, .null, .int 0])), (q1, .inl (G 0, 196, .inl (fun _ => 0))), (q2, .inl (G 0, 49, .inl (fun _ => 0)))] := hD
  refine W.widen (k := 2) (n := 245) (by omega) (by omega) ?_
  refine va_putF (D := (dC, dI)) (ci := 11) (v := .ref q2) (ty := (.array .int)) (C := RX11) (T := TX11) (N := 35) hx hb hg inG11 tyX11 tyX11_ok nmX11 hown hK.1 hP hD hS 0 rfl rfl 3 (by decide) (hg _ wt_881) (fun _ h9 => h9) rfl hin rfl (by decide +kernel) rfl rfl (Nat.le_of_ble_eq_true rfl) dX11_init_18 (fun H locs hP hD hS => ?_)
  have hP : va_P (dC, dI) vwCl [(h0, .inr (11, [.ref q1, .int 0, .int 0, .ref q2, .int 0, .int 0, .int 0, .int 0, .int 0, .int 0, .null, .int 0, .int 0, .int 0, .int 0, .int 0, .int 0, .int 0, .int 0, .null, .null, .null, .null, .null, .null, .int 0, .null, .int 0, .null, .null, .null, .null, .null, .null, .int 0])), (q1, .inl (G 0, 196, .inl (fun _ => 0))), (q2, .inl (G 0, 49, .inl (fun _ => 0)))] H := hP
  have hD : va_D A [(h0, .inr (11, [.ref q1, .int 0, .int 0, .ref q2, .int 0, .int 0, .int 0, .int 0, .int 0, .int 0, .null, .int 0, .int 0, .int 0, .int 0, .int 0, .int 0, .int 0, .int 0, .null, .null, .null, .null, .null, .null, .int 0, .null, .int 0, .null, .null, .null, .null, .null, .null, .int 0])), (q1, .inl (G 0, 196, .inl (fun _ => 0))), (q2, .inl (G 0, 49, .inl (fun _ => 0)))] := hD
  refine lv_aload_n hx hb dX11_init_21 rfl (lv_at hl 0 rfl) ?_
  refine lv_sipush (v := 320) hx hb dX11_init_22 (by decide) ?_
  refine va_newa (atype := .int) (N' := 320) (a0 := (320, .inl (fun _ => 0))) hx hb (hg _ wt_49) rfl hK.1 hP hD hS hA (fun _ => rfl) (by decide) (by decide) (by decide) (Nat.le_of_ble_eq_true rfl) (Nat.le_of_ble_eq_true rfl) dX11_init_25 (fun q3 cA H hK9 hP hD hS => ?_)
  obtain rfl := uniA hK9 0 rfl
  have hP : va_P (dC, dI) vwCl [(h0, .inr (11, [.ref q1, .int 0, .int 0, .ref q2, .int 0, .int 0, .int 0, .int 0, .int 0, .int 0, .null, .int 0, .int 0, .int 0, .int 0, .int 0, .int 0, .int 0, .int 0, .null, .null, .null, .null, .null, .null, .int 0, .null, .int 0, .null, .null, .null, .null, .null, .null, .int 0])), (q1, .inl (G 0, 196, .inl (fun _ => 0))), (q2, .inl (G 0, 49, .inl (fun _ => 0))), (q3, .inl (G 0, 320, .inl (fun _ => 0)))] H := hP
  have hD : va_D A [(h0, .inr (11, [.ref q1, .int 0, .int 0, .ref q2, .int 0, .int 0, .int 0, .int 0, .int 0, .int 0, .null, .int 0, .int 0, .int 0, .int 0, .int 0, .int 0, .int 0, .int 0, .null, .null, .null, .null, .null, .null, .int 0, .null, .int 0, .null, .null, .null, .null, .null, .null, .int 0])), (q1, .inl (G 0, 196, .inl (fun _ => 0))), (q2, .inl (G 0, 49, .inl (fun _ => 0))), (q3, .inl (G 0, 320, .inl (fun _ => 0)))] := hD
  refine W.widen (k := 3) (n := 565) (by omega) (by omega) ?_
  refine va_putF (D := (dC, dI)) (ci := 11) (v := .ref q3) (ty := (.array .int)) (C := RX11) (T := TX11) (N := 35) hx hb hg inG11 tyX11 tyX11_ok nmX11 hown hK.1 hP hD hS 0 rfl rfl 10 (by decide) (hg _ wt_888) (fun _ h9 => h9) rfl hin rfl (by decide +kernel) rfl rfl (Nat.le_of_ble_eq_true rfl) dX11_init_27 (fun H locs hP hD hS => ?_)
  have hP : va_P (dC, dI) vwCl [(h0, .inr (11, [.ref q1, .int 0, .int 0, .ref q2, .int 0, .int 0, .int 0, .int 0, .int 0, .int 0, .ref q3, .int 0, .int 0, .int 0, .int 0, .int 0, .int 0, .int 0, .int 0, .null, .null, .null, .null, .null, .null, .int 0, .null, .int 0, .null, .null, .null, .null, .null, .null, .int 0])), (q1, .inl (G 0, 196, .inl (fun _ => 0))), (q2, .inl (G 0, 49, .inl (fun _ => 0))), (q3, .inl (G 0, 320, .inl (fun _ => 0)))] H := hP
  have hD : va_D A [(h0, .inr (11, [.ref q1, .int 0, .int 0, .ref q2, .int 0, .int 0, .int 0, .int 0, .int 0, .int 0, .ref q3, .int 0, .int 0, .int 0, .int 0, .int 0, .int 0, .int 0, .int 0, .null, .null, .null, .null, .null, .null, .int 0, .null, .int 0, .null, .null, .null, .null, .null, .null, .int 0])), (q1, .inl (G 0, 196, .inl (fun _ => 0))), (q2, .inl (G 0, 49, .inl (fun _ => 0))), (q3, .inl (G 0, 320, .inl (fun _ => 0)))] := hD
  refine lv_aload_n hx hb dX11_init_30 rfl (lv_at hl 0 rfl) ?_
  refine lv_bipush (v := 11) hx hb dX11_init_31 (by decide) ?_
  refine va_newa (atype := .int) (N' := 11) (a0 := (11, .inl (fun _ => 0))) hx hb (hg _ wt_49) rfl hK.1 hP hD hS hA (fun _ => rfl) (by decide) (by decide) (by decide) (Nat.le_of_ble_eq_true rfl) (Nat.le_of_ble_eq_true rfl) dX11_init_33 (fun q4 cA H hK9 hP hD hS => ?_)
  obtain rfl := uniA hK9 0 rfl
  have hP : va_P (dC, dI) vwCl [(h0, .inr (11, [.ref q1, .int 0, .int 0, .ref q2, .int 0, .int 0, .int 0, .int 0, .int 0, .int 0, .ref q3, .int 0, .int 0, .int 0, .int 0, .int 0, .int 0, .int 0, .int 0, .null, .null, .null, .null, .null, .null, .int 0, .null, .int 0, .null, .null, .null, .null, .null, .null, .int 0])), (q1, .inl (G 0, 196, .inl (fun _ => 0))), (q2, .inl (G 0, 49, .inl (fun _ => 0))), (q3, .inl (G 0, 320, .inl (fun _ => 0))), (q4, .inl (G 0, 11, .inl (fun _ => 0)))] H := hP
  have hD : va_D A [(h0, .inr (11, [.ref q1, .int 0, .int 0, .ref q2, .int 0, .int 0, .int 0, .int 0, .int 0, .int 0, .ref q3, .int 0, .int 0, .int 0, .int 0, .int 0, .int 0, .int 0, .int 0, .null, .null, .null, .null, .null, .null, .int 0, .null, .int 0, .null, .null, .null, .null, .null, .null, .int 0])), (q1, .inl (G 0, 196, .inl (fun _ => 0))), (q2, .inl (G 0, 49, .inl (fun _ => 0))), (q3, .inl (G 0, 320, .inl (fun _ => 0))), (q4, .inl (G 0, 11, .inl (fun _ => 0)))] := hD
  refine W.widen (k := 4) (n := 576) (by omega) (by omega) ?_
  refine lv_dup hx hb dX11_init_35 rfl ?_
  refine lv_iconst (v := 0) hx hb dX11_init_36 (by decide) ?_
  refine lv_iconst (v := 0) hx hb dX11_init_37 (by decide) ?_
  refine va_iast hx hb hK.1 hP hD hS 4 0 rfl rfl (vp_in_iff.mpr ⟨by decide, by decide⟩) dX11_init_38 (fun H locs hP hD hS => ?_)
  have hP : va_P (dC, dI) vwCl [(h0, .inr (11, [.ref q1, .int 0, .int 0, .ref q2, .int 0, .int 0, .int 0, .int 0, .int 0, .int 0, .ref q3, .int 0, .int 0, .int 0, .int 0, .int 0, .int 0, .int 0, .int 0, .null, .null, .null, .null, .null, .null, .int 0, .null, .int 0, .null, .null, .null, .null, .null, .null, .int 0])), (q1, .inl (G 0, 196, .inl (fun _ => 0))), (q2, .inl (G 0, 49, .inl (fun _ => 0))), (q3, .inl (G 0, 320, .inl (fun _ => 0))), (q4, .inl (G 0, 11, .inl (upd (fun _ => 0) 0 0)))] H := hP
  have hD : va_D A [(h0, .inr (11, [.ref q1, .int 0, .int 0, .ref q2, .int 0, .int 0, .int 0, .int 0, .int 0, .int 0, .ref q3, .int 0, .int 0, .int 0, .int 0, .int 0, .int 0, .int 0, .int 0, .null, .null, .null, .null, .null, .null, .int 0, .null, .int 0, .null, .null, .null, .null, .null, .null, .int 0])), (q1, .inl (G 0, 196, .inl (fun _ => 0))), (q2, .inl (G 0, 49, .inl (fun _ => 0))), (q3, .inl (G 0, 320, .inl (fun _ => 0))), (q4, .inl (G 0, 11, .inl (upd (fun _ => 0) 0 0)))] := hD
  refine lv_dup hx hb dX11_init_39 rfl ?_
  refine lv_iconst (v := 1) hx hb dX11_init_40 (by decide) ?_
  refine lv_iconst (v := 5) hx hb dX11_init_41 (by decide) ?_
  refine va_iast hx hb hK.1 hP hD hS 4 0 rfl rfl (vp_in_iff.mpr ⟨by decide, by decide⟩) dX11_init_42 (fun H locs hP hD hS => ?_)
  have hP : va_P (dC, dI) vwCl [(h0, .inr (11, [.ref q1, .int 0, .int 0, .ref q2, .int 0, .int 0, .int 0, .int 0, .int 0, .int 0, .ref q3, .int 0, .int 0, .int 0, .int 0, .int 0, .int 0, .int 0, .int 0, .null, .null, .null, .null, .null, .null, .int 0, .null, .int 0, .null, .null, .null, .null, .null, .null, .int 0])), (q1, .inl (G 0, 196, .inl (fun _ => 0))), (q2, .inl (G 0, 49, .inl (fun _ => 0))), (q3, .inl (G 0, 320, .inl (fun _ => 0))), (q4, .inl (G 0, 11, .inl (upd (upd (fun _ => 0) 0 0) 1 5)))] H := hP
  have hD : va_D A [(h0, .inr (11, [.ref q1, .int 0, .int 0, .ref q2, .int 0, .int 0, .int 0, .int 0, .int 0, .int 0, .ref q3, .int 0, .int 0, .int 0, .int 0, .int 0, .int 0, .int 0, .int 0, .null, .null, .null, .null, .null, .null, .int 0, .null, .int 0, .null, .null, .null, .null, .null, .null, .int 0])), (q1, .inl (G 0, 196, .inl (fun _ => 0))), (q2, .inl (G 0, 49, .inl (fun _ => 0))), (q3, .inl (G 0, 320, .inl (fun _ => 0))), (q4, .inl (G 0, 11, .inl (upd (upd (fun _ => 0) 0 0) 1 5)))] := hD
  refine lv_dup hx hb dX11_init_43 rfl ?_
  refine lv_iconst (v := 2) hx hb dX11_init_44 (by decide) ?_
  refine lv_bipush (v := 12) hx hb dX11_init_45 (by decide) ?_
  refine va_iast hx hb hK.1 hP hD hS 4 0 rfl rfl (vp_in_iff.mpr ⟨by decide, by decide⟩) dX11_init_47 (fun H locs hP hD hS => ?_)
  have hP : va_P (dC, dI) vwCl [(h0, .inr (11, [.ref q1, .int 0, .int 0, .ref q2, .int 0, .int 0, .int 0, .int 0, .int 0, .int 0, .ref q3, .int 0, .int 0, .int 0, .int 0, .int 0, .int 0, .int 0, .int 0, .null, .null, .null, .null, .null, .null, .int 0, .null, .int 0, .null, .null, .null, .null, .null, .null, .int 0])), (q1, .inl (G 0, 196, .inl (fun _ => 0))), (q2, .inl (G 0, 49, .inl (fun _ => 0))), (q3, .inl (G 0, 320, .inl (fun _ => 0))), (q4, .inl (G 0, 11, .inl (upd (upd (upd (fun _ => 0) 0 0) 1 5) 2 12)))] H := hP
  have hD : va_D A [(h0, .inr (11, [.ref q1, .int 0, .int 0, .ref q2, .int 0, .int 0, .int 0, .int 0, .int 0, .int 0, .ref q3, .int 0, .int 0, .int 0, .int 0, .int 0, .int 0, .int 0, .int 0, .null, .null, .null, .null, .null, .null, .int 0, .null, .int 0, .null, .null, .null, .null, .null, .null, .int 0])), (q1, .inl (G 0, 196, .inl (fun _ => 0))), (q2, .inl (G 0, 49, .inl (fun _ => 0))), (q3, .inl (G 0, 320, .inl (fun _ => 0))), (q4, .inl (G 0, 11, .inl (upd (upd (upd (fun _ => 0) 0 0) 1 5) 2 12)))] := hD
  refine lv_dup hx hb dX11_init_48 rfl ?_
  refine lv_iconst (v := 3) hx hb dX11_init_49 (by decide) ?_
  refine lv_bipush (v := 18) hx hb dX11_init_50 (by decide) ?_
  refine va_iast hx hb hK.1 hP hD hS 4 0 rfl rfl (vp_in_iff.mpr ⟨by decide, by decide⟩) dX11_init_52 (fun H locs hP hD hS => ?_)
  have hP : va_P (dC, dI) vwCl [(h0, .inr (11, [.ref q1, .int 0, .int 0, .ref q2, .int 0, .int 0, .int 0, .int 0, .int 0, .int 0, .ref q3, .int 0, .int 0, .int 0, .int 0, .int 0, .int 0, .int 0, .int 0, .null, .null, .null, .null, .null, .null, .int 0, .null, .int 0, .null, .null, .null, .null, .null, .null, .int 0])), (q1, .inl (G 0, 196, .inl (fun _ => 0))), (q2, .inl (G 0, 49, .inl (fun _ => 0))), (q3, .inl (G 0, 320, .inl (fun _ => 0))), (q4, .inl (G 0, 11, .inl (upd (upd (upd (upd (fun _ => 0) 0 0) 1 5) 2 12) 3 18)))] H := hP
  have hD : va_D A [(h0, .inr (11, [.ref q1, .int 0, .int 0, .ref q2, .int 0, .int 0, .int 0, .int 0, .int 0, .int 0, .ref q3, .int 0, .int 0, .int 0, .int 0, .int 0, .int 0, .int 0, .int 0, .null, .null, .null, .null, .null, .null, .int 0, .null, .int 0, .null, .null, .null, .null, .null, .null, .int 0])), (q1, .inl (G 0, 196, .inl (fun _ => 0))), (q2, .inl (G 0, 49, .inl (fun _ => 0))), (q3, .inl (G 0, 320, .inl (fun _ => 0))), (q4, .inl (G 0, 11, .inl (upd (upd (upd (upd (fun _ => 0) 0 0) 1 5) 2 12) 3 18)))] := hD
  refine lv_dup hx hb dX11_init_53 rfl ?_
  refine lv_iconst (v := 4) hx hb dX11_init_54 (by decide) ?_
  refine lv_bipush (v := 23) hx hb dX11_init_55 (by decide) ?_
  refine va_iast hx hb hK.1 hP hD hS 4 0 rfl rfl (vp_in_iff.mpr ⟨by decide, by decide⟩) dX11_init_57 (fun H locs hP hD hS => ?_)
  have hP : va_P (dC, dI) vwCl [(h0, .inr (11, [.ref q1, .int 0, .int 0, .ref q2, .int 0, .int 0, .int 0, .int 0, .int 0, .int 0, .ref q3, .int 0, .int 0, .int 0, .int 0, .int 0, .int 0, .int 0, .int 0, .null, .null, .null, .null, .null, .null, .int 0, .null, .int 0, .null, .null, .null, .null, .null, .null, .int 0])), (q1, .inl (G 0, 196, .inl (fun _ => 0))), (q2, .inl (G 0, 49, .inl (fun _ => 0))), (q3, .inl (G 0, 320, .inl (fun _ => 0))), (q4, .inl (G 0, 11, .inl (upd (upd (upd (upd (upd (fun _ => 0) 0 0) 1 5) 2 12) 3 18) 4 23)))] H := hP
  have hD : va_D A [(h0, .inr (11, [.ref q1, .int 0, .int 0, .ref q2, .int 0, .int 0, .int 0, .int 0, .int 0, .int 0, .ref q3, .int 0, .int 0, .int 0, .int 0, .int 0, .int 0, .int 0, .int 0, .null, .null, .null, .null, .null, .null, .int 0, .null, .int 0, .null, .null, .null, .null, .null, .null, .int 0])), (q1, .inl (G 0, 196, .inl (fun _ => 0))), (q2, .inl (G 0, 49, .inl (fun _ => 0))), (q3, .inl (G 0, 320, .inl (fun _ => 0))), (q4, .inl (G 0, 11, .inl (upd (upd (upd (upd (upd (fun _ => 0) 0 0) 1 5) 2 12) 3 18) 4 23)))] := hD
  refine lv_dup hx hb dX11_init_58 rfl ?_
  refine lv_iconst (v := 5) hx hb dX11_init_59 (by decide) ?_
  refine lv_bipush (v := 28) hx hb dX11_init_60 (by decide) ?_
  refine va_iast hx hb hK.1 hP hD hS 4 0 rfl rfl (vp_in_iff.mpr ⟨by decide, by decide⟩) dX11_init_62 (fun H locs hP hD hS => ?_)
  have hP : va_P (dC, dI) vwCl [(h0, .inr (11, [.ref q1, .int 0, .int 0, .ref q2, .int 0, .int 0, .int 0, .int 0, .int 0, .int 0, .ref q3, .int 0, .int 0, .int 0, .int 0, .int 0, .int 0, .int 0, .int 0, .null, .null, .null, .null, .null, .null, .int 0, .null, .int 0, .null, .null, .null, .null, .null, .null, .int 0])), (q1, .inl (G 0, 196, .inl (fun _ => 0))), (q2, .inl (G 0, 49, .inl (fun _ => 0))), (q3, .inl (G 0, 320, .inl (fun _ => 0))), (q4, .inl (G 0, 11, .inl (upd (upd (upd (upd (upd (upd (fun _ => 0) 0 0) 1 5) 2 12) 3 18) 4 23) 5 28)))] H := hP
  have hD : va_D A [(h0, .inr (11, [.ref q1, .int 0, .int 0, .ref q2, .int 0, .int 0, .int 0, .int 0, .int 0, .int 0, .ref q3, .int 0, .int 0, .int 0, .int 0, .int 0, .int 0, .int 0, .int 0, .null, .null, .null, .null, .null, .null, .int 0, .null, .int 0, .null, .null, .null, .null, .null, .null, .int 0])), (q1, .inl (G 0, 196, .inl (fun _ => 0))), (q2, .inl (G 0, 49, .inl (fun _ => 0))), (q3, .inl (G 0, 320, .inl (fun _ => 0))), (q4, .inl (G 0, 11, .inl (upd (upd (upd (upd (upd (upd (fun _ => 0) 0 0) 1 5) 2 12) 3 18) 4 23) 5 28)))] := hD
  refine lv_dup hx hb dX11_init_63 rfl ?_
  refine lv_bipush (v := 6) hx hb dX11_init_64 (by decide) ?_
  refine lv_bipush (v := 34) hx hb dX11_init_66 (by decide) ?_
  refine va_iast hx hb hK.1 hP hD hS 4 0 rfl rfl (vp_in_iff.mpr ⟨by decide, by decide⟩) dX11_init_68 (fun H locs hP hD hS => ?_)
  have hP : va_P (dC, dI) vwCl [(h0, .inr (11, [.ref q1, .int 0, .int 0, .ref q2, .int 0, .int 0, .int 0, .int 0, .int 0, .int 0, .ref q3, .int 0, .int 0, .int 0, .int 0, .int 0, .int 0, .int 0, .int 0, .null, .null, .null, .null, .null, .null, .int 0, .null, .int 0, .null, .null, .null, .null, .null, .null, .int 0])), (q1, .inl (G 0, 196, .inl (fun _ => 0))), (q2, .inl (G 0, 49, .inl (fun _ => 0))), (q3, .inl (G 0, 320, .inl (fun _ => 0))), (q4, .inl (G 0, 11, .inl (upd (upd (upd (upd (upd (upd (upd (fun _ => 0) 0 0) 1 5) 2 12) 3 18) 4 23) 5 28) 6 34)))] H := hP
  have hD : va_D A [(h0, .inr (11, [.ref q1, .int 0, .int 0, .ref q2, .int 0, .int 0, .int 0, .int 0, .int 0, .int 0, .ref q3, .int 0, .int 0, .int 0, .int 0, .int 0, .int 0, .int 0, .int 0, .null, .null, .null, .null, .null, .null, .int 0, .null, .int 0, .null, .null, .null, .null, .null, .null, .int 0])), (q1, .inl (G 0, 196, .inl (fun _ => 0))), (q2, .inl (G 0, 49, .inl (fun _ => 0))), (q3, .inl (G 0, 320, .inl (fun _ => 0))), (q4, .inl (G 0, 11, .inl (upd (upd (upd (upd (upd (upd (upd (fun _ => 0) 0 0) 1 5) 2 12) 3 18) 4 23) 5 28) 6 34)))] := hD
  refine lv_dup hx hb dX11_init_69 rfl ?_
  refine lv_bipush (v := 7) hx hb dX11_init_70 (by decide) ?_
  refine lv_bipush (v := 42) hx hb dX11_init_72 (by decide) ?_
  refine va_iast hx hb hK.1 hP hD hS 4 0 rfl rfl (vp_in_iff.mpr ⟨by decide, by decide⟩) dX11_init_74 (fun H locs hP hD hS => ?_)
  have hP : va_P (dC, dI) vwCl [(h0, .inr (11, [.ref q1, .int 0, .int 0, .ref q2, .int 0, .int 0, .int 0, .int 0, .int 0, .int 0, .ref q3, .int 0, .int 0, .int 0, .int 0, .int 0, .int 0, .int 0, .int 0, .null, .null, .null, .null, .null, .null, .int 0, .null, .int 0, .null, .null, .null, .null, .null, .null, .int 0])), (q1, .inl (G 0, 196, .inl (fun _ => 0))), (q2, .inl (G 0, 49, .inl (fun _ => 0))), (q3, .inl (G 0, 320, .inl (fun _ => 0))), (q4, .inl (G 0, 11, .inl (upd (upd (upd (upd (upd (upd (upd (upd (fun _ => 0) 0 0) 1 5) 2 12) 3 18) 4 23) 5 28) 6 34) 7 42)))] H := hP
  have hD : va_D A [(h0, .inr (11, [.ref q1, .int 0, .int 0, .ref q2, .int 0, .int 0, .int 0, .int 0, .int 0, .int 0, .ref q3, .int 0, .int 0, .int 0, .int 0, .int 0, .int 0, .int 0, .int 0, .null, .null, .null, .null, .null, .null, .int 0, .null, .int 0, .null, .null, .null, .null, .null, .null, .int 0])), (q1, .inl (G 0, 196, .inl (fun _ => 0))), (q2, .inl (G 0, 49, .inl (fun _ => 0))), (q3, .inl (G 0, 320, .inl (fun _ => 0))), (q4, .inl (G 0, 11, .inl (upd (upd (upd (upd (upd (upd (upd (upd (fun _ => 0) 0 0) 1 5) 2 12) 3 18) 4 23) 5 28) 6 34) 7 42)))] := hD
  refine lv_dup hx hb dX11_init_75 rfl ?_
  refine lv_bipush (v := 8) hx hb dX11_init_76 (by decide) ?_
  refine lv_bipush (v := 46) hx hb dX11_init_78 (by decide) ?_
  refine va_iast hx hb hK.1 hP hD hS 4 0 rfl rfl (vp_in_iff.mpr ⟨by decide, by decide⟩) dX11_init_80 (fun H locs hP hD hS => ?_)
  have hP : va_P (dC, dI) vwCl [(h0, .inr (11, [.ref q1, .int 0, .int 0, .ref q2, .int 0, .int 0, .int 0, .int 0, .int 0, .int 0, .ref q3, .int 0, .int 0, .int 0, .int 0, .int 0, .int 0, .int 0, .int 0, .null, .null, .null, .null, .null, .null, .int 0, .null, .int 0, .null, .null, .null, .null, .null, .null, .int 0])), (q1, .inl (G 0, 196, .inl (fun _ => 0))), (q2, .inl (G 0, 49, .inl (fun _ => 0))), (q3, .inl (G 0, 320, .inl (fun _ => 0))), (q4, .inl (G 0, 11, .inl (upd (upd (upd (upd (upd (upd (upd (upd (upd (fun _ => 0) 0 0) 1 5) 2 12) 3 18) 4 23) 5 28) 6 34) 7 42) 8 46)))] H := hP
  have hD : va_D A [(h0, .inr (11, [.ref q1, .int 0, .int 0, .ref q2, .int 0, .int 0, .int 0, .int 0, .int 0, .int 0, .ref q3, .int 0, .int 0, .int 0, .int 0, .int 0, .int 0, .int 0, .int 0, .null, .null, .null, .null, .null, .null, .int 0, .null, .int 0, .null, .null, .null, .null, .null, .null, .int 0])), (q1, .inl (G 0, 196, .inl (fun _ => 0))), (q2, .inl (G 0, 49, .inl (fun _ => 0))), (q3, .inl (G 0, 320, .inl (fun _ => 0))), (q4, .inl (G 0, 11, .inl (upd (upd (upd (upd (upd (upd (upd (upd (upd (fun _ => 0) 0 0) 1 5) 2 12) 3 18) 4 23) 5 28) 6 34) 7 42) 8 46)))] := hD
  refine lv_dup hx hb dX11_init_81 rfl ?_
  refine lv_bipush (v := 9) hx hb dX11_init_82 (by decide) ?_
  refine lv_bipush (v := 50) hx hb dX11_init_84 (by decide) ?_
  refine va_iast hx hb hK.1 hP hD hS 4 0 rfl rfl (vp_in_iff.mpr ⟨by decide, by decide⟩) dX11_init_86 (fun H locs hP hD hS => ?_)
  have hP : va_P (dC, dI) vwCl [(h0, .inr (11, [.ref q1, .int 0, .int 0, .ref q2, .int 0, .int 0, .int 0, .int 0, .int 0, .int 0, .ref q3, .int 0, .int 0, .int 0, .int 0, .int 0, .int 0, .int 0, .int 0, .null, .null, .null, .null, .null, .null, .int 0, .null, .int 0, .null, .null, .null, .null, .null, .null, .int 0])), (q1, .inl (G 0, 196, .inl (fun _ => 0))), (q2, .inl (G 0, 49, .inl (fun _ => 0))), (q3, .inl (G 0, 320, .inl (fun _ => 0))), (q4, .inl (G 0, 11, .inl (upd (upd (upd (upd (upd (upd (upd (upd (upd (upd (fun _ => 0) 0 0) 1 5) 2 12) 3 18) 4 23) 5 28) 6 34) 7 42) 8 46) 9 50)))] H := hP
  have hD : va_D A [(h0, .inr (11, [.ref q1, .int 0, .int 0, .ref q2, .int 0, .int 0, .int 0, .int 0, .int 0, .int 0, .ref q3, .int 0, .int 0, .int 0, .int 0, .int 0, .int 0, .int 0, .int 0, .null, .null, .null, .null, .null, .null, .int 0, .null, .int 0, .null, .null, .null, .null, .null, .null, .int 0])), (q1, .inl (G 0, 196, .inl (fun _ => 0))), (q2, .inl (G 0, 49, .inl (fun _ => 0))), (q3, .inl (G 0, 320, .inl (fun _ => 0))), (q4, .inl (G 0, 11, .inl (upd (upd (upd (upd (upd (upd (upd (upd (upd (upd (fun _ => 0) 0 0) 1 5) 2 12) 3 18) 4 23) 5 28) 6 34) 7 42) 8 46) 9 50)))] := hD
  refine lv_dup hx hb dX11_init_87 rfl ?_
  refine lv_bipush (v := 10) hx hb dX11_init_88 (by decide) ?_
  refine lv_bipush (v := 54) hx hb dX11_init_90 (by decide) ?_
  refine va_iast hx hb hK.1 hP hD hS 4 0 rfl rfl (vp_in_iff.mpr ⟨by decide, by decide⟩) dX11_init_92 (fun H locs hP hD hS => ?_)
  have hP : va_P (dC, dI) vwCl [(h0, .inr (11, [.ref q1, .int 0, .int 0, .ref q2, .int 0, .int 0, .int 0, .int 0, .int 0, .int 0, .ref q3, .int 0, .int 0, .int 0, .int 0, .int 0, .int 0, .int 0, .int 0, .null, .null, .null, .null, .null, .null, .int 0, .null, .int 0, .null, .null, .null, .null, .null, .null, .int 0])), (q1, .inl (G 0, 196, .inl (fun _ => 0))), (q2, .inl (G 0, 49, .inl (fun _ => 0))), (q3, .inl (G 0, 320, .inl (fun _ => 0))), (q4, .inl (G 0, 11, .inl (upd (upd (upd (upd (upd (upd (upd (upd (upd (upd (upd (fun _ => 0) 0 0) 1 5) 2 12) 3 18) 4 23) 5 28) 6 34) 7 42) 8 46) 9 50) 10 54)))] H := hP
  have hD : va_D A [(h0, .inr (11, [.ref q1, .int 0, .int 0, .ref q2, .int 0, .int 0, .int 0, .int 0, .int 0, .int 0, .ref q3, .int 0, .int 0, .int 0, .int 0, .int 0, .int 0, .int 0, .int 0, .null, .null, .null, .null, .null, .null, .int 0, .null, .int 0, .null, .null, .null, .null, .null, .null, .int 0])), (q1, .inl (G 0, 196, .inl (fun _ => 0))), (q2, .inl (G 0, 49, .inl (fun _ => 0))), (q3, .inl (G 0, 320, .inl (fun _ => 0))), (q4, .inl (G 0, 11, .inl (upd (upd (upd (upd (upd (upd (upd (upd (upd (upd (upd (fun _ => 0) 0 0) 1 5) 2 12) 3 18) 4 23) 5 28) 6 34) 7 42) 8 46) 9 50) 10 54)))] := hD
  refine va_putF (D := (dC, dI)) (ci := 11) (v := .ref q4) (ty := (.array .int)) (C := RX11) (T := TX11) (N := 35) hx hb hg inG11 tyX11 tyX11_ok nmX11 hown hK.1 hP hD hS 0 rfl rfl 19 (by decide) (hg _ wt_897) (fun _ h9 => h9) rfl hin rfl (by decide +kernel) rfl rfl (Nat.le_of_ble_eq_true rfl) dX11_init_93 (fun H locs hP hD hS => ?_)
  have hP : va_P (dC, dI) vwCl [(h0, .inr (11, [.ref q1, .int 0, .int 0, .ref q2, .int 0, .int 0, .int 0, .int 0, .int 0, .int 0, .ref q3, .int 0, .int 0, .int 0, .int 0, .int 0, .int 0, .int 0, .int 0, .ref q4, .null, .null, .null, .null, .null, .int 0, .null, .int 0, .null, .null, .null, .null, .null, .null, .int 0])), (q1, .inl (G 0, 196, .inl (fun _ => 0))), (q2, .inl (G 0, 49, .inl (fun _ => 0))), (q3, .inl (G 0, 320, .inl (fun _ => 0))), (q4, .inl (G 0, 11, .inl (upd (upd (upd (upd (upd (upd (upd (upd (upd (upd (upd (fun _ => 0) 0 0) 1 5) 2 12) 3 18) 4 23) 5 28) 6 34) 7 42) 8 46) 9 50) 10 54)))] H := hP
  have hD : va_D A [(h0, .inr (11, [.ref q1, .int 0, .int 0, .ref q2, .int 0, .int 0, .int 0, .int 0, .int 0, .int 0, .ref q3, .int 0, .int 0, .int 0, .int 0, .int 0, .int 0, .int 0, .int 0, .ref q4, .null, .null, .null, .null, .null, .int 0, .null, .int 0, .null, .null, .null, .null, .null, .null, .int 0])), (q1, .inl (G 0, 196, .inl (fun _ => 0))), (q2, .inl (G 0, 49, .inl (fun _ => 0))), (q3, .inl (G 0, 320, .inl (fun _ => 0))), (q4, .inl (G 0, 11, .inl (upd (upd (upd (upd (upd (upd (upd (upd (upd (upd (upd (fun _ => 0) 0 0) 1 5) 2 12) 3 18) 4 23) 5 28) 6 34) 7 42) 8 46) 9 50) 10 54)))] := hD
  refine lv_aload_n hx hb dX11_init_96 rfl (lv_at hl 0 rfl) ?_
  refine lv_bipush (v := 54) hx hb dX11_init_97 (by decide) ?_
  refine va_newa (atype := .int) (N' := 54) (a0 := (54, .inl (fun _ => 0))) hx hb (hg _ wt_49) rfl hK.1 hP hD hS hA (fun _ => rfl) (by decide) (by decide) (by decide) (Nat.le_of_ble_eq_true rfl) (Nat.le_of_ble_eq_true rfl) dX11_init_99 (fun q5 cA H hK9 hP hD hS => ?_)
  obtain rfl := uniA hK9 0 rfl
  have hP : va_P (dC, dI) vwCl [(h0, .inr (11, [.ref q1, .int 0, .int 0, .ref q2, .int 0, .int 0, .int 0, .int 0, .int 0, .int 0, .ref q3, .int 0, .int 0, .int 0, .int 0, .int 0, .int 0, .int 0, .int 0, .ref q4, .null, .null, .null, .null, .null, .int 0, .null, .int 0, .null, .null, .null, .null, .null, .null, .int 0])), (q1, .inl (G 0, 196, .inl (fun _ => 0))), (q2, .inl (G 0, 49, .inl (fun _ => 0))), (q3, .inl (G 0, 320, .inl (fun _ => 0))), (q4, .inl (G 0, 11, .inl (upd (upd (upd (upd (upd (upd (upd (upd (upd (upd (upd (fun _ => 0) 0 0) 1 5) 2 12) 3 18) 4 23) 5 28) 6 34) 7 42) 8 46) 9 50) 10 54))), (q5, .inl (G 0, 54, .inl (fun _ => 0)))] H := hP
  have hD : va_D A [(h0, .inr (11, [.ref q1, .int 0, .int 0, .ref q2, .int 0, .int 0, .int 0, .int 0, .int 0, .int 0, .ref q3, .int 0, .int 0, .int 0, .int 0, .int 0, .int 0, .int 0, .int 0, .ref q4, .null, .null, .null, .null, .null, .int 0, .null, .int 0, .null, .null, .null, .null, .null, .null, .int 0])), (q1, .inl (G 0, 196, .inl (fun _ => 0))), (q2, .inl (G 0, 49, .inl (fun _ => 0))), (q3, .inl (G 0, 320, .inl (fun _ => 0))), (q4, .inl (G 0, 11, .inl (upd (upd (upd (upd (upd (upd (upd (upd (upd (upd (upd (fun _ => 0) 0 0) 1 5) 2 12) 3 18) 4 23) 5 28) 6 34) 7 42) 8 46) 9 50) 10 54))), (q5, .inl (G 0, 54, .inl (fun _ => 0)))] := hD
  refine W.widen (k := 5) (n := 630) (by omega) (by omega) ?_
  refine lv_dup hx hb dX11_init_101 rfl ?_
  refine lv_iconst (v := 0) hx hb dX11_init_102 (by decide) ?_
  refine lv_bipush (v := 115) hx hb dX11_init_103 (by decide) ?_
  refine va_iast hx hb hK.1 hP hD hS 5 0 rfl rfl (vp_in_iff.mpr ⟨by decide, by decide⟩) dX11_init_105 (fun H locs hP hD hS => ?_)
  have hP : va_P (dC, dI) vwCl [(h0, .inr (11, [.ref q1, .int 0, .int 0, .ref q2, .int 0, .int 0, .int 0, .int 0, .int 0, .int 0, .ref q3, .int 0, .int 0, .int 0, .int 0, .int 0, .int 0, .int 0, .int 0, .ref q4, .null, .null, .null, .null, .null, .int 0, .null, .int 0, .null, .null, .null, .null, .null, .null, .int 0])), (q1, .inl (G 0, 196, .inl (fun _ => 0))), (q2, .inl (G 0, 49, .inl (fun _ => 0))), (q3, .inl (G 0, 320, .inl (fun _ => 0))), (q4, .inl (G 0, 11, .inl (upd (upd (upd (upd (upd (upd (upd (upd (upd (upd (upd (fun _ => 0) 0 0) 1 5) 2 12) 3 18) 4 23) 5 28) 6 34) 7 42) 8 46) 9 50) 10 54))), (q5, .inl (G 0, 54, .inl (upd (fun _ => 0) 0 115)))] H := hP
  have hD : va_D A [(h0, .inr (11, [.ref q1, .int 0, .int 0, .ref q2, .int 0, .int 0, .int 0, .int 0, .int 0, .int 0, .ref q3, .int 0, .int 0, .int 0, .int 0, .int 0, .int 0, .int 0, .int 0, .ref q4, .null, .null, .null, .null, .null, .int 0, .null, .int 0, .null, .null, .null, .null, .null, .null, .int 0])), (q1, .inl (G 0, 196, .inl (fun _ => 0))), (q2, .inl (G 0, 49, .inl (fun _ => 0))), (q3, .inl (G 0, 320, .inl (fun _ => 0))), (q4, .inl (G 0, 11, .inl (upd (upd (upd (upd (upd (upd (upd (upd (upd (upd (upd (fun _ => 0) 0 0) 1 5) 2 12) 3 18) 4 23) 5 28) 6 34) 7 42) 8 46) 9 50) 10 54))), (q5, .inl (G 0, 54, .inl (upd (fun _ => 0) 0 115)))] := hD
  have hlt7 := LTs (g := fun _ => 0) (k := 0) (c := 115) LT0 (by rfl)
  generalize (upd (fun _ => 0) 0 115) = g6 at hP hD hlt7
  refine lv_dup hx hb dX11_init_106 rfl ?_
  refine lv_iconst (v := 1) hx hb dX11_init_107 (by decide) ?_
  refine lv_bipush (v := 116) hx hb dX11_init_108 (by decide) ?_
  refine va_iast hx hb hK.1 hP hD hS 5 0 rfl rfl (vp_in_iff.mpr ⟨by decide, by decide⟩) dX11_init_110 (fun H locs hP hD hS => ?_)
  have hP : va_P (dC, dI) vwCl [(h0, .inr (11, [.ref q1, .int 0, .int 0, .ref q2, .int 0, .int 0, .int 0, .int 0, .int 0, .int 0, .ref q3, .int 0, .int 0, .int 0, .int 0, .int 0, .int 0, .int 0, .int 0, .ref q4, .null, .null, .null, .null, .null, .int 0, .null, .int 0, .null, .null, .null, .null, .null, .null, .int 0])), (q1, .inl (G 0, 196, .inl (fun _ => 0))), (q2, .inl (G 0, 49, .inl (fun _ => 0))), (q3, .inl (G 0, 320, .inl (fun _ => 0))), (q4, .inl (G 0, 11, .inl (upd (upd (upd (upd (upd (upd (upd (upd (upd (upd (upd (fun _ => 0) 0 0) 1 5) 2 12) 3 18) 4 23) 5 28) 6 34) 7 42) 8 46) 9 50) 10 54))), (q5, .inl (G 0, 54, .inl (upd g6 1 116)))] H := hP
  have hD : va_D A [(h0, .inr (11, [.ref q1, .int 0, .int 0, .ref q2, .int 0, .int 0, .int 0, .int 0, .int 0, .int 0, .ref q3, .int 0, .int 0, .int 0, .int 0, .int 0, .int 0, .int 0, .int 0, .ref q4, .null, .null, .null, .null, .null, .int 0, .null, .int 0, .null, .null, .null, .null, .null, .null, .int 0])), (q1, .inl (G 0, 196, .inl (fun _ => 0))), (q2, .inl (G 0, 49, .inl (fun _ => 0))), (q3, .inl (G 0, 320, .inl (fun _ => 0))), (q4, .inl (G 0, 11, .inl (upd (upd (upd (upd (upd (upd (upd (upd (upd (upd (upd (fun _ => 0) 0 0) 1 5) 2 12) 3 18) 4 23) 5 28) 6 34) 7 42) 8 46) 9 50) 10 54))), (q5, .inl (G 0, 54, .inl (upd g6 1 116)))] := hD
  have hlt9 := LTs (g := g6) (k := 1) (c := 116) hlt7 (by rfl)
  generalize (upd g6 1 116) = g8 at hP hD hlt9
  refine lv_dup hx hb dX11_init_111 rfl ?_
  refine lv_iconst (v := 2) hx hb dX11_init_112 (by decide) ?_
  refine lv_bipush (v := 97) hx hb dX11_init_113 (by decide) ?_
  refine va_iast hx hb hK.1 hP hD hS 5 0 rfl rfl (vp_in_iff.mpr ⟨by decide, by decide⟩) dX11_init_115 (fun H locs hP hD hS => ?_)
  have hP : va_P (dC, dI) vwCl [(h0, .inr (11, [.ref q1, .int 0, .int 0, .ref q2, .int 0, .int 0, .int 0, .int 0, .int 0, .int 0, .ref q3, .int 0, .int 0, .int 0, .int 0, .int 0, .int 0, .int 0, .int 0, .ref q4, .null, .null, .null, .null, .null, .int 0, .null, .int 0, .null, .null, .null, .null, .null, .null, .int 0])), (q1, .inl (G 0, 196, .inl (fun _ => 0))), (q2, .inl (G 0, 49, .inl (fun _ => 0))), (q3, .inl (G 0, 320, .inl (fun _ => 0))), (q4, .inl (G 0, 11, .inl (upd (upd (upd (upd (upd (upd (upd (upd (upd (upd (upd (fun _ => 0) 0 0) 1 5) 2 12) 3 18) 4 23) 5 28) 6 34) 7 42) 8 46) 9 50) 10 54))), (q5, .inl (G 0, 54, .inl (upd g8 2 97)))] H := hP
  have hD : va_D A [(h0, .inr (11, [.ref q1, .int 0, .int 0, .ref q2, .int 0, .int 0, .int 0, .int 0, .int 0, .int 0, .ref q3, .int 0, .int 0, .int 0, .int 0, .int 0, .int 0, .int 0, .int 0, .ref q4, .null, .null, .null, .null, .null, .int 0, .null, .int 0, .null, .null, .null, .null, .null, .null, .int 0])), (q1, .inl (G 0, 196, .inl (fun _ => 0))), (q2, .inl (G 0, 49, .inl (fun _ => 0))), (q3, .inl (G 0, 320, .inl (fun _ => 0))), (q4, .inl (G 0, 11, .inl (upd (upd (upd (upd (upd (upd (upd (upd (upd (upd (upd (fun _ => 0) 0 0) 1 5) 2 12) 3 18) 4 23) 5 28) 6 34) 7 42) 8 46) 9 50) 10 54))), (q5, .inl (G 0, 54, .inl (upd g8 2 97)))] := hD
  have hlt11 := LTs (g := g8) (k := 2) (c := 97) hlt9 (by rfl)
  generalize (upd g8 2 97) = g10 at hP hD hlt11
  refine lv_dup hx hb dX11_init_116 rfl ?_
  refine lv_iconst (v := 3) hx hb dX11_init_117 (by decide) ?_
  refine lv_bipush (v := 114) hx hb dX11_init_118 (by decide) ?_
  refine va_iast hx hb hK.1 hP hD hS 5 0 rfl rfl (vp_in_iff.mpr ⟨by decide, by decide⟩) dX11_init_120 (fun H locs hP hD hS => ?_)
  have hP : va_P (dC, dI) vwCl [(h0, .inr (11, [.ref q1, .int 0, .int 0, .ref q2, .int 0, .int 0, .int 0, .int 0, .int 0, .int 0, .ref q3, .int 0, .int 0, .int 0, .int 0, .int 0, .int 0, .int 0, .int 0, .ref q4, .null, .null, .null, .null, .null, .int 0, .null, .int 0, .null, .null, .null, .null, .null, .null, .int 0])), (q1, .inl (G 0, 196, .inl (fun _ => 0))), (q2, .inl (G 0, 49, .inl (fun _ => 0))), (q3, .inl (G 0, 320, .inl (fun _ => 0))), (q4, .inl (G 0, 11, .inl (upd (upd (upd (upd (upd (upd (upd (upd (upd (upd (upd (fun _ => 0) 0 0) 1 5) 2 12) 3 18) 4 23) 5 28) 6 34) 7 42) 8 46) 9 50) 10 54))), (q5, .inl (G 0, 54, .inl (upd g10 3 114)))] H := hP
  have hD : va_D A [(h0, .inr (11, [.ref q1, .int 0, .int 0, .ref q2, .int 0, .int 0, .int 0, .int 0, .int 0, .int 0, .ref q3, .int 0, .int 0, .int 0, .int 0, .int 0, .int 0, .int 0, .int 0, .ref q4, .null, .null, .null, .null, .null, .int 0, .null, .int 0, .null, .null, .null, .null, .null, .null, .int 0])), (q1, .inl (G 0, 196, .inl (fun _ => 0))), (q2, .inl (G 0, 49, .inl (fun _ => 0))), (q3, .inl (G 0, 320, .inl (fun _ => 0))), (q4, .inl (G 0, 11, .inl (upd (upd (upd (upd (upd (upd (upd (upd (upd (upd (upd (fun _ => 0) 0 0) 1 5) 2 12) 3 18) 4 23) 5 28) 6 34) 7 42) 8 46) 9 50) 10 54))), (q5, .inl (G 0, 54, .inl (upd g10 3 114)))] := hD
  have hlt13 := LTs (g := g10) (k := 3) (c := 114) hlt11 (by rfl)
  generalize (upd g10 3 114) = g12 at hP hD hlt13
  refine lv_dup hx hb dX11_init_121 rfl ?_
  refine lv_iconst (v := 4) hx hb dX11_init_122 (by decide) ?_
  refine lv_bipush (v := 116) hx hb dX11_init_123 (by decide) ?_
  refine va_iast hx hb hK.1 hP hD hS 5 0 rfl rfl (vp_in_iff.mpr ⟨by decide, by decide⟩) dX11_init_125 (fun H locs hP hD hS => ?_)
  have hP : va_P (dC, dI) vwCl [(h0, .inr (11, [.ref q1, .int 0, .int 0, .ref q2, .int 0, .int 0, .int 0, .int 0, .int 0, .int 0, .ref q3, .int 0, .int 0, .int 0, .int 0, .int 0, .int 0, .int 0, .int 0, .ref q4, .null, .null, .null, .null, .null, .int 0, .null, .int 0, .null, .null, .null, .null, .null, .null, .int 0])), (q1, .inl (G 0, 196, .inl (fun _ => 0))), (q2, .inl (G 0, 49, .inl (fun _ => 0))), (q3, .inl (G 0, 320, .inl (fun _ => 0))), (q4, .inl (G 0, 11, .inl (upd (upd (upd (upd (upd (upd (upd (upd (upd (upd (upd (fun _ => 0) 0 0) 1 5) 2 12) 3 18) 4 23) 5 28) 6 34) 7 42) 8 46) 9 50) 10 54))), (q5, .inl (G 0, 54, .inl (upd g12 4 116)))] H := hP
  have hD : va_D A [(h0, .inr (11, [.ref q1, .int 0, .int 0, .ref q2, .int 0, .int 0, .int 0, .int 0, .int 0, .int 0, .ref q3, .int 0, .int 0, .int 0, .int 0, .int 0, .int 0, .int 0, .int 0, .ref q4, .null, .null, .null, .null, .null, .int 0, .null, .int 0, .null, .null, .null, .null, .null, .null, .int 0])), (q1, .inl (G 0, 196, .inl (fun _ => 0))), (q2, .inl (G 0, 49, .inl (fun _ => 0))), (q3, .inl (G 0, 320, .inl (fun _ => 0))), (q4, .inl (G 0, 11, .inl (upd (upd (upd (upd (upd (upd (upd (upd (upd (upd (upd (fun _ => 0) 0 0) 1 5) 2 12) 3 18) 4 23) 5 28) 6 34) 7 42) 8 46) 9 50) 10 54))), (q5, .inl (G 0, 54, .inl (upd g12 4 116)))] := hD
  have hlt15 := LTs (g := g12) (k := 4) (c := 116) hlt13 (by rfl)
  generalize (upd g12 4 116) = g14 at hP hD hlt15
  refine lv_dup hx hb dX11_init_126 rfl ?_
  refine lv_iconst (v := 5) hx hb dX11_init_127 (by decide) ?_
  refine lv_bipush (v := 115) hx hb dX11_init_128 (by decide) ?_
  refine va_iast hx hb hK.1 hP hD hS 5 0 rfl rfl (vp_in_iff.mpr ⟨by decide, by decide⟩) dX11_init_130 (fun H locs hP hD hS => ?_)
  have hP : va_P (dC, dI) vwCl [(h0, .inr (11, [.ref q1, .int 0, .int 0, .ref q2, .int 0, .int 0, .int 0, .int 0, .int 0, .int 0, .ref q3, .int 0, .int 0, .int 0, .int 0, .int 0, .int 0, .int 0, .int 0, .ref q4, .null, .null, .null, .null, .null, .int 0, .null, .int 0, .null, .null, .null, .null, .null, .null, .int 0])), (q1, .inl (G 0, 196, .inl (fun _ => 0))), (q2, .inl (G 0, 49, .inl (fun _ => 0))), (q3, .inl (G 0, 320, .inl (fun _ => 0))), (q4, .inl (G 0, 11, .inl (upd (upd (upd (upd (upd (upd (upd (upd (upd (upd (upd (fun _ => 0) 0 0) 1 5) 2 12) 3 18) 4 23) 5 28) 6 34) 7 42) 8 46) 9 50) 10 54))), (q5, .inl (G 0, 54, .inl (upd g14 5 115)))] H := hP
  have hD : va_D A [(h0, .inr (11, [.ref q1, .int 0, .int 0, .ref q2, .int 0, .int 0, .int 0, .int 0, .int 0, .int 0, .ref q3, .int 0, .int 0, .int 0, .int 0, .int 0, .int 0, .int 0, .int 0, .ref q4, .null, .null, .null, .null, .null, .int 0, .null, .int 0, .null, .null, .null, .null, .null, .null, .int 0])), (q1, .inl (G 0, 196, .inl (fun _ => 0))), (q2, .inl (G 0, 49, .inl (fun _ => 0))), (q3, .inl (G 0, 320, .inl (fun _ => 0))), (q4, .inl (G 0, 11, .inl (upd (upd (upd (upd (upd (upd (upd (upd (upd (upd (upd (fun _ => 0) 0 0) 1 5) 2 12) 3 18) 4 23) 5 28) 6 34) 7 42) 8 46) 9 50) 10 54))), (q5, .inl (G 0, 54, .inl (upd g14 5 115)))] := hD
  have hlt17 := LTs (g := g14) (k := 5) (c := 115) hlt15 (by rfl)
  generalize (upd g14 5 115) = g16 at hP hD hlt17
  refine lv_dup hx hb dX11_init_131 rfl ?_
  refine lv_bipush (v := 6) hx hb dX11_init_132 (by decide) ?_
  refine lv_bipush (v := 116) hx hb dX11_init_134 (by decide) ?_
  refine va_iast hx hb hK.1 hP hD hS 5 0 rfl rfl (vp_in_iff.mpr ⟨by decide, by decide⟩) dX11_init_136 (fun H locs hP hD hS => ?_)
  have hP : va_P (dC, dI) vwCl [(h0, .inr (11, [.ref q1, .int 0, .int 0, .ref q2, .int 0, .int 0, .int 0, .int 0, .int 0, .int 0, .ref q3, .int 0, .int 0, .int 0, .int 0, .int 0, .int 0, .int 0, .int 0, .ref q4, .null, .null, .null, .null, .null, .int 0, .null, .int 0, .null, .null, .null, .null, .null, .null, .int 0])), (q1, .inl (G 0, 196, .inl (fun _ => 0))), (q2, .inl (G 0, 49, .inl (fun _ => 0))), (q3, .inl (G 0, 320, .inl (fun _ => 0))), (q4, .inl (G 0, 11, .inl (upd (upd (upd (upd (upd (upd (upd (upd (upd (upd (upd (fun _ => 0) 0 0) 1 5) 2 12) 3 18) 4 23) 5 28) 6 34) 7 42) 8 46) 9 50) 10 54))), (q5, .inl (G 0, 54, .inl (upd g16 6 116)))] H := hP
  have hD : va_D A [(h0, .inr (11, [.ref q1, .int 0, .int 0, .ref q2, .int 0, .int 0, .int 0, .int 0, .int 0, .int 0, .ref q3, .int 0, .int 0, .int 0, .int 0, .int 0, .int 0, .int 0, .int 0, .ref q4, .null, .null, .null, .null, .null, .int 0, .null, .int 0, .null, .null, .null, .null, .null, .null, .int 0])), (q1, .inl (G 0, 196, .inl (fun _ => 0))), (q2, .inl (G 0, 49, .inl (fun _ => 0))), (q3, .inl (G 0, 320, .inl (fun _ => 0))), (q4, .inl (G 0, 11, .inl (upd (upd (upd (upd (upd (upd (upd (upd (upd (upd (upd (fun _ => 0) 0 0) 1 5) 2 12) 3 18) 4 23) 5 28) 6 34) 7 42) 8 46) 9 50) 10 54))), (q5, .inl (G 0, 54, .inl (upd g16 6 116)))] := hD
  have hlt19 := LTs (g := g16) (k := 6) (c := 116) hlt17 (by rfl)
  generalize (upd g16 6 116) = g18 at hP hD hlt19
  refine lv_dup hx hb dX11_init_137 rfl ?_
  refine lv_bipush (v := 7) hx hb dX11_init_138 (by decide) ?_
  refine lv_bipush (v := 114) hx hb dX11_init_140 (by decide) ?_
  refine va_iast hx hb hK.1 hP hD hS 5 0 rfl rfl (vp_in_iff.mpr ⟨by decide, by decide⟩) dX11_init_142 (fun H locs hP hD hS => ?_)
  have hP : va_P (dC, dI) vwCl [(h0, .inr (11, [.ref q1, .int 0, .int 0, .ref q2, .int 0, .int 0, .int 0, .int 0, .int 0, .int 0, .ref q3, .int 0, .int 0, .int 0, .int 0, .int 0, .int 0, .int 0, .int 0, .ref q4, .null, .null, .null, .null, .null, .int 0, .null, .int 0, .null, .null, .null, .null, .null, .null, .int 0])), (q1, .inl (G 0, 196, .inl (fun _ => 0))), (q2, .inl (G 0, 49, .inl (fun _ => 0))), (q3, .inl (G 0, 320, .inl (fun _ => 0))), (q4, .inl (G 0, 11, .inl (upd (upd (upd (upd (upd (upd (upd (upd (upd (upd (upd (fun _ => 0) 0 0) 1 5) 2 12) 3 18) 4 23) 5 28) 6 34) 7 42) 8 46) 9 50) 10 54))), (q5, .inl (G 0, 54, .inl (upd g18 7 114)))] H := hP
  have hD : va_D A [(h0, .inr (11, [.ref q1, .int 0, .int 0, .ref q2, .int 0, .int 0, .int 0, .int 0, .int 0, .int 0, .ref q3, .int 0, .int 0, .int 0, .int 0, .int 0, .int 0, .int 0, .int 0, .ref q4, .null, .null, .null, .null, .null, .int 0, .null, .int 0, .null, .null, .null, .null, .null, .null, .int 0])), (q1, .inl (G 0, 196, .inl (fun _ => 0))), (q2, .inl (G 0, 49, .inl (fun _ => 0))), (q3, .inl (G 0, 320, .inl (fun _ => 0))), (q4, .inl (G 0, 11, .inl (upd (upd (upd (upd (upd (upd (upd (upd (upd (upd (upd (fun _ => 0) 0 0) 1 5) 2 12) 3 18) 4 23) 5 28) 6 34) 7 42) 8 46) 9 50) 10 54))), (q5, .inl (G 0, 54, .inl (upd g18 7 114)))] := hD
  have hlt21 := LTs (g := g18) (k := 7) (c := 114) hlt19 (by rfl)
  generalize (upd g18 7 114) = g20 at hP hD hlt21
  refine lv_dup hx hb dX11_init_143 rfl ?_
  refine lv_bipush (v := 8) hx hb dX11_init_144 (by decide) ?_
  refine lv_bipush (v := 101) hx hb dX11_init_146 (by decide) ?_
  refine va_iast hx hb hK.1 hP hD hS 5 0 rfl rfl (vp_in_iff.mpr ⟨by decide, by decide⟩) dX11_init_148 (fun H locs hP hD hS => ?_)
  have hP : va_P (dC, dI) vwCl [(h0, .inr (11, [.ref q1, .int 0, .int 0, .ref q2, .int 0, .int 0, .int 0, .int 0, .int 0, .int 0, .ref q3, .int 0, .int 0, .int 0, .int 0, .int 0, .int 0, .int 0, .int 0, .ref q4, .null, .null, .null, .null, .null, .int 0, .null, .int 0, .null, .null, .null, .null, .null, .null, .int 0])), (q1, .inl (G 0, 196, .inl (fun _ => 0))), (q2, .inl (G 0, 49, .inl (fun _ => 0))), (q3, .inl (G 0, 320, .inl (fun _ => 0))), (q4, .inl (G 0, 11, .inl (upd (upd (upd (upd (upd (upd (upd (upd (upd (upd (upd (fun _ => 0) 0 0) 1 5) 2 12) 3 18) 4 23) 5 28) 6 34) 7 42) 8 46) 9 50) 10 54))), (q5, .inl (G 0, 54, .inl (upd g20 8 101)))] H := hP
  have hD : va_D A [(h0, .inr (11, [.ref q1, .int 0, .int 0, .ref q2, .int 0, .int 0, .int 0, .int 0, .int 0, .int 0, .ref q3, .int 0, .int 0, .int 0, .int 0, .int 0, .int 0, .int 0, .int 0, .ref q4, .null, .null, .null, .null, .null, .int 0, .null, .int 0, .null, .null, .null, .null, .null, .null, .int 0])), (q1, .inl (G 0, 196, .inl (fun _ => 0))), (q2, .inl (G 0, 49, .inl (fun _ => 0))), (q3, .inl (G 0, 320, .inl (fun _ => 0))), (q4, .inl (G 0, 11, .inl (upd (upd (upd (upd (upd (upd (upd (upd (upd (upd (upd (fun _ => 0) 0 0) 1 5) 2 12) 3 18) 4 23) 5 28) 6 34) 7 42) 8 46) 9 50) 10 54))), (q5, .inl (G 0, 54, .inl (upd g20 8 101)))] := hD
  have hlt23 := LTs (g := g20) (k := 8) (c := 101) hlt21 (by rfl)
  generalize (upd g20 8 101) = g22 at hP hD hlt23
  refine lv_dup hx hb dX11_init_149 rfl ?_
  refine lv_bipush (v := 9) hx hb dX11_init_150 (by decide) ?_
  refine lv_bipush (v := 116) hx hb dX11_init_152 (by decide) ?_
  refine va_iast hx hb hK.1 hP hD hS 5 0 rfl rfl (vp_in_iff.mpr ⟨by decide, by decide⟩) dX11_init_154 (fun H locs hP hD hS => ?_)
  have hP : va_P (dC, dI) vwCl [(h0, .inr (11, [.ref q1, .int 0, .int 0, .ref q2, .int 0, .int 0, .int 0, .int 0, .int 0, .int 0, .ref q3, .int 0, .int 0, .int 0, .int 0, .int 0, .int 0, .int 0, .int 0, .ref q4, .null, .null, .null, .null, .null, .int 0, .null, .int 0, .null, .null, .null, .null, .null, .null, .int 0])), (q1, .inl (G 0, 196, .inl (fun _ => 0))), (q2, .inl (G 0, 49, .inl (fun _ => 0))), (q3, .inl (G 0, 320, .inl (fun _ => 0))), (q4, .inl (G 0, 11, .inl (upd (upd (upd (upd (upd (upd (upd (upd (upd (upd (upd (fun _ => 0) 0 0) 1 5) 2 12) 3 18) 4 23) 5 28) 6 34) 7 42) 8 46) 9 50) 10 54))), (q5, .inl (G 0, 54, .inl (upd g22 9 116)))] H := hP
  have hD : va_D A [(h0, .inr (11, [.ref q1, .int 0, .int 0, .ref q2, .int 0, .int 0, .int 0, .int 0, .int 0, .int 0, .ref q3, .int 0, .int 0, .int 0, .int 0, .int 0, .int 0, .int 0, .int 0, .ref q4, .null, .null, .null, .null, .null, .int 0, .null, .int 0, .null, .null, .null, .null, .null, .null, .int 0])), (q1, .inl (G 0, 196, .inl (fun _ => 0))), (q2, .inl (G 0, 49, .inl (fun _ => 0))), (q3, .inl (G 0, 320, .inl (fun _ => 0))), (q4, .inl (G 0, 11, .inl (upd (upd (upd (upd (upd (upd (upd (upd (upd (upd (upd (fun _ => 0) 0 0) 1 5) 2 12) 3 18) 4 23) 5 28) 6 34) 7 42) 8 46) 9 50) 10 54))), (q5, .inl (G 0, 54, .inl (upd g22 9 116)))] := hD
  have hlt25 := LTs (g := g22) (k := 9) (c := 116) hlt23 (by rfl)
  generalize (upd g22 9 116) = g24 at hP hD hlt25
  refine lv_dup hx hb dX11_init_155 rfl ?_
  refine lv_bipush (v := 10) hx hb dX11_init_156 (by decide) ?_
  refine lv_bipush (v := 99) hx hb dX11_init_158 (by decide) ?_
  refine va_iast hx hb hK.1 hP hD hS 5 0 rfl rfl (vp_in_iff.mpr ⟨by decide, by decide⟩) dX11_init_160 (fun H locs hP hD hS => ?_)
  have hP : va_P (dC, dI) vwCl [(h0, .inr (11, [.ref q1, .int 0, .int 0, .ref q2, .int 0, .int 0, .int 0, .int 0, .int 0, .int 0, .ref q3, .int 0, .int 0, .int 0, .int 0, .int 0, .int 0, .int 0, .int 0, .ref q4, .null, .null, .null, .null, .null, .int 0, .null, .int 0, .null, .null, .null, .null, .null, .null, .int 0])), (q1, .inl (G 0, 196, .inl (fun _ => 0))), (q2, .inl (G 0, 49, .inl (fun _ => 0))), (q3, .inl (G 0, 320, .inl (fun _ => 0))), (q4, .inl (G 0, 11, .inl (upd (upd (upd (upd (upd (upd (upd (upd (upd (upd (upd (fun _ => 0) 0 0) 1 5) 2 12) 3 18) 4 23) 5 28) 6 34) 7 42) 8 46) 9 50) 10 54))), (q5, .inl (G 0, 54, .inl (upd g24 10 99)))] H := hP
  have hD : va_D A [(h0, .inr (11, [.ref q1, .int 0, .int 0, .ref q2, .int 0, .int 0, .int 0, .int 0, .int 0, .int 0, .ref q3, .int 0, .int 0, .int 0, .int 0, .int 0, .int 0, .int 0, .int 0, .ref q4, .null, .null, .null, .null, .null, .int 0, .null, .int 0, .null, .null, .null, .null, .null, .null, .int 0])), (q1, .inl (G 0, 196, .inl (fun _ => 0))), (q2, .inl (G 0, 49, .inl (fun _ => 0))), (q3, .inl (G 0, 320, .inl (fun _ => 0))), (q4, .inl (G 0, 11, .inl (upd (upd (upd (upd (upd (upd (upd (upd (upd (upd (upd (fun _ => 0) 0 0) 1 5) 2 12) 3 18) 4 23) 5 28) 6 34) 7 42) 8 46) 9 50) 10 54))), (q5, .inl (G 0, 54, .inl (upd g24 10 99)))] := hD
  have hlt27 := LTs (g := g24) (k := 10) (c := 99) hlt25 (by rfl)
  generalize (upd g24 10 99) = g26 at hP hD hlt27
  refine lv_dup hx hb dX11_init_161 rfl ?_
  refine lv_bipush (v := 11) hx hb dX11_init_162 (by decide) ?_
  refine lv_bipush (v := 104) hx hb dX11_init_164 (by decide) ?_
  refine va_iast hx hb hK.1 hP hD hS 5 0 rfl rfl (vp_in_iff.mpr ⟨by decide, by decide⟩) dX11_init_166 (fun H locs hP hD hS => ?_)
  have hP : va_P (dC, dI) vwCl [(h0, .inr (11, [.ref q1, .int 0, .int 0, .ref q2, .int 0, .int 0, .int 0, .int 0, .int 0, .int 0, .ref q3, .int 0, .int 0, .int 0, .int 0, .int 0, .int 0, .int 0, .int 0, .ref q4, .null, .null, .null, .null, .null, .int 0, .null, .int 0, .null, .null, .null, .null, .null, .null, .int 0])), (q1, .inl (G 0, 196, .inl (fun _ => 0))), (q2, .inl (G 0, 49, .inl (fun _ => 0))), (q3, .inl (G 0, 320, .inl (fun _ => 0))), (q4, .inl (G 0, 11, .inl (upd (upd (upd (upd (upd (upd (upd (upd (upd (upd (upd (fun _ => 0) 0 0) 1 5) 2 12) 3 18) 4 23) 5 28) 6 34) 7 42) 8 46) 9 50) 10 54))), (q5, .inl (G 0, 54, .inl (upd g26 11 104)))] H := hP
  have hD : va_D A [(h0, .inr (11, [.ref q1, .int 0, .int 0, .ref q2, .int 0, .int 0, .int 0, .int 0, .int 0, .int 0, .ref q3, .int 0, .int 0, .int 0, .int 0, .int 0, .int 0, .int 0, .int 0, .ref q4, .null, .null, .null, .null, .null, .int 0, .null, .int 0, .null, .null, .null, .null, .null, .null, .int 0])), (q1, .inl (G 0, 196, .inl (fun _ => 0))), (q2, .inl (G 0, 49, .inl (fun _ => 0))), (q3, .inl (G 0, 320, .inl (fun _ => 0))), (q4, .inl (G 0, 11, .inl (upd (upd (upd (upd (upd (upd (upd (upd (upd (upd (upd (fun _ => 0) 0 0) 1 5) 2 12) 3 18) 4 23) 5 28) 6 34) 7 42) 8 46) 9 50) 10 54))), (q5, .inl (G 0, 54, .inl (upd g26 11 104)))] := hD
  have hlt29 := LTs (g := g26) (k := 11) (c := 104) hlt27 (by rfl)
  generalize (upd g26 11 104) = g28 at hP hD hlt29
  refine lv_dup hx hb dX11_init_167 rfl ?_
  refine lv_bipush (v := 12) hx hb dX11_init_168 (by decide) ?_
  refine lv_bipush (v := 98) hx hb dX11_init_170 (by decide) ?_
  refine va_iast hx hb hK.1 hP hD hS 5 0 rfl rfl (vp_in_iff.mpr ⟨by decide, by decide⟩) dX11_init_172 (fun H locs hP hD hS => ?_)
  have hP : va_P (dC, dI) vwCl [(h0, .inr (11, [.ref q1, .int 0, .int 0, .ref q2, .int 0, .int 0, .int 0, .int 0, .int 0, .int 0, .ref q3, .int 0, .int 0, .int 0, .int 0, .int 0, .int 0, .int 0, .int 0, .ref q4, .null, .null, .null, .null, .null, .int 0, .null, .int 0, .null, .null, .null, .null, .null, .null, .int 0])), (q1, .inl (G 0, 196, .inl (fun _ => 0))), (q2, .inl (G 0, 49, .inl (fun _ => 0))), (q3, .inl (G 0, 320, .inl (fun _ => 0))), (q4, .inl (G 0, 11, .inl (upd (upd (upd (upd (upd (upd (upd (upd (upd (upd (upd (fun _ => 0) 0 0) 1 5) 2 12) 3 18) 4 23) 5 28) 6 34) 7 42) 8 46) 9 50) 10 54))), (q5, .inl (G 0, 54, .inl (upd g28 12 98)))] H := hP
  have hD : va_D A [(h0, .inr (11, [.ref q1, .int 0, .int 0, .ref q2, .int 0, .int 0, .int 0, .int 0, .int 0, .int 0, .ref q3, .int 0, .int 0, .int 0, .int 0, .int 0, .int 0, .int 0, .int 0, .ref q4, .null, .null, .null, .null, .null, .int 0, .null, .int 0, .null, .null, .null, .null, .null, .null, .int 0])), (q1, .inl (G 0, 196, .inl (fun _ => 0))), (q2, .inl (G 0, 49, .inl (fun _ => 0))), (q3, .inl (G 0, 320, .inl (fun _ => 0))), (q4, .inl (G 0, 11, .inl (upd (upd (upd (upd (upd (upd (upd (upd (upd (upd (upd (fun _ => 0) 0 0) 1 5) 2 12) 3 18) 4 23) 5 28) 6 34) 7 42) 8 46) 9 50) 10 54))), (q5, .inl (G 0, 54, .inl (upd g28 12 98)))] := hD
  have hlt31 := LTs (g := g28) (k := 12) (c := 98) hlt29 (by rfl)
  generalize (upd g28 12 98) = g30 at hP hD hlt31
  refine lv_dup hx hb dX11_init_173 rfl ?_
  refine lv_bipush (v := 13) hx hb dX11_init_174 (by decide) ?_
  refine lv_bipush (v := 101) hx hb dX11_init_176 (by decide) ?_
  refine va_iast hx hb hK.1 hP hD hS 5 0 rfl rfl (vp_in_iff.mpr ⟨by decide, by decide⟩) dX11_init_178 (fun H locs hP hD hS => ?_)
  have hP : va_P (dC, dI) vwCl [(h0, .inr (11, [.ref q1, .int 0, .int 0, .ref q2, .int 0, .int 0, .int 0, .int 0, .int 0, .int 0, .ref q3, .int 0, .int 0, .int 0, .int 0, .int 0, .int 0, .int 0, .int 0, .ref q4, .null, .null, .null, .null, .null, .int 0, .null, .int 0, .null, .null, .null, .null, .null, .null, .int 0])), (q1, .inl (G 0, 196, .inl (fun _ => 0))), (q2, .inl (G 0, 49, .inl (fun _ => 0))), (q3, .inl (G 0, 320, .inl (fun _ => 0))), (q4, .inl (G 0, 11, .inl (upd (upd (upd (upd (upd (upd (upd (upd (upd (upd (upd (fun _ => 0) 0 0) 1 5) 2 12) 3 18) 4 23) 5 28) 6 34) 7 42) 8 46) 9 50) 10 54))), (q5, .inl (G 0, 54, .inl (upd g30 13 101)))] H := hP
  have hD : va_D A [(h0, .inr (11, [.ref q1, .int 0, .int 0, .ref q2, .int 0, .int 0, .int 0, .int 0, .int 0, .int 0, .ref q3, .int 0, .int 0, .int 0, .int 0, .int 0, .int 0, .int 0, .int 0, .ref q4, .null, .null, .null, .null, .null, .int 0, .null, .int 0, .null, .null, .null, .null, .null, .null, .int 0])), (q1, .inl (G 0, 196, .inl (fun _ => 0))), (q2, .inl (G 0, 49, .inl (fun _ => 0))), (q3, .inl (G 0, 320, .inl (fun _ => 0))), (q4, .inl (G 0, 11, .inl (upd (upd (upd (upd (upd (upd (upd (upd (upd (upd (upd (fun _ => 0) 0 0) 1 5) 2 12) 3 18) 4 23) 5 28) 6 34) 7 42) 8 46) 9 50) 10 54))), (q5, .inl (G 0, 54, .inl (upd g30 13 101)))] := hD
  have hlt33 := LTs (g := g30) (k := 13) (c := 101) hlt31 (by rfl)
  generalize (upd g30 13 101) = g32 at hP hD hlt33
  refine lv_dup hx hb dX11_init_179 rfl ?_
  refine lv_bipush (v := 14) hx hb dX11_init_180 (by decide) ?_
  refine lv_bipush (v := 97) hx hb dX11_init_182 (by decide) ?_
  refine va_iast hx hb hK.1 hP hD hS 5 0 rfl rfl (vp_in_iff.mpr ⟨by decide, by decide⟩) dX11_init_184 (fun H locs hP hD hS => ?_)
  have hP : va_P (dC, dI) vwCl [(h0, .inr (11, [.ref q1, .int 0, .int 0, .ref q2, .int 0, .int 0, .int 0, .int 0, .int 0, .int 0, .ref q3, .int 0, .int 0, .int 0, .int 0, .int 0, .int 0, .int 0, .int 0, .ref q4, .null, .null, .null, .null, .null, .int 0, .null, .int 0, .null, .null, .null, .null, .null, .null, .int 0])), (q1, .inl (G 0, 196, .inl (fun _ => 0))), (q2, .inl (G 0, 49, .inl (fun _ => 0))), (q3, .inl (G 0, 320, .inl (fun _ => 0))), (q4, .inl (G 0, 11, .inl (upd (upd (upd (upd (upd (upd (upd (upd (upd (upd (upd (fun _ => 0) 0 0) 1 5) 2 12) 3 18) 4 23) 5 28) 6 34) 7 42) 8 46) 9 50) 10 54))), (q5, .inl (G 0, 54, .inl (upd g32 14 97)))] H := hP
  have hD : va_D A [(h0, .inr (11, [.ref q1, .int 0, .int 0, .ref q2, .int 0, .int 0, .int 0, .int 0, .int 0, .int 0, .ref q3, .int 0, .int 0, .int 0, .int 0, .int 0, .int 0, .int 0, .int 0, .ref q4, .null, .null, .null, .null, .null, .int 0, .null, .int 0, .null, .null, .null, .null, .null, .null, .int 0])), (q1, .inl (G 0, 196, .inl (fun _ => 0))), (q2, .inl (G 0, 49, .inl (fun _ => 0))), (q3, .inl (G 0, 320, .inl (fun _ => 0))), (q4, .inl (G 0, 11, .inl (upd (upd (upd (upd (upd (upd (upd (upd (upd (upd (upd (fun _ => 0) 0 0) 1 5) 2 12) 3 18) 4 23) 5 28) 6 34) 7 42) 8 46) 9 50) 10 54))), (q5, .inl (G 0, 54, .inl (upd g32 14 97)))] := hD
  have hlt35 := LTs (g := g32) (k := 14) (c := 97) hlt33 (by rfl)
  generalize (upd g32 14 97) = g34 at hP hD hlt35
  refine lv_dup hx hb dX11_init_185 rfl ?_
  refine lv_bipush (v := 15) hx hb dX11_init_186 (by decide) ?_
  refine lv_bipush (v := 114) hx hb dX11_init_188 (by decide) ?_
  refine va_iast hx hb hK.1 hP hD hS 5 0 rfl rfl (vp_in_iff.mpr ⟨by decide, by decide⟩) dX11_init_190 (fun H locs hP hD hS => ?_)
  have hP : va_P (dC, dI) vwCl [(h0, .inr (11, [.ref q1, .int 0, .int 0, .ref q2, .int 0, .int 0, .int 0, .int 0, .int 0, .int 0, .ref q3, .int 0, .int 0, .int 0, .int 0, .int 0, .int 0, .int 0, .int 0, .ref q4, .null, .null, .null, .null, .null, .int 0, .null, .int 0, .null, .null, .null, .null, .null, .null, .int 0])), (q1, .inl (G 0, 196, .inl (fun _ => 0))), (q2, .inl (G 0, 49, .inl (fun _ => 0))), (q3, .inl (G 0, 320, .inl (fun _ => 0))), (q4, .inl (G 0, 11, .inl (upd (upd (upd (upd (upd (upd (upd (upd (upd (upd (upd (fun _ => 0) 0 0) 1 5) 2 12) 3 18) 4 23) 5 28) 6 34) 7 42) 8 46) 9 50) 10 54))), (q5, .inl (G 0, 54, .inl (upd g34 15 114)))] H := hP
  have hD : va_D A [(h0, .inr (11, [.ref q1, .int 0, .int 0, .ref q2, .int 0, .int 0, .int 0, .int 0, .int 0, .int 0, .ref q3, .int 0, .int 0, .int 0, .int 0, .int 0, .int 0, .int 0, .int 0, .ref q4, .null, .null, .null, .null, .null, .int 0, .null, .int 0, .null, .null, .null, .null, .null, .null, .int 0])), (q1, .inl (G 0, 196, .inl (fun _ => 0))), (q2, .inl (G 0, 49, .inl (fun _ => 0))), (q3, .inl (G 0, 320, .inl (fun _ => 0))), (q4, .inl (G 0, 11, .inl (upd (upd (upd (upd (upd (upd (upd (upd (upd (upd (upd (fun _ => 0) 0 0) 1 5) 2 12) 3 18) 4 23) 5 28) 6 34) 7 42) 8 46) 9 50) 10 54))), (q5, .inl (G 0, 54, .inl (upd g34 15 114)))] := hD
  have hlt37 := LTs (g := g34) (k := 15) (c := 114) hlt35 (by rfl)
  generalize (upd g34 15 114) = g36 at hP hD hlt37
  refine lv_dup hx hb dX11_init_191 rfl ?_
  refine lv_bipush (v := 16) hx hb dX11_init_192 (by decide) ?_
  refine lv_bipush (v := 101) hx hb dX11_init_194 (by decide) ?_
  refine va_iast hx hb hK.1 hP hD hS 5 0 rfl rfl (vp_in_iff.mpr ⟨by decide, by decide⟩) dX11_init_196 (fun H locs hP hD hS => ?_)
  have hP : va_P (dC, dI) vwCl [(h0, .inr (11, [.ref q1, .int 0, .int 0, .ref q2, .int 0, .int 0, .int 0, .int 0, .int 0, .int 0, .ref q3, .int 0, .int 0, .int 0, .int 0, .int 0, .int 0, .int 0, .int 0, .ref q4, .null, .null, .null, .null, .null, .int 0, .null, .int 0, .null, .null, .null, .null, .null, .null, .int 0])), (q1, .inl (G 0, 196, .inl (fun _ => 0))), (q2, .inl (G 0, 49, .inl (fun _ => 0))), (q3, .inl (G 0, 320, .inl (fun _ => 0))), (q4, .inl (G 0, 11, .inl (upd (upd (upd (upd (upd (upd (upd (upd (upd (upd (upd (fun _ => 0) 0 0) 1 5) 2 12) 3 18) 4 23) 5 28) 6 34) 7 42) 8 46) 9 50) 10 54))), (q5, .inl (G 0, 54, .inl (upd g36 16 101)))] H := hP
  have hD : va_D A [(h0, .inr (11, [.ref q1, .int 0, .int 0, .ref q2, .int 0, .int 0, .int 0, .int 0, .int 0, .int 0, .ref q3, .int 0, .int 0, .int 0, .int 0, .int 0, .int 0, .int 0, .int 0, .ref q4, .null, .null, .null, .null, .null, .int 0, .null, .int 0, .null, .null, .null, .null, .null, .null, .int 0])), (q1, .inl (G 0, 196, .inl (fun _ => 0))), (q2, .inl (G 0, 49, .inl (fun _ => 0))), (q3, .inl (G 0, 320, .inl (fun _ => 0))), (q4, .inl (G 0, 11, .inl (upd (upd (upd (upd (upd (upd (upd (upd (upd (upd (upd (fun _ => 0) 0 0) 1 5) 2 12) 3 18) 4 23) 5 28) 6 34) 7 42) 8 46) 9 50) 10 54))), (q5, .inl (G 0, 54, .inl (upd g36 16 101)))] := hD
  have hlt39 := LTs (g := g36) (k := 16) (c := 101) hlt37 (by rfl)
  generalize (upd g36 16 101) = g38 at hP hD hlt39
  refine lv_dup hx hb dX11_init_197 rfl ?_
  refine lv_bipush (v := 17) hx hb dX11_init_198 (by decide) ?_
  refine lv_bipush (v := 114) hx hb dX11_init_200 (by decide) ?_
  refine va_iast hx hb hK.1 hP hD hS 5 0 rfl rfl (vp_in_iff.mpr ⟨by decide, by decide⟩) dX11_init_202 (fun H locs hP hD hS => ?_)
  have hP : va_P (dC, dI) vwCl [(h0, .inr (11, [.ref q1, .int 0, .int 0, .ref q2, .int 0, .int 0, .int 0, .int 0, .int 0, .int 0, .ref q3, .int 0, .int 0, .int 0, .int 0, .int 0, .int 0, .int 0, .int 0, .ref q4, .null, .null, .null, .null, .null, .int 0, .null, .int 0, .null, .null, .null, .null, .null, .null, .int 0])), (q1, .inl (G 0, 196, .inl (fun _ => 0))), (q2, .inl (G 0, 49, .inl (fun _ => 0))), (q3, .inl (G 0, 320, .inl (fun _ => 0))), (q4, .inl (G 0, 11, .inl (upd (upd (upd (upd (upd (upd (upd (upd (upd (upd (upd (fun _ => 0) 0 0) 1 5) 2 12) 3 18) 4 23) 5 28) 6 34) 7 42) 8 46) 9 50) 10 54))), (q5, .inl (G 0, 54, .inl (upd g38 17 114)))] H := hP
  have hD : va_D A [(h0, .inr (11, [.ref q1, .int 0, .int 0, .ref q2, .int 0, .int 0, .int 0, .int 0, .int 0, .int 0, .ref q3, .int 0, .int 0, .int 0, .int 0, .int 0, .int 0, .int 0, .int 0, .ref q4, .null, .null, .null, .null, .null, .int 0, .null, .int 0, .null, .null, .null, .null, .null, .null, .int 0])), (q1, .inl (G 0, 196, .inl (fun _ => 0))), (q2, .inl (G 0, 49, .inl (fun _ => 0))), (q3, .inl (G 0, 320, .inl (fun _ => 0))), (q4, .inl (G 0, 11, .inl (upd (upd (upd (upd (upd (upd (upd (upd (upd (upd (upd (fun _ => 0) 0 0) 1 5) 2 12) 3 18) 4 23) 5 28) 6 34) 7 42) 8 46) 9 50) 10 54))), (q5, .inl (G 0, 54, .inl (upd g38 17 114)))] := hD
  have hlt41 := LTs (g := g38) (k := 17) (c := 114) hlt39 (by rfl)
  generalize (upd g38 17 114) = g40 at hP hD hlt41
  refine lv_dup hx hb dX11_init_203 rfl ?_
  refine lv_bipush (v := 18) hx hb dX11_init_204 (by decide) ?_
  refine lv_bipush (v := 99) hx hb dX11_init_206 (by decide) ?_
  refine va_iast hx hb hK.1 hP hD hS 5 0 rfl rfl (vp_in_iff.mpr ⟨by decide, by decide⟩) dX11_init_208 (fun H locs hP hD hS => ?_)
  have hP : va_P (dC, dI) vwCl [(h0, .inr (11, [.ref q1, .int 0, .int 0, .ref q2, .int 0, .int 0, .int 0, .int 0, .int 0, .int 0, .ref q3, .int 0, .int 0, .int 0, .int 0, .int 0, .int 0, .int 0, .int 0, .ref q4, .null, .null, .null, .null, .null, .int 0, .null, .int 0, .null, .null, .null, .null, .null, .null, .int 0])), (q1, .inl (G 0, 196, .inl (fun _ => 0))), (q2, .inl (G 0, 49, .inl (fun _ => 0))), (q3, .inl (G 0, 320, .inl (fun _ => 0))), (q4, .inl (G 0, 11, .inl (upd (upd (upd (upd (upd (upd (upd (upd (upd (upd (upd (fun _ => 0) 0 0) 1 5) 2 12) 3 18) 4 23) 5 28) 6 34) 7 42) 8 46) 9 50) 10 54))), (q5, .inl (G 0, 54, .inl (upd g40 18 99)))] H := hP
  have hD : va_D A [(h0, .inr (11, [.ref q1, .int 0, .int 0, .ref q2, .int 0, .int 0, .int 0, .int 0, .int 0, .int 0, .ref q3, .int 0, .int 0, .int 0, .int 0, .int 0, .int 0, .int 0, .int 0, .ref q4, .null, .null, .null, .null, .null, .int 0, .null, .int 0, .null, .null, .null, .null, .null, .null, .int 0])), (q1, .inl (G 0, 196, .inl (fun _ => 0))), (q2, .inl (G 0, 49, .inl (fun _ => 0))), (q3, .inl (G 0, 320, .inl (fun _ => 0))), (q4, .inl (G 0, 11, .inl (upd (upd (upd (upd (upd (upd (upd (upd (upd (upd (upd (fun _ => 0) 0 0) 1 5) 2 12) 3 18) 4 23) 5 28) 6 34) 7 42) 8 46) 9 50) 10 54))), (q5, .inl (G 0, 54, .inl (upd g40 18 99)))] := hD
  have hlt43 := LTs (g := g40) (k := 18) (c := 99) hlt41 (by rfl)
  generalize (upd g40 18 99) = g42 at hP hD hlt43
  refine lv_dup hx hb dX11_init_209 rfl ?_
  refine lv_bipush (v := 19) hx hb dX11_init_210 (by decide) ?_
  refine lv_bipush (v := 97) hx hb dX11_init_212 (by decide) ?_
  refine va_iast hx hb hK.1 hP hD hS 5 0 rfl rfl (vp_in_iff.mpr ⟨by decide, by decide⟩) dX11_init_214 (fun H locs hP hD hS => ?_)
  have hP : va_P (dC, dI) vwCl [(h0, .inr (11, [.ref q1, .int 0, .int 0, .ref q2, .int 0, .int 0, .int 0, .int 0, .int 0, .int 0, .ref q3, .int 0, .int 0, .int 0, .int 0, .int 0, .int 0, .int 0, .int 0, .ref q4, .null, .null, .null, .null, .null, .int 0, .null, .int 0, .null, .null, .null, .null, .null, .null, .int 0])), (q1, .inl (G 0, 196, .inl (fun _ => 0))), (q2, .inl (G 0, 49, .inl (fun _ => 0))), (q3, .inl (G 0, 320, .inl (fun _ => 0))), (q4, .inl (G 0, 11, .inl (upd (upd (upd (upd (upd (upd (upd (upd (upd (upd (upd (fun _ => 0) 0 0) 1 5) 2 12) 3 18) 4 23) 5 28) 6 34) 7 42) 8 46) 9 50) 10 54))), (q5, .inl (G 0, 54, .inl (upd g42 19 97)))] H := hP
  have hD : va_D A [(h0, .inr (11, [.ref q1, .int 0, .int 0, .ref q2, .int 0, .int 0, .int 0, .int 0, .int 0, .int 0, .ref q3, .int 0, .int 0, .int 0, .int 0, .int 0, .int 0, .int 0, .int 0, .ref q4, .null, .null, .null, .null, .null, .int 0, .null, .int 0, .null, .null, .null, .null, .null, .null, .int 0])), (q1, .inl (G 0, 196, .inl (fun _ => 0))), (q2, .inl (G 0, 49, .inl (fun _ => 0))), (q3, .inl (G 0, 320, .inl (fun _ => 0))), (q4, .inl (G 0, 11, .inl (upd (upd (upd (upd (upd (upd (upd (upd (upd (upd (upd (fun _ => 0) 0 0) 1 5) 2 12) 3 18) 4 23) 5 28) 6 34) 7 42) 8 46) 9 50) 10 54))), (q5, .inl (G 0, 54, .inl (upd g42 19 97)))] := hD
  have hlt45 := LTs (g := g42) (k := 19) (c := 97) hlt43 (by rfl)
  generalize (upd g42 19 97) = g44 at hP hD hlt45
  refine lv_dup hx hb dX11_init_215 rfl ?_
  refine lv_bipush (v := 20) hx hb dX11_init_216 (by decide) ?_
  refine lv_bipush (v := 114) hx hb dX11_init_218 (by decide) ?_
  refine va_iast hx hb hK.1 hP hD hS 5 0 rfl rfl (vp_in_iff.mpr ⟨by decide, by decide⟩) dX11_init_220 (fun H locs hP hD hS => ?_)
  have hP : va_P (dC, dI) vwCl [(h0, .inr (11, [.ref q1, .int 0, .int 0, .ref q2, .int 0, .int 0, .int 0, .int 0, .int 0, .int 0, .ref q3, .int 0, .int 0, .int 0, .int 0, .int 0, .int 0, .int 0, .int 0, .ref q4, .null, .null, .null, .null, .null, .int 0, .null, .int 0, .null, .null, .null, .null, .null, .null, .int 0])), (q1, .inl (G 0, 196, .inl (fun _ => 0))), (q2, .inl (G 0, 49, .inl (fun _ => 0))), (q3, .inl (G 0, 320, .inl (fun _ => 0))), (q4, .inl (G 0, 11, .inl (upd (upd (upd (upd (upd (upd (upd (upd (upd (upd (upd (fun _ => 0) 0 0) 1 5) 2 12) 3 18) 4 23) 5 28) 6 34) 7 42) 8 46) 9 50) 10 54))), (q5, .inl (G 0, 54, .inl (upd g44 20 114)))] H := hP
  have hD : va_D A [(h0, .inr (11, [.ref q1, .int 0, .int 0, .ref q2, .int 0, .int 0, .int 0, .int 0, .int 0, .int 0, .ref q3, .int 0, .int 0, .int 0, .int 0, .int 0, .int 0, .int 0, .int 0, .ref q4, .null, .null, .null, .null, .null, .int 0, .null, .int 0, .null, .null, .null, .null, .null, .null, .int 0])), (q1, .inl (G 0, 196, .inl (fun _ => 0))), (q2, .inl (G 0, 49, .inl (fun _ => 0))), (q3, .inl (G 0, 320, .inl (fun _ => 0))), (q4, .inl (G 0, 11, .inl (upd (upd (upd (upd (upd (upd (upd (upd (upd (upd (upd (fun _ => 0) 0 0) 1 5) 2 12) 3 18) 4 23) 5 28) 6 34) 7 42) 8 46) 9 50) 10 54))), (q5, .inl (G 0, 54, .inl (upd g44 20 114)))] := hD
  have hlt47 := LTs (g := g44) (k := 20) (c := 114) hlt45 (by rfl)
  generalize (upd g44 20 114) = g46 at hP hD hlt47
  refine lv_dup hx hb dX11_init_221 rfl ?_
  refine lv_bipush (v := 21) hx hb dX11_init_222 (by decide) ?_
  refine lv_bipush (v := 114) hx hb dX11_init_224 (by decide) ?_
  refine va_iast hx hb hK.1 hP hD hS 5 0 rfl rfl (vp_in_iff.mpr ⟨by decide, by decide⟩) dX11_init_226 (fun H locs hP hD hS => ?_)
  have hP : va_P (dC, dI) vwCl [(h0, .inr (11, [.ref q1, .int 0, .int 0, .ref q2, .int 0, .int 0, .int 0, .int 0, .int 0, .int 0, .ref q3, .int 0, .int 0, .int 0, .int 0, .int 0, .int 0, .int 0, .int 0, .ref q4, .null, .null, .null, .null, .null, .int 0, .null, .int 0, .null, .null, .null, .null, .null, .null, .int 0])), (q1, .inl (G 0, 196, .inl (fun _ => 0))), (q2, .inl (G 0, 49, .inl (fun _ => 0))), (q3, .inl (G 0, 320, .inl (fun _ => 0))), (q4, .inl (G 0, 11, .inl (upd (upd (upd (upd (upd (upd (upd (upd (upd (upd (upd (fun _ => 0) 0 0) 1 5) 2 12) 3 18) 4 23) 5 28) 6 34) 7 42) 8 46) 9 50) 10 54))), (q5, .inl (G 0, 54, .inl (upd g46 21 114)))] H := hP
  have hD : va_D A [(h0, .inr (11, [.ref q1, .int 0, .int 0, .ref q2, .int 0, .int 0, .int 0, .int 0, .int 0, .int 0, .ref q3, .int 0, .int 0, .int 0, .int 0, .int 0, .int 0, .int 0, .int 0, .ref q4, .null, .null, .null, .null, .null, .int 0, .null, .int 0, .null, .null, .null, .null, .null, .null, .int 0])), (q1, .inl (G 0, 196, .inl (fun _ => 0))), (q2, .inl (G 0, 49, .inl (fun _ => 0))), (q3, .inl (G 0, 320, .inl (fun _ => 0))), (q4, .inl (G 0, 11, .inl (upd (upd (upd (upd (upd (upd (upd (upd (upd (upd (upd (fun _ => 0) 0 0) 1 5) 2 12) 3 18) 4 23) 5 28) 6 34) 7 42) 8 46) 9 50) 10 54))), (q5, .inl (G 0, 54, .inl (upd g46 21 114)))] := hD
  have hlt49 := LTs (g := g46) (k := 21) (c := 114) hlt47 (by rfl)
  generalize (upd g46 21 114) = g48 at hP hD hlt49
  refine lv_dup hx hb dX11_init_227 rfl ?_
  refine lv_bipush (v := 22) hx hb dX11_init_228 (by decide) ?_
  refine lv_bipush (v := 121) hx hb dX11_init_230 (by decide) ?_
  refine va_iast hx hb hK.1 hP hD hS 5 0 rfl rfl (vp_in_iff.mpr ⟨by decide, by decide⟩) dX11_init_232 (fun H locs hP hD hS => ?_)
  have hP : va_P (dC, dI) vwCl [(h0, .inr (11, [.ref q1, .int 0, .int 0, .ref q2, .int 0, .int 0, .int 0, .int 0, .int 0, .int 0, .ref q3, .int 0, .int 0, .int 0, .int 0, .int 0, .int 0, .int 0, .int 0, .ref q4, .null, .null, .null, .null, .null, .int 0, .null, .int 0, .null, .null, .null, .null, .null, .null, .int 0])), (q1, .inl (G 0, 196, .inl (fun _ => 0))), (q2, .inl (G 0, 49, .inl (fun _ => 0))), (q3, .inl (G 0, 320, .inl (fun _ => 0))), (q4, .inl (G 0, 11, .inl (upd (upd (upd (upd (upd (upd (upd (upd (upd (upd (upd (fun _ => 0) 0 0) 1 5) 2 12) 3 18) 4 23) 5 28) 6 34) 7 42) 8 46) 9 50) 10 54))), (q5, .inl (G 0, 54, .inl (upd g48 22 121)))] H := hP
  have hD : va_D A [(h0, .inr (11, [.ref q1, .int 0, .int 0, .ref q2, .int 0, .int 0, .int 0, .int 0, .int 0, .int 0, .ref q3, .int 0, .int 0, .int 0, .int 0, .int 0, .int 0, .int 0, .int 0, .ref q4, .null, .null, .null, .null, .null, .int 0, .null, .int 0, .null, .null, .null, .null, .null, .null, .int 0])), (q1, .inl (G 0, 196, .inl (fun _ => 0))), (q2, .inl (G 0, 49, .inl (fun _ => 0))), (q3, .inl (G 0, 320, .inl (fun _ => 0))), (q4, .inl (G 0, 11, .inl (upd (upd (upd (upd (upd (upd (upd (upd (upd (upd (upd (fun _ => 0) 0 0) 1 5) 2 12) 3 18) 4 23) 5 28) 6 34) 7 42) 8 46) 9 50) 10 54))), (q5, .inl (G 0, 54, .inl (upd g48 22 121)))] := hD
  have hlt51 := LTs (g := g48) (k := 22) (c := 121) hlt49 (by rfl)
  generalize (upd g48 22 121) = g50 at hP hD hlt51
  refine lv_dup hx hb dX11_init_233 rfl ?_
  refine lv_bipush (v := 23) hx hb dX11_init_234 (by decide) ?_
  refine lv_bipush (v := 112) hx hb dX11_init_236 (by decide) ?_
  refine va_iast hx hb hK.1 hP hD hS 5 0 rfl rfl (vp_in_iff.mpr ⟨by decide, by decide⟩) dX11_init_238 (fun H locs hP hD hS => ?_)
  have hP : va_P (dC, dI) vwCl [(h0, .inr (11, [.ref q1, .int 0, .int 0, .ref q2, .int 0, .int 0, .int 0, .int 0, .int 0, .int 0, .ref q3, .int 0, .int 0, .int 0, .int 0, .int 0, .int 0, .int 0, .int 0, .ref q4, .null, .null, .null, .null, .null, .int 0, .null, .int 0, .null, .null, .null, .null, .null, .null, .int 0])), (q1, .inl (G 0, 196, .inl (fun _ => 0))), (q2, .inl (G 0, 49, .inl (fun _ => 0))), (q3, .inl (G 0, 320, .inl (fun _ => 0))), (q4, .inl (G 0, 11, .inl (upd (upd (upd (upd (upd (upd (upd (upd (upd (upd (upd (fun _ => 0) 0 0) 1 5) 2 12) 3 18) 4 23) 5 28) 6 34) 7 42) 8 46) 9 50) 10 54))), (q5, .inl (G 0, 54, .inl (upd g50 23 112)))] H := hP
  have hD : va_D A [(h0, .inr (11, [.ref q1, .int 0, .int 0, .ref q2, .int 0, .int 0, .int 0, .int 0, .int 0, .int 0, .ref q3, .int 0, .int 0, .int 0, .int 0, .int 0, .int 0, .int 0, .int 0, .ref q4, .null, .null, .null, .null, .null, .int 0, .null, .int 0, .null, .null, .null, .null, .null, .null, .int 0])), (q1, .inl (G 0, 196, .inl (fun _ => 0))), (q2, .inl (G 0, 49, .inl (fun _ => 0))), (q3, .inl (G 0, 320, .inl (fun _ => 0))), (q4, .inl (G 0, 11, .inl (upd (upd (upd (upd (upd (upd (upd (upd (upd (upd (upd (fun _ => 0) 0 0) 1 5) 2 12) 3 18) 4 23) 5 28) 6 34) 7 42) 8 46) 9 50) 10 54))), (q5, .inl (G 0, 54, .inl (upd g50 23 112)))] := hD
  have hlt53 := LTs (g := g50) (k := 23) (c := 112) hlt51 (by rfl)
  generalize (upd g50 23 112) = g52 at hP hD hlt53
  refine lv_dup hx hb dX11_init_239 rfl ?_
  refine lv_bipush (v := 24) hx hb dX11_init_240 (by decide) ?_
  refine lv_bipush (v := 108) hx hb dX11_init_242 (by decide) ?_
  refine va_iast hx hb hK.1 hP hD hS 5 0 rfl rfl (vp_in_iff.mpr ⟨by decide, by decide⟩) dX11_init_244 (fun H locs hP hD hS => ?_)
  have hP : va_P (dC, dI) vwCl [(h0, .inr (11, [.ref q1, .int 0, .int 0, .ref q2, .int 0, .int 0, .int 0, .int 0, .int 0, .int 0, .ref q3, .int 0, .int 0, .int 0, .int 0, .int 0, .int 0, .int 0, .int 0, .ref q4, .null, .null, .null, .null, .null, .int 0, .null, .int 0, .null, .null, .null, .null, .null, .null, .int 0])), (q1, .inl (G 0, 196, .inl (fun _ => 0))), (q2, .inl (G 0, 49, .inl (fun _ => 0))), (q3, .inl (G 0, 320, .inl (fun _ => 0))), (q4, .inl (G 0, 11, .inl (upd (upd (upd (upd (upd (upd (upd (upd (upd (upd (upd (fun _ => 0) 0 0) 1 5) 2 12) 3 18) 4 23) 5 28) 6 34) 7 42) 8 46) 9 50) 10 54))), (q5, .inl (G 0, 54, .inl (upd g52 24 108)))] H := hP
  have hD : va_D A [(h0, .inr (11, [.ref q1, .int 0, .int 0, .ref q2, .int 0, .int 0, .int 0, .int 0, .int 0, .int 0, .ref q3, .int 0, .int 0, .int 0, .int 0, .int 0, .int 0, .int 0, .int 0, .ref q4, .null, .null, .null, .null, .null, .int 0, .null, .int 0, .null, .null, .null, .null, .null, .null, .int 0])), (q1, .inl (G 0, 196, .inl (fun _ => 0))), (q2, .inl (G 0, 49, .inl (fun _ => 0))), (q3, .inl (G 0, 320, .inl (fun _ => 0))), (q4, .inl (G 0, 11, .inl (upd (upd (upd (upd (upd (upd (upd (upd (upd (upd (upd (fun _ => 0) 0 0) 1 5) 2 12) 3 18) 4 23) 5 28) 6 34) 7 42) 8 46) 9 50) 10 54))), (q5, .inl (G 0, 54, .inl (upd g52 24 108)))] := hD
  have hlt55 := LTs (g := g52) (k := 24) (c := 108) hlt53 (by rfl)
  generalize (upd g52 24 108) = g54 at hP hD hlt55
  refine lv_dup hx hb dX11_init_245 rfl ?_
  refine lv_bipush (v := 25) hx hb dX11_init_246 (by decide) ?_
  refine lv_bipush (v := 97) hx hb dX11_init_248 (by decide) ?_
  refine va_iast hx hb hK.1 hP hD hS 5 0 rfl rfl (vp_in_iff.mpr ⟨by decide, by decide⟩) dX11_init_250 (fun H locs hP hD hS => ?_)
  have hP : va_P (dC, dI) vwCl [(h0, .inr (11, [.ref q1, .int 0, .int 0, .ref q2, .int 0, .int 0, .int 0, .int 0, .int 0, .int 0, .ref q3, .int 0, .int 0, .int 0, .int 0, .int 0, .int 0, .int 0, .int 0, .ref q4, .null, .null, .null, .null, .null, .int 0, .null, .int 0, .null, .null, .null, .null, .null, .null, .int 0])), (q1, .inl (G 0, 196, .inl (fun _ => 0))), (q2, .inl (G 0, 49, .inl (fun _ => 0))), (q3, .inl (G 0, 320, .inl (fun _ => 0))), (q4, .inl (G 0, 11, .inl (upd (upd (upd (upd (upd (upd (upd (upd (upd (upd (upd (fun _ => 0) 0 0) 1 5) 2 12) 3 18) 4 23) 5 28) 6 34) 7 42) 8 46) 9 50) 10 54))), (q5, .inl (G 0, 54, .inl (upd g54 25 97)))] H := hP
  have hD : va_D A [(h0, .inr (11, [.ref q1, .int 0, .int 0, .ref q2, .int 0, .int 0, .int 0, .int 0, .int 0, .int 0, .ref q3, .int 0, .int 0, .int 0, .int 0, .int 0, .int 0, .int 0, .int 0, .ref q4, .null, .null, .null, .null, .null, .int 0, .null, .int 0, .null, .null, .null, .null, .null, .null, .int 0])), (q1, .inl (G 0, 196, .inl (fun _ => 0))), (q2, .inl (G 0, 49, .inl (fun _ => 0))), (q3, .inl (G 0, 320, .inl (fun _ => 0))), (q4, .inl (G 0, 11, .inl (upd (upd (upd (upd (upd (upd (upd (upd (upd (upd (upd (fun _ => 0) 0 0) 1 5) 2 12) 3 18) 4 23) 5 28) 6 34) 7 42) 8 46) 9 50) 10 54))), (q5, .inl (G 0, 54, .inl (upd g54 25 97)))] := hD
  have hlt57 := LTs (g := g54) (k := 25) (c := 97) hlt55 (by rfl)
  generalize (upd g54 25 97) = g56 at hP hD hlt57
  refine lv_dup hx hb dX11_init_251 rfl ?_
  refine lv_bipush (v := 26) hx hb dX11_init_252 (by decide) ?_
  refine lv_bipush (v := 105) hx hb dX11_init_254 (by decide) ?_
  refine va_iast hx hb hK.1 hP hD hS 5 0 rfl rfl (vp_in_iff.mpr ⟨by decide, by decide⟩) dX11_init_256 (fun H locs hP hD hS => ?_)
  have hP : va_P (dC, dI) vwCl [(h0, .inr (11, [.ref q1, .int 0, .int 0, .ref q2, .int 0, .int 0, .int 0, .int 0, .int 0, .int 0, .ref q3, .int 0, .int 0, .int 0, .int 0, .int 0, .int 0, .int 0, .int 0, .ref q4, .null, .null, .null, .null, .null, .int 0, .null, .int 0, .null, .null, .null, .null, .null, .null, .int 0])), (q1, .inl (G 0, 196, .inl (fun _ => 0))), (q2, .inl (G 0, 49, .inl (fun _ => 0))), (q3, .inl (G 0, 320, .inl (fun _ => 0))), (q4, .inl (G 0, 11, .inl (upd (upd (upd (upd (upd (upd (upd (upd (upd (upd (upd (fun _ => 0) 0 0) 1 5) 2 12) 3 18) 4 23) 5 28) 6 34) 7 42) 8 46) 9 50) 10 54))), (q5, .inl (G 0, 54, .inl (upd g56 26 105)))] H := hP
  have hD : va_D A [(h0, .inr (11, [.ref q1, .int 0, .int 0, .ref q2, .int 0, .int 0, .int 0, .int 0, .int 0, .int 0, .ref q3, .int 0, .int 0, .int 0, .int 0, .int 0, .int 0, .int 0, .int 0, .ref q4, .null, .null, .null, .null, .null, .int 0, .null, .int 0, .null, .null, .null, .null, .null, .null, .int 0])), (q1, .inl (G 0, 196, .inl (fun _ => 0))), (q2, .inl (G 0, 49, .inl (fun _ => 0))), (q3, .inl (G 0, 320, .inl (fun _ => 0))), (q4, .inl (G 0, 11, .inl (upd (upd (upd (upd (upd (upd (upd (upd (upd (upd (upd (fun _ => 0) 0 0) 1 5) 2 12) 3 18) 4 23) 5 28) 6 34) 7 42) 8 46) 9 50) 10 54))), (q5, .inl (G 0, 54, .inl (upd g56 26 105)))] := hD
  have hlt59 := LTs (g := g56) (k := 26) (c := 105) hlt57 (by rfl)
  generalize (upd g56 26 105) = g58 at hP hD hlt59
  refine lv_dup hx hb dX11_init_257 rfl ?_
  refine lv_bipush (v := 27) hx hb dX11_init_258 (by decide) ?_
  refine lv_bipush (v := 110) hx hb dX11_init_260 (by decide) ?_
  refine va_iast hx hb hK.1 hP hD hS 5 0 rfl rfl (vp_in_iff.mpr ⟨by decide, by decide⟩) dX11_init_262 (fun H locs hP hD hS => ?_)
  have hP : va_P (dC, dI) vwCl [(h0, .inr (11, [.ref q1, .int 0, .int 0, .ref q2, .int 0, .int 0, .int 0, .int 0, .int 0, .int 0, .ref q3, .int 0, .int 0, .int 0, .int 0, .int 0, .int 0, .int 0, .int 0, .ref q4, .null, .null, .null, .null, .null, .int 0, .null, .int 0, .null, .null, .null, .null, .null, .null, .int 0])), (q1, .inl (G 0, 196, .inl (fun _ => 0))), (q2, .inl (G 0, 49, .inl (fun _ => 0))), (q3, .inl (G 0, 320, .inl (fun _ => 0))), (q4, .inl (G 0, 11, .inl (upd (upd (upd (upd (upd (upd (upd (upd (upd (upd (upd (fun _ => 0) 0 0) 1 5) 2 12) 3 18) 4 23) 5 28) 6 34) 7 42) 8 46) 9 50) 10 54))), (q5, .inl (G 0, 54, .inl (upd g58 27 110)))] H := hP
  have hD : va_D A [(h0, .inr (11, [.ref q1, .int 0, .int 0, .ref q2, .int 0, .int 0, .int 0, .int 0, .int 0, .int 0, .ref q3, .int 0, .int 0, .int 0, .int 0, .int 0, .int 0, .int 0, .int 0, .ref q4, .null, .null, .null, .null, .null, .int 0, .null, .int 0, .null, .null, .null, .null, .null, .null, .int 0])), (q1, .inl (G 0, 196, .inl (fun _ => 0))), (q2, .inl (G 0, 49, .inl (fun _ => 0))), (q3, .inl (G 0, 320, .inl (fun _ => 0))), (q4, .inl (G 0, 11, .inl (upd (upd (upd (upd (upd (upd (upd (upd (upd (upd (upd (fun _ => 0) 0 0) 1 5) 2 12) 3 18) 4 23) 5 28) 6 34) 7 42) 8 46) 9 50) 10 54))), (q5, .inl (G 0, 54, .inl (upd g58 27 110)))] := hD
  have hlt61 := LTs (g := g58) (k := 27) (c := 110) hlt59 (by rfl)
  generalize (upd g58 27 110) = g60 at hP hD hlt61
  refine lv_dup hx hb dX11_init_263 rfl ?_
  refine lv_bipush (v := 28) hx hb dX11_init_264 (by decide) ?_
  refine lv_bipush (v := 104) hx hb dX11_init_266 (by decide) ?_
  refine va_iast hx hb hK.1 hP hD hS 5 0 rfl rfl (vp_in_iff.mpr ⟨by decide, by decide⟩) dX11_init_268 (fun H locs hP hD hS => ?_)
  have hP : va_P (dC, dI) vwCl [(h0, .inr (11, [.ref q1, .int 0, .int 0, .ref q2, .int 0, .int 0, .int 0, .int 0, .int 0, .int 0, .ref q3, .int 0, .int 0, .int 0, .int 0, .int 0, .int 0, .int 0, .int 0, .ref q4, .null, .null, .null, .null, .null, .int 0, .null, .int 0, .null, .null, .null, .null, .null, .null, .int 0])), (q1, .inl (G 0, 196, .inl (fun _ => 0))), (q2, .inl (G 0, 49, .inl (fun _ => 0))), (q3, .inl (G 0, 320, .inl (fun _ => 0))), (q4, .inl (G 0, 11, .inl (upd (upd (upd (upd (upd (upd (upd (upd (upd (upd (upd (fun _ => 0) 0 0) 1 5) 2 12) 3 18) 4 23) 5 28) 6 34) 7 42) 8 46) 9 50) 10 54))), (q5, .inl (G 0, 54, .inl (upd g60 28 104)))] H := hP
  have hD : va_D A [(h0, .inr (11, [.ref q1, .int 0, .int 0, .ref q2, .int 0, .int 0, .int 0, .int 0, .int 0, .int 0, .ref q3, .int 0, .int 0, .int 0, .int 0, .int 0, .int 0, .int 0, .int 0, .ref q4, .null, .null, .null, .null, .null, .int 0, .null, .int 0, .null, .null, .null, .null, .null, .null, .int 0])), (q1, .inl (G 0, 196, .inl (fun _ => 0))), (q2, .inl (G 0, 49, .inl (fun _ => 0))), (q3, .inl (G 0, 320, .inl (fun _ => 0))), (q4, .inl (G 0, 11, .inl (upd (upd (upd (upd (upd (upd (upd (upd (upd (upd (upd (fun _ => 0) 0 0) 1 5) 2 12) 3 18) 4 23) 5 28) 6 34) 7 42) 8 46) 9 50) 10 54))), (q5, .inl (G 0, 54, .inl (upd g60 28 104)))] := hD
  have hlt63 := LTs (g := g60) (k := 28) (c := 104) hlt61 (by rfl)
  generalize (upd g60 28 104) = g62 at hP hD hlt63
  refine lv_dup hx hb dX11_init_269 rfl ?_
  refine lv_bipush (v := 29) hx hb dX11_init_270 (by decide) ?_
  refine lv_bipush (v := 117) hx hb dX11_init_272 (by decide) ?_
  refine va_iast hx hb hK.1 hP hD hS 5 0 rfl rfl (vp_in_iff.mpr ⟨by decide, by decide⟩) dX11_init_274 (fun H locs hP hD hS => ?_)
  have hP : va_P (dC, dI) vwCl [(h0, .inr (11, [.ref q1, .int 0, .int 0, .ref q2, .int 0, .int 0, .int 0, .int 0, .int 0, .int 0, .ref q3, .int 0, .int 0, .int 0, .int 0, .int 0, .int 0, .int 0, .int 0, .ref q4, .null, .null, .null, .null, .null, .int 0, .null, .int 0, .null, .null, .null, .null, .null, .null, .int 0])), (q1, .inl (G 0, 196, .inl (fun _ => 0))), (q2, .inl (G 0, 49, .inl (fun _ => 0))), (q3, .inl (G 0, 320, .inl (fun _ => 0))), (q4, .inl (G 0, 11, .inl (upd (upd (upd (upd (upd (upd (upd (upd (upd (upd (upd (fun _ => 0) 0 0) 1 5) 2 12) 3 18) 4 23) 5 28) 6 34) 7 42) 8 46) 9 50) 10 54))), (q5, .inl (G 0, 54, .inl (upd g62 29 117)))] H := hP
  have hD : va_D A [(h0, .inr (11, [.ref q1, .int 0, .int 0, .ref q2, .int 0, .int 0, .int 0, .int 0, .int 0, .int 0, .ref q3, .int 0, .int 0, .int 0, .int 0, .int 0, .int 0, .int 0, .int 0, .ref q4, .null, .null, .null, .null, .null, .int 0, .null, .int 0, .null, .null, .null, .null, .null, .null, .int 0])), (q1, .inl (G 0, 196, .inl (fun _ => 0))), (q2, .inl (G 0, 49, .inl (fun _ => 0))), (q3, .inl (G 0, 320, .inl (fun _ => 0))), (q4, .inl (G 0, 11, .inl (upd (upd (upd (upd (upd (upd (upd (upd (upd (upd (upd (fun _ => 0) 0 0) 1 5) 2 12) 3 18) 4 23) 5 28) 6 34) 7 42) 8 46) 9 50) 10 54))), (q5, .inl (G 0, 54, .inl (upd g62 29 117)))] := hD
  have hlt65 := LTs (g := g62) (k := 29) (c := 117) hlt63 (by rfl)
  generalize (upd g62 29 117) = g64 at hP hD hlt65
  refine lv_dup hx hb dX11_init_275 rfl ?_
  refine lv_bipush (v := 30) hx hb dX11_init_276 (by decide) ?_
  refine lv_bipush (v := 109) hx hb dX11_init_278 (by decide) ?_
  refine va_iast hx hb hK.1 hP hD hS 5 0 rfl rfl (vp_in_iff.mpr ⟨by decide, by decide⟩) dX11_init_280 (fun H locs hP hD hS => ?_)
  have hP : va_P (dC, dI) vwCl [(h0, .inr (11, [.ref q1, .int 0, .int 0, .ref q2, .int 0, .int 0, .int 0, .int 0, .int 0, .int 0, .ref q3, .int 0, .int 0, .int 0, .int 0, .int 0, .int 0, .int 0, .int 0, .ref q4, .null, .null, .null, .null, .null, .int 0, .null, .int 0, .null, .null, .null, .null, .null, .null, .int 0])), (q1, .inl (G 0, 196, .inl (fun _ => 0))), (q2, .inl (G 0, 49, .inl (fun _ => 0))), (q3, .inl (G 0, 320, .inl (fun _ => 0))), (q4, .inl (G 0, 11, .inl (upd (upd (upd (upd (upd (upd (upd (upd (upd (upd (upd (fun _ => 0) 0 0) 1 5) 2 12) 3 18) 4 23) 5 28) 6 34) 7 42) 8 46) 9 50) 10 54))), (q5, .inl (G 0, 54, .inl (upd g64 30 109)))] H := hP
  have hD : va_D A [(h0, .inr (11, [.ref q1, .int 0, .int 0, .ref q2, .int 0, .int 0, .int 0, .int 0, .int 0, .int 0, .ref q3, .int 0, .int 0, .int 0, .int 0, .int 0, .int 0, .int 0, .int 0, .ref q4, .null, .null, .null, .null, .null, .int 0, .null, .int 0, .null, .null, .null, .null, .null, .null, .int 0])), (q1, .inl (G 0, 196, .inl (fun _ => 0))), (q2, .inl (G 0, 49, .inl (fun _ => 0))), (q3, .inl (G 0, 320, .inl (fun _ => 0))), (q4, .inl (G 0, 11, .inl (upd (upd (upd (upd (upd (upd (upd (upd (upd (upd (upd (fun _ => 0) 0 0) 1 5) 2 12) 3 18) 4 23) 5 28) 6 34) 7 42) 8 46) 9 50) 10 54))), (q5, .inl (G 0, 54, .inl (upd g64 30 109)))] := hD
  have hlt67 := LTs (g := g64) (k := 30) (c := 109) hlt65 (by rfl)
  generalize (upd g64 30 109) = g66 at hP hD hlt67
  refine lv_dup hx hb dX11_init_281 rfl ?_
  refine lv_bipush (v := 31) hx hb dX11_init_282 (by decide) ?_
  refine lv_bipush (v := 109) hx hb dX11_init_284 (by decide) ?_
  refine va_iast hx hb hK.1 hP hD hS 5 0 rfl rfl (vp_in_iff.mpr ⟨by decide, by decide⟩) dX11_init_286 (fun H locs hP hD hS => ?_)
  have hP : va_P (dC, dI) vwCl [(h0, .inr (11, [.ref q1, .int 0, .int 0, .ref q2, .int 0, .int 0, .int 0, .int 0, .int 0, .int 0, .ref q3, .int 0, .int 0, .int 0, .int 0, .int 0, .int 0, .int 0, .int 0, .ref q4, .null, .null, .null, .null, .null, .int 0, .null, .int 0, .null, .null, .null, .null, .null, .null, .int 0])), (q1, .inl (G 0, 196, .inl (fun _ => 0))), (q2, .inl (G 0, 49, .inl (fun _ => 0))), (q3, .inl (G 0, 320, .inl (fun _ => 0))), (q4, .inl (G 0, 11, .inl (upd (upd (upd (upd (upd (upd (upd (upd (upd (upd (upd (fun _ => 0) 0 0) 1 5) 2 12) 3 18) 4 23) 5 28) 6 34) 7 42) 8 46) 9 50) 10 54))), (q5, .inl (G 0, 54, .inl (upd g66 31 109)))] H := hP
  have hD : va_D A [(h0, .inr (11, [.ref q1, .int 0, .int 0, .ref q2, .int 0, .int 0, .int 0, .int 0, .int 0, .int 0, .ref q3, .int 0, .int 0, .int 0, .int 0, .int 0, .int 0, .int 0, .int 0, .ref q4, .null, .null, .null, .null, .null, .int 0, .null, .int 0, .null, .null, .null, .null, .null, .null, .int 0])), (q1, .inl (G 0, 196, .inl (fun _ => 0))), (q2, .inl (G 0, 49, .inl (fun _ => 0))), (q3, .inl (G 0, 320, .inl (fun _ => 0))), (q4, .inl (G 0, 11, .inl (upd (upd (upd (upd (upd (upd (upd (upd (upd (upd (upd (fun _ => 0) 0 0) 1 5) 2 12) 3 18) 4 23) 5 28) 6 34) 7 42) 8 46) 9 50) 10 54))), (q5, .inl (G 0, 54, .inl (upd g66 31 109)))] := hD
  have hlt69 := LTs (g := g66) (k := 31) (c := 109) hlt67 (by rfl)
  generalize (upd g66 31 109) = g68 at hP hD hlt69
  refine lv_dup hx hb dX11_init_287 rfl ?_
  refine lv_bipush (v := 32) hx hb dX11_init_288 (by decide) ?_
  refine lv_bipush (v := 101) hx hb dX11_init_290 (by decide) ?_
  refine va_iast hx hb hK.1 hP hD hS 5 0 rfl rfl (vp_in_iff.mpr ⟨by decide, by decide⟩) dX11_init_292 (fun H locs hP hD hS => ?_)
  have hP : va_P (dC, dI) vwCl [(h0, .inr (11, [.ref q1, .int 0, .int 0, .ref q2, .int 0, .int 0, .int 0, .int 0, .int 0, .int 0, .ref q3, .int 0, .int 0, .int 0, .int 0, .int 0, .int 0, .int 0, .int 0, .ref q4, .null, .null, .null, .null, .null, .int 0, .null, .int 0, .null, .null, .null, .null, .null, .null, .int 0])), (q1, .inl (G 0, 196, .inl (fun _ => 0))), (q2, .inl (G 0, 49, .inl (fun _ => 0))), (q3, .inl (G 0, 320, .inl (fun _ => 0))), (q4, .inl (G 0, 11, .inl (upd (upd (upd (upd (upd (upd (upd (upd (upd (upd (upd (fun _ => 0) 0 0) 1 5) 2 12) 3 18) 4 23) 5 28) 6 34) 7 42) 8 46) 9 50) 10 54))), (q5, .inl (G 0, 54, .inl (upd g68 32 101)))] H := hP
  have hD : va_D A [(h0, .inr (11, [.ref q1, .int 0, .int 0, .ref q2, .int 0, .int 0, .int 0, .int 0, .int 0, .int 0, .ref q3, .int 0, .int 0, .int 0, .int 0, .int 0, .int 0, .int 0, .int 0, .ref q4, .null, .null, .null, .null, .null, .int 0, .null, .int 0, .null, .null, .null, .null, .null, .null, .int 0])), (q1, .inl (G 0, 196, .inl (fun _ => 0))), (q2, .inl (G 0, 49, .inl (fun _ => 0))), (q3, .inl (G 0, 320, .inl (fun _ => 0))), (q4, .inl (G 0, 11, .inl (upd (upd (upd (upd (upd (upd (upd (upd (upd (upd (upd (fun _ => 0) 0 0) 1 5) 2 12) 3 18) 4 23) 5 28) 6 34) 7 42) 8 46) 9 50) 10 54))), (q5, .inl (G 0, 54, .inl (upd g68 32 101)))] := hD
  have hlt71 := LTs (g := g68) (k := 32) (c := 101) hlt69 (by rfl)
  generalize (upd g68 32 101) = g70 at hP hD hlt71
  refine lv_dup hx hb dX11_init_293 rfl ?_
  refine lv_bipush (v := 33) hx hb dX11_init_294 (by decide) ?_
  refine lv_bipush (v := 114) hx hb dX11_init_296 (by decide) ?_
  refine va_iast hx hb hK.1 hP hD hS 5 0 rfl rfl (vp_in_iff.mpr ⟨by decide, by decide⟩) dX11_init_298 (fun H locs hP hD hS => ?_)
  have hP : va_P (dC, dI) vwCl [(h0, .inr (11, [.ref q1, .int 0, .int 0, .ref q2, .int 0, .int 0, .int 0, .int 0, .int 0, .int 0, .ref q3, .int 0, .int 0, .int 0, .int 0, .int 0, .int 0, .int 0, .int 0, .ref q4, .null, .null, .null, .null, .null, .int 0, .null, .int 0, .null, .null, .null, .null, .null, .null, .int 0])), (q1, .inl (G 0, 196, .inl (fun _ => 0))), (q2, .inl (G 0, 49, .inl (fun _ => 0))), (q3, .inl (G 0, 320, .inl (fun _ => 0))), (q4, .inl (G 0, 11, .inl (upd (upd (upd (upd (upd (upd (upd (upd (upd (upd (upd (fun _ => 0) 0 0) 1 5) 2 12) 3 18) 4 23) 5 28) 6 34) 7 42) 8 46) 9 50) 10 54))), (q5, .inl (G 0, 54, .inl (upd g70 33 114)))] H := hP
  have hD : va_D A [(h0, .inr (11, [.ref q1, .int 0, .int 0, .ref q2, .int 0, .int 0, .int 0, .int 0, .int 0, .int 0, .ref q3, .int 0, .int 0, .int 0, .int 0, .int 0, .int 0, .int 0, .int 0, .ref q4, .null, .null, .null, .null, .null, .int 0, .null, .int 0, .null, .null, .null, .null, .null, .null, .int 0])), (q1, .inl (G 0, 196, .inl (fun _ => 0))), (q2, .inl (G 0, 49, .inl (fun _ => 0))), (q3, .inl (G 0, 320, .inl (fun _ => 0))), (q4, .inl (G 0, 11, .inl (upd (upd (upd (upd (upd (upd (upd (upd (upd (upd (upd (fun _ => 0) 0 0) 1 5) 2 12) 3 18) 4 23) 5 28) 6 34) 7 42) 8 46) 9 50) 10 54))), (q5, .inl (G 0, 54, .inl (upd g70 33 114)))] := hD
  have hlt73 := LTs (g := g70) (k := 33) (c := 114) hlt71 (by rfl)
  generalize (upd g70 33 114) = g72 at hP hD hlt73
  refine lv_dup hx hb dX11_init_299 rfl ?_
  refine lv_bipush (v := 34) hx hb dX11_init_300 (by decide) ?_
  refine lv_bipush (v := 116) hx hb dX11_init_302 (by decide) ?_
  refine va_iast hx hb hK.1 hP hD hS 5 0 rfl rfl (vp_in_iff.mpr ⟨by decide, by decide⟩) dX11_init_304 (fun H locs hP hD hS => ?_)
  have hP : va_P (dC, dI) vwCl [(h0, .inr (11, [.ref q1, .int 0, .int 0, .ref q2, .int 0, .int 0, .int 0, .int 0, .int 0, .int 0, .ref q3, .int 0, .int 0, .int 0, .int 0, .int 0, .int 0, .int 0, .int 0, .ref q4, .null, .null, .null, .null, .null, .int 0, .null, .int 0, .null, .null, .null, .null, .null, .null, .int 0])), (q1, .inl (G 0, 196, .inl (fun _ => 0))), (q2, .inl (G 0, 49, .inl (fun _ => 0))), (q3, .inl (G 0, 320, .inl (fun _ => 0))), (q4, .inl (G 0, 11, .inl (upd (upd (upd (upd (upd (upd (upd (upd (upd (upd (upd (fun _ => 0) 0 0) 1 5) 2 12) 3 18) 4 23) 5 28) 6 34) 7 42) 8 46) 9 50) 10 54))), (q5, .inl (G 0, 54, .inl (upd g72 34 116)))] H := hP
  have hD : va_D A [(h0, .inr (11, [.ref q1, .int 0, .int 0, .ref q2, .int 0, .int 0, .int 0, .int 0, .int 0, .int 0, .ref q3, .int 0, .int 0, .int 0, .int 0, .int 0, .int 0, .int 0, .int 0, .ref q4, .null, .null, .null, .null, .null, .int 0, .null, .int 0, .null, .null, .null, .null, .null, .null, .int 0])), (q1, .inl (G 0, 196, .inl (fun _ => 0))), (q2, .inl (G 0, 49, .inl (fun _ => 0))), (q3, .inl (G 0, 320, .inl (fun _ => 0))), (q4, .inl (G 0, 11, .inl (upd (upd (upd (upd (upd (upd (upd (upd (upd (upd (upd (fun _ => 0) 0 0) 1 5) 2 12) 3 18) 4 23) 5 28) 6 34) 7 42) 8 46) 9 50) 10 54))), (q5, .inl (G 0, 54, .inl (upd g72 34 116)))] := hD
  have hlt75 := LTs (g := g72) (k := 34) (c := 116) hlt73 (by rfl)
  generalize (upd g72 34 116) = g74 at hP hD hlt75
  refine lv_dup hx hb dX11_init_305 rfl ?_
  refine lv_bipush (v := 35) hx hb dX11_init_306 (by decide) ?_
  refine lv_bipush (v := 114) hx hb dX11_init_308 (by decide) ?_
  refine va_iast hx hb hK.1 hP hD hS 5 0 rfl rfl (vp_in_iff.mpr ⟨by decide, by decide⟩) dX11_init_310 (fun H locs hP hD hS => ?_)
  have hP : va_P (dC, dI) vwCl [(h0, .inr (11, [.ref q1, .int 0, .int 0, .ref q2, .int 0, .int 0, .int 0, .int 0, .int 0, .int 0, .ref q3, .int 0, .int 0, .int 0, .int 0, .int 0, .int 0, .int 0, .int 0, .ref q4, .null, .null, .null, .null, .null, .int 0, .null, .int 0, .null, .null, .null, .null, .null, .null, .int 0])), (q1, .inl (G 0, 196, .inl (fun _ => 0))), (q2, .inl (G 0, 49, .inl (fun _ => 0))), (q3, .inl (G 0, 320, .inl (fun _ => 0))), (q4, .inl (G 0, 11, .inl (upd (upd (upd (upd (upd (upd (upd (upd (upd (upd (upd (fun _ => 0) 0 0) 1 5) 2 12) 3 18) 4 23) 5 28) 6 34) 7 42) 8 46) 9 50) 10 54))), (q5, .inl (G 0, 54, .inl (upd g74 35 114)))] H := hP
  have hD : va_D A [(h0, .inr (11, [.ref q1, .int 0, .int 0, .ref q2, .int 0, .int 0, .int 0, .int 0, .int 0, .int 0, .ref q3, .int 0, .int 0, .int 0, .int 0, .int 0, .int 0, .int 0, .int 0, .ref q4, .null, .null, .null, .null, .null, .int 0, .null, .int 0, .null, .null, .null, .null, .null, .null, .int 0])), (q1, .inl (G 0, 196, .inl (fun _ => 0))), (q2, .inl (G 0, 49, .inl (fun _ => 0))), (q3, .inl (G 0, 320, .inl (fun _ => 0))), (q4, .inl (G 0, 11, .inl (upd (upd (upd (upd (upd (upd (upd (upd (upd (upd (upd (fun _ => 0) 0 0) 1 5) 2 12) 3 18) 4 23) 5 28) 6 34) 7 42) 8 46) 9 50) 10 54))), (q5, .inl (G 0, 54, .inl (upd g74 35 114)))] := hD
  have hlt77 := LTs (g := g74) (k := 35) (c := 114) hlt75 (by rfl)
  generalize (upd g74 35 114) = g76 at hP hD hlt77
  refine lv_dup hx hb dX11_init_311 rfl ?_
  refine lv_bipush (v := 36) hx hb dX11_init_312 (by decide) ?_
  refine lv_bipush (v := 101) hx hb dX11_init_314 (by decide) ?_
  refine va_iast hx hb hK.1 hP hD hS 5 0 rfl rfl (vp_in_iff.mpr ⟨by decide, by decide⟩) dX11_init_316 (fun H locs hP hD hS => ?_)
  have hP : va_P (dC, dI) vwCl [(h0, .inr (11, [.ref q1, .int 0, .int 0, .ref q2, .int 0, .int 0, .int 0, .int 0, .int 0, .int 0, .ref q3, .int 0, .int 0, .int 0, .int 0, .int 0, .int 0, .int 0, .int 0, .ref q4, .null, .null, .null, .null, .null, .int 0, .null, .int 0, .null, .null, .null, .null, .null, .null, .int 0])), (q1, .inl (G 0, 196, .inl (fun _ => 0))), (q2, .inl (G 0, 49, .inl (fun _ => 0))), (q3, .inl (G 0, 320, .inl (fun _ => 0))), (q4, .inl (G 0, 11, .inl (upd (upd (upd (upd (upd (upd (upd (upd (upd (upd (upd (fun _ => 0) 0 0) 1 5) 2 12) 3 18) 4 23) 5 28) 6 34) 7 42) 8 46) 9 50) 10 54))), (q5, .inl (G 0, 54, .inl (upd g76 36 101)))] H := hP
  have hD : va_D A [(h0, .inr (11, [.ref q1, .int 0, .int 0, .ref q2, .int 0, .int 0, .int 0, .int 0, .int 0, .int 0, .ref q3, .int 0, .int 0, .int 0, .int 0, .int 0, .int 0, .int 0, .int 0, .ref q4, .null, .null, .null, .null, .null, .int 0, .null, .int 0, .null, .null, .null, .null, .null, .null, .int 0])), (q1, .inl (G 0, 196, .inl (fun _ => 0))), (q2, .inl (G 0, 49, .inl (fun _ => 0))), (q3, .inl (G 0, 320, .inl (fun _ => 0))), (q4, .inl (G 0, 11, .inl (upd (upd (upd (upd (upd (upd (upd (upd (upd (upd (upd (fun _ => 0) 0 0) 1 5) 2 12) 3 18) 4 23) 5 28) 6 34) 7 42) 8 46) 9 50) 10 54))), (q5, .inl (G 0, 54, .inl (upd g76 36 101)))] := hD
  have hlt79 := LTs (g := g76) (k := 36) (c := 101) hlt77 (by rfl)
  generalize (upd g76 36 101) = g78 at hP hD hlt79
  refine lv_dup hx hb dX11_init_317 rfl ?_
  refine lv_bipush (v := 37) hx hb dX11_init_318 (by decide) ?_
  refine lv_bipush (v := 109) hx hb dX11_init_320 (by decide) ?_
  refine va_iast hx hb hK.1 hP hD hS 5 0 rfl rfl (vp_in_iff.mpr ⟨by decide, by decide⟩) dX11_init_322 (fun H locs hP hD hS => ?_)
  have hP : va_P (dC, dI) vwCl [(h0, .inr (11, [.ref q1, .int 0, .int 0, .ref q2, .int 0, .int 0, .int 0, .int 0, .int 0, .int 0, .ref q3, .int 0, .int 0, .int 0, .int 0, .int 0, .int 0, .int 0, .int 0, .ref q4, .null, .null, .null, .null, .null, .int 0, .null, .int 0, .null, .null, .null, .null, .null, .null, .int 0])), (q1, .inl (G 0, 196, .inl (fun _ => 0))), (q2, .inl (G 0, 49, .inl (fun _ => 0))), (q3, .inl (G 0, 320, .inl (fun _ => 0))), (q4, .inl (G 0, 11, .inl (upd (upd (upd (upd (upd (upd (upd (upd (upd (upd (upd (fun _ => 0) 0 0) 1 5) 2 12) 3 18) 4 23) 5 28) 6 34) 7 42) 8 46) 9 50) 10 54))), (q5, .inl (G 0, 54, .inl (upd g78 37 109)))] H := hP
  have hD : va_D A [(h0, .inr (11, [.ref q1, .int 0, .int 0, .ref q2, .int 0, .int 0, .int 0, .int 0, .int 0, .int 0, .ref q3, .int 0, .int 0, .int 0, .int 0, .int 0, .int 0, .int 0, .int 0, .ref q4, .null, .null, .null, .null, .null, .int 0, .null, .int 0, .null, .null, .null, .null, .null, .null, .int 0])), (q1, .inl (G 0, 196, .inl (fun _ => 0))), (q2, .inl (G 0, 49, .inl (fun _ => 0))), (q3, .inl (G 0, 320, .inl (fun _ => 0))), (q4, .inl (G 0, 11, .inl (upd (upd (upd (upd (upd (upd (upd (upd (upd (upd (upd (fun _ => 0) 0 0) 1 5) 2 12) 3 18) 4 23) 5 28) 6 34) 7 42) 8 46) 9 50) 10 54))), (q5, .inl (G 0, 54, .inl (upd g78 37 109)))] := hD
  have hlt81 := LTs (g := g78) (k := 37) (c := 109) hlt79 (by rfl)
  generalize (upd g78 37 109) = g80 at hP hD hlt81
  refine lv_dup hx hb dX11_init_323 rfl ?_
  refine lv_bipush (v := 38) hx hb dX11_init_324 (by decide) ?_
  refine lv_bipush (v := 98) hx hb dX11_init_326 (by decide) ?_
  refine va_iast hx hb hK.1 hP hD hS 5 0 rfl rfl (vp_in_iff.mpr ⟨by decide, by decide⟩) dX11_init_328 (fun H locs hP hD hS => ?_)
  have hP : va_P (dC, dI) vwCl [(h0, .inr (11, [.ref q1, .int 0, .int 0, .ref q2, .int 0, .int 0, .int 0, .int 0, .int 0, .int 0, .ref q3, .int 0, .int 0, .int 0, .int 0, .int 0, .int 0, .int 0, .int 0, .ref q4, .null, .null, .null, .null, .null, .int 0, .null, .int 0, .null, .null, .null, .null, .null, .null, .int 0])), (q1, .inl (G 0, 196, .inl (fun _ => 0))), (q2, .inl (G 0, 49, .inl (fun _ => 0))), (q3, .inl (G 0, 320, .inl (fun _ => 0))), (q4, .inl (G 0, 11, .inl (upd (upd (upd (upd (upd (upd (upd (upd (upd (upd (upd (fun _ => 0) 0 0) 1 5) 2 12) 3 18) 4 23) 5 28) 6 34) 7 42) 8 46) 9 50) 10 54))), (q5, .inl (G 0, 54, .inl (upd g80 38 98)))] H := hP
  have hD : va_D A [(h0, .inr (11, [.ref q1, .int 0, .int 0, .ref q2, .int 0, .int 0, .int 0, .int 0, .int 0, .int 0, .ref q3, .int 0, .int 0, .int 0, .int 0, .int 0, .int 0, .int 0, .int 0, .ref q4, .null, .null, .null, .null, .null, .int 0, .null, .int 0, .null, .null, .null, .null, .null, .null, .int 0])), (q1, .inl (G 0, 196, .inl (fun _ => 0))), (q2, .inl (G 0, 49, .inl (fun _ => 0))), (q3, .inl (G 0, 320, .inl (fun _ => 0))), (q4, .inl (G 0, 11, .inl (upd (upd (upd (upd (upd (upd (upd (upd (upd (upd (upd (fun _ => 0) 0 0) 1 5) 2 12) 3 18) 4 23) 5 28) 6 34) 7 42) 8 46) 9 50) 10 54))), (q5, .inl (G 0, 54, .inl (upd g80 38 98)))] := hD
  have hlt83 := LTs (g := g80) (k := 38) (c := 98) hlt81 (by rfl)
  generalize (upd g80 38 98) = g82 at hP hD hlt83
  refine lv_dup hx hb dX11_init_329 rfl ?_
  refine lv_bipush (v := 39) hx hb dX11_init_330 (by decide) ?_
  refine lv_bipush (v := 108) hx hb dX11_init_332 (by decide) ?_
  refine va_iast hx hb hK.1 hP hD hS 5 0 rfl rfl (vp_in_iff.mpr ⟨by decide, by decide⟩) dX11_init_334 (fun H locs hP hD hS => ?_)
  have hP : va_P (dC, dI) vwCl [(h0, .inr (11, [.ref q1, .int 0, .int 0, .ref q2, .int 0, .int 0, .int 0, .int 0, .int 0, .int 0, .ref q3, .int 0, .int 0, .int 0, .int 0, .int 0, .int 0, .int 0, .int 0, .ref q4, .null, .null, .null, .null, .null, .int 0, .null, .int 0, .null, .null, .null, .null, .null, .null, .int 0])), (q1, .inl (G 0, 196, .inl (fun _ => 0))), (q2, .inl (G 0, 49, .inl (fun _ => 0))), (q3, .inl (G 0, 320, .inl (fun _ => 0))), (q4, .inl (G 0, 11, .inl (upd (upd (upd (upd (upd (upd (upd (upd (upd (upd (upd (fun _ => 0) 0 0) 1 5) 2 12) 3 18) 4 23) 5 28) 6 34) 7 42) 8 46) 9 50) 10 54))), (q5, .inl (G 0, 54, .inl (upd g82 39 108)))] H := hP
  have hD : va_D A [(h0, .inr (11, [.ref q1, .int 0, .int 0, .ref q2, .int 0, .int 0, .int 0, .int 0, .int 0, .int 0, .ref q3, .int 0, .int 0, .int 0, .int 0, .int 0, .int 0, .int 0, .int 0, .ref q4, .null, .null, .null, .null, .null, .int 0, .null, .int 0, .null, .null, .null, .null, .null, .null, .int 0])), (q1, .inl (G 0, 196, .inl (fun _ => 0))), (q2, .inl (G 0, 49, .inl (fun _ => 0))), (q3, .inl (G 0, 320, .inl (fun _ => 0))), (q4, .inl (G 0, 11, .inl (upd (upd (upd (upd (upd (upd (upd (upd (upd (upd (upd (fun _ => 0) 0 0) 1 5) 2 12) 3 18) 4 23) 5 28) 6 34) 7 42) 8 46) 9 50) 10 54))), (q5, .inl (G 0, 54, .inl (upd g82 39 108)))] := hD
  have hlt85 := LTs (g := g82) (k := 39) (c := 108) hlt83 (by rfl)
  generalize (upd g82 39 108) = g84 at hP hD hlt85
  refine lv_dup hx hb dX11_init_335 rfl ?_
  refine lv_bipush (v := 40) hx hb dX11_init_336 (by decide) ?_
  refine lv_bipush (v := 101) hx hb dX11_init_338 (by decide) ?_
  refine va_iast hx hb hK.1 hP hD hS 5 0 rfl rfl (vp_in_iff.mpr ⟨by decide, by decide⟩) dX11_init_340 (fun H locs hP hD hS => ?_)
  have hP : va_P (dC, dI) vwCl [(h0, .inr (11, [.ref q1, .int 0, .int 0, .ref q2, .int 0, .int 0, .int 0, .int 0, .int 0, .int 0, .ref q3, .int 0, .int 0, .int 0, .int 0, .int 0, .int 0, .int 0, .int 0, .ref q4, .null, .null, .null, .null, .null, .int 0, .null, .int 0, .null, .null, .null, .null, .null, .null, .int 0])), (q1, .inl (G 0, 196, .inl (fun _ => 0))), (q2, .inl (G 0, 49, .inl (fun _ => 0))), (q3, .inl (G 0, 320, .inl (fun _ => 0))), (q4, .inl (G 0, 11, .inl (upd (upd (upd (upd (upd (upd (upd (upd (upd (upd (upd (fun _ => 0) 0 0) 1 5) 2 12) 3 18) 4 23) 5 28) 6 34) 7 42) 8 46) 9 50) 10 54))), (q5, .inl (G 0, 54, .inl (upd g84 40 101)))] H := hP
  have hD : va_D A [(h0, .inr (11, [.ref q1, .int 0, .int 0, .ref q2, .int 0, .int 0, .int 0, .int 0, .int 0, .int 0, .ref q3, .int 0, .int 0, .int 0, .int 0, .int 0, .int 0, .int 0, .int 0, .ref q4, .null, .null, .null, .null, .null, .int 0, .null, .int 0, .null, .null, .null, .null, .null, .null, .int 0])), (q1, .inl (G 0, 196, .inl (fun _ => 0))), (q2, .inl (G 0, 49, .inl (fun _ => 0))), (q3, .inl (G 0, 320, .inl (fun _ => 0))), (q4, .inl (G 0, 11, .inl (upd (upd (upd (upd (upd (upd (upd (upd (upd (upd (upd (fun _ => 0) 0 0) 1 5) 2 12) 3 18) 4 23) 5 28) 6 34) 7 42) 8 46) 9 50) 10 54))), (q5, .inl (G 0, 54, .inl (upd g84 40 101)))] := hD
  have hlt87 := LTs (g := g84) (k := 40) (c := 101) hlt85 (by rfl)
  generalize (upd g84 40 101) = g86 at hP hD hlt87
  refine lv_dup hx hb dX11_init_341 rfl ?_
  refine lv_bipush (v := 41) hx hb dX11_init_342 (by decide) ?_
  refine lv_bipush (v := 114) hx hb dX11_init_344 (by decide) ?_
  refine va_iast hx hb hK.1 hP hD hS 5 0 rfl rfl (vp_in_iff.mpr ⟨by decide, by decide⟩) dX11_init_346 (fun H locs hP hD hS => ?_)
  have hP : va_P (dC, dI) vwCl [(h0, .inr (11, [.ref q1, .int 0, .int 0, .ref q2, .int 0, .int 0, .int 0, .int 0, .int 0, .int 0, .ref q3, .int 0, .int 0, .int 0, .int 0, .int 0, .int 0, .int 0, .int 0, .ref q4, .null, .null, .null, .null, .null, .int 0, .null, .int 0, .null, .null, .null, .null, .null, .null, .int 0])), (q1, .inl (G 0, 196, .inl (fun _ => 0))), (q2, .inl (G 0, 49, .inl (fun _ => 0))), (q3, .inl (G 0, 320, .inl (fun _ => 0))), (q4, .inl (G 0, 11, .inl (upd (upd (upd (upd (upd (upd (upd (upd (upd (upd (upd (fun _ => 0) 0 0) 1 5) 2 12) 3 18) 4 23) 5 28) 6 34) 7 42) 8 46) 9 50) 10 54))), (q5, .inl (G 0, 54, .inl (upd g86 41 114)))] H := hP
  have hD : va_D A [(h0, .inr (11, [.ref q1, .int 0, .int 0, .ref q2, .int 0, .int 0, .int 0, .int 0, .int 0, .int 0, .ref q3, .int 0, .int 0, .int 0, .int 0, .int 0, .int 0, .int 0, .int 0, .ref q4, .null, .null, .null, .null, .null, .int 0, .null, .int 0, .null, .null, .null, .null, .null, .null, .int 0])), (q1, .inl (G 0, 196, .inl (fun _ => 0))), (q2, .inl (G 0, 49, .inl (fun _ => 0))), (q3, .inl (G 0, 320, .inl (fun _ => 0))), (q4, .inl (G 0, 11, .inl (upd (upd (upd (upd (upd (upd (upd (upd (upd (upd (upd (fun _ => 0) 0 0) 1 5) 2 12) 3 18) 4 23) 5 28) 6 34) 7 42) 8 46) 9 50) 10 54))), (q5, .inl (G 0, 54, .inl (upd g86 41 114)))] := hD
  have hlt89 := LTs (g := g86) (k := 41) (c := 114) hlt87 (by rfl)
  generalize (upd g86 41 114) = g88 at hP hD hlt89
  refine lv_dup hx hb dX11_init_347 rfl ?_
  refine lv_bipush (v := 42) hx hb dX11_init_348 (by decide) ?_
  refine lv_bipush (v := 116) hx hb dX11_init_350 (by decide) ?_
  refine va_iast hx hb hK.1 hP hD hS 5 0 rfl rfl (vp_in_iff.mpr ⟨by decide, by decide⟩) dX11_init_352 (fun H locs hP hD hS => ?_)
  have hP : va_P (dC, dI) vwCl [(h0, .inr (11, [.ref q1, .int 0, .int 0, .ref q2, .int 0, .int 0, .int 0, .int 0, .int 0, .int 0, .ref q3, .int 0, .int 0, .int 0, .int 0, .int 0, .int 0, .int 0, .int 0, .ref q4, .null, .null, .null, .null, .null, .int 0, .null, .int 0, .null, .null, .null, .null, .null, .null, .int 0])), (q1, .inl (G 0, 196, .inl (fun _ => 0))), (q2, .inl (G 0, 49, .inl (fun _ => 0))), (q3, .inl (G 0, 320, .inl (fun _ => 0))), (q4, .inl (G 0, 11, .inl (upd (upd (upd (upd (upd (upd (upd (upd (upd (upd (upd (fun _ => 0) 0 0) 1 5) 2 12) 3 18) 4 23) 5 28) 6 34) 7 42) 8 46) 9 50) 10 54))), (q5, .inl (G 0, 54, .inl (upd g88 42 116)))] H := hP
  have hD : va_D A [(h0, .inr (11, [.ref q1, .int 0, .int 0, .ref q2, .int 0, .int 0, .int 0, .int 0, .int 0, .int 0, .ref q3, .int 0, .int 0, .int 0, .int 0, .int 0, .int 0, .int 0, .int 0, .ref q4, .null, .null, .null, .null, .null, .int 0, .null, .int 0, .null, .null, .null, .null, .null, .null, .int 0])), (q1, .inl (G 0, 196, .inl (fun _ => 0))), (q2, .inl (G 0, 49, .inl (fun _ => 0))), (q3, .inl (G 0, 320, .inl (fun _ => 0))), (q4, .inl (G 0, 11, .inl (upd (upd (upd (upd (upd (upd (upd (upd (upd (upd (upd (fun _ => 0) 0 0) 1 5) 2 12) 3 18) 4 23) 5 28) 6 34) 7 42) 8 46) 9 50) 10 54))), (q5, .inl (G 0, 54, .inl (upd g88 42 116)))] := hD
  have hlt91 := LTs (g := g88) (k := 42) (c := 116) hlt89 (by rfl)
  generalize (upd g88 42 116) = g90 at hP hD hlt91
  refine lv_dup hx hb dX11_init_353 rfl ?_
  refine lv_bipush (v := 43) hx hb dX11_init_354 (by decide) ?_
  refine lv_bipush (v := 97) hx hb dX11_init_356 (by decide) ?_
  refine va_iast hx hb hK.1 hP hD hS 5 0 rfl rfl (vp_in_iff.mpr ⟨by decide, by decide⟩) dX11_init_358 (fun H locs hP hD hS => ?_)
  have hP : va_P (dC, dI) vwCl [(h0, .inr (11, [.ref q1, .int 0, .int 0, .ref q2, .int 0, .int 0, .int 0, .int 0, .int 0, .int 0, .ref q3, .int 0, .int 0, .int 0, .int 0, .int 0, .int 0, .int 0, .int 0, .ref q4, .null, .null, .null, .null, .null, .int 0, .null, .int 0, .null, .null, .null, .null, .null, .null, .int 0])), (q1, .inl (G 0, 196, .inl (fun _ => 0))), (q2, .inl (G 0, 49, .inl (fun _ => 0))), (q3, .inl (G 0, 320, .inl (fun _ => 0))), (q4, .inl (G 0, 11, .inl (upd (upd (upd (upd (upd (upd (upd (upd (upd (upd (upd (fun _ => 0) 0 0) 1 5) 2 12) 3 18) 4 23) 5 28) 6 34) 7 42) 8 46) 9 50) 10 54))), (q5, .inl (G 0, 54, .inl (upd g90 43 97)))] H := hP
  have hD : va_D A [(h0, .inr (11, [.ref q1, .int 0, .int 0, .ref q2, .int 0, .int 0, .int 0, .int 0, .int 0, .int 0, .ref q3, .int 0, .int 0, .int 0, .int 0, .int 0, .int 0, .int 0, .int 0, .ref q4, .null, .null, .null, .null, .null, .int 0, .null, .int 0, .null, .null, .null, .null, .null, .null, .int 0])), (q1, .inl (G 0, 196, .inl (fun _ => 0))), (q2, .inl (G 0, 49, .inl (fun _ => 0))), (q3, .inl (G 0, 320, .inl (fun _ => 0))), (q4, .inl (G 0, 11, .inl (upd (upd (upd (upd (upd (upd (upd (upd (upd (upd (upd (fun _ => 0) 0 0) 1 5) 2 12) 3 18) 4 23) 5 28) 6 34) 7 42) 8 46) 9 50) 10 54))), (q5, .inl (G 0, 54, .inl (upd g90 43 97)))] := hD
  have hlt93 := LTs (g := g90) (k := 43) (c := 97) hlt91 (by rfl)
  generalize (upd g90 43 97) = g92 at hP hD hlt93
  refine lv_dup hx hb dX11_init_359 rfl ?_
  refine lv_bipush (v := 44) hx hb dX11_init_360 (by decide) ?_
  refine lv_bipush (v := 108) hx hb dX11_init_362 (by decide) ?_
  refine va_iast hx hb hK.1 hP hD hS 5 0 rfl rfl (vp_in_iff.mpr ⟨by decide, by decide⟩) dX11_init_364 (fun H locs hP hD hS => ?_)
  have hP : va_P (dC, dI) vwCl [(h0, .inr (11, [.ref q1, .int 0, .int 0, .ref q2, .int 0, .int 0, .int 0, .int 0, .int 0, .int 0, .ref q3, .int 0, .int 0, .int 0, .int 0, .int 0, .int 0, .int 0, .int 0, .ref q4, .null, .null, .null, .null, .null, .int 0, .null, .int 0, .null, .null, .null, .null, .null, .null, .int 0])), (q1, .inl (G 0, 196, .inl (fun _ => 0))), (q2, .inl (G 0, 49, .inl (fun _ => 0))), (q3, .inl (G 0, 320, .inl (fun _ => 0))), (q4, .inl (G 0, 11, .inl (upd (upd (upd (upd (upd (upd (upd (upd (upd (upd (upd (fun _ => 0) 0 0) 1 5) 2 12) 3 18) 4 23) 5 28) 6 34) 7 42) 8 46) 9 50) 10 54))), (q5, .inl (G 0, 54, .inl (upd g92 44 108)))] H := hP
  have hD : va_D A [(h0, .inr (11, [.ref q1, .int 0, .int 0, .ref q2, .int 0, .int 0, .int 0, .int 0, .int 0, .int 0, .ref q3, .int 0, .int 0, .int 0, .int 0, .int 0, .int 0, .int 0, .int 0, .ref q4, .null, .null, .null, .null, .null, .int 0, .null, .int 0, .null, .null, .null, .null, .null, .null, .int 0])), (q1, .inl (G 0, 196, .inl (fun _ => 0))), (q2, .inl (G 0, 49, .inl (fun _ => 0))), (q3, .inl (G 0, 320, .inl (fun _ => 0))), (q4, .inl (G 0, 11, .inl (upd (upd (upd (upd (upd (upd (upd (upd (upd (upd (upd (fun _ => 0) 0 0) 1 5) 2 12) 3 18) 4 23) 5 28) 6 34) 7 42) 8 46) 9 50) 10 54))), (q5, .inl (G 0, 54, .inl (upd g92 44 108)))] := hD
  have hlt95 := LTs (g := g92) (k := 44) (c := 108) hlt93 (by rfl)
  generalize (upd g92 44 108) = g94 at hP hD hlt95
  refine lv_dup hx hb dX11_init_365 rfl ?_
  refine lv_bipush (v := 45) hx hb dX11_init_366 (by decide) ?_
  refine lv_bipush (v := 108) hx hb dX11_init_368 (by decide) ?_
  refine va_iast hx hb hK.1 hP hD hS 5 0 rfl rfl (vp_in_iff.mpr ⟨by decide, by decide⟩) dX11_init_370 (fun H locs hP hD hS => ?_)
  have hP : va_P (dC, dI) vwCl [(h0, .inr (11, [.ref q1, .int 0, .int 0, .ref q2, .int 0, .int 0, .int 0, .int 0, .int 0, .int 0, .ref q3, .int 0, .int 0, .int 0, .int 0, .int 0, .int 0, .int 0, .int 0, .ref q4, .null, .null, .null, .null, .null, .int 0, .null, .int 0, .null, .null, .null, .null, .null, .null, .int 0])), (q1, .inl (G 0, 196, .inl (fun _ => 0))), (q2, .inl (G 0, 49, .inl (fun _ => 0))), (q3, .inl (G 0, 320, .inl (fun _ => 0))), (q4, .inl (G 0, 11, .inl (upd (upd (upd (upd (upd (upd (upd (upd (upd (upd (upd (fun _ => 0) 0 0) 1 5) 2 12) 3 18) 4 23) 5 28) 6 34) 7 42) 8 46) 9 50) 10 54))), (q5, .inl (G 0, 54, .inl (upd g94 45 108)))] H := hP
  have hD : va_D A [(h0, .inr (11, [.ref q1, .int 0, .int 0, .ref q2, .int 0, .int 0, .int 0, .int 0, .int 0, .int 0, .ref q3, .int 0, .int 0, .int 0, .int 0, .int 0, .int 0, .int 0, .int 0, .ref q4, .null, .null, .null, .null, .null, .int 0, .null, .int 0, .null, .null, .null, .null, .null, .null, .int 0])), (q1, .inl (G 0, 196, .inl (fun _ => 0))), (q2, .inl (G 0, 49, .inl (fun _ => 0))), (q3, .inl (G 0, 320, .inl (fun _ => 0))), (q4, .inl (G 0, 11, .inl (upd (upd (upd (upd (upd (upd (upd (upd (upd (upd (upd (fun _ => 0) 0 0) 1 5) 2 12) 3 18) 4 23) 5 28) 6 34) 7 42) 8 46) 9 50) 10 54))), (q5, .inl (G 0, 54, .inl (upd g94 45 108)))] := hD
  have hlt97 := LTs (g := g94) (k := 45) (c := 108) hlt95 (by rfl)
  generalize (upd g94 45 108) = g96 at hP hD hlt97
  refine lv_dup hx hb dX11_init_371 rfl ?_
  refine lv_bipush (v := 46) hx hb dX11_init_372 (by decide) ?_
  refine lv_bipush (v := 116) hx hb dX11_init_374 (by decide) ?_
  refine va_iast hx hb hK.1 hP hD hS 5 0 rfl rfl (vp_in_iff.mpr ⟨by decide, by decide⟩) dX11_init_376 (fun H locs hP hD hS => ?_)
  have hP : va_P (dC, dI) vwCl [(h0, .inr (11, [.ref q1, .int 0, .int 0, .ref q2, .int 0, .int 0, .int 0, .int 0, .int 0, .int 0, .ref q3, .int 0, .int 0, .int 0, .int 0, .int 0, .int 0, .int 0, .int 0, .ref q4, .null, .null, .null, .null, .null, .int 0, .null, .int 0, .null, .null, .null, .null, .null, .null, .int 0])), (q1, .inl (G 0, 196, .inl (fun _ => 0))), (q2, .inl (G 0, 49, .inl (fun _ => 0))), (q3, .inl (G 0, 320, .inl (fun _ => 0))), (q4, .inl (G 0, 11, .inl (upd (upd (upd (upd (upd (upd (upd (upd (upd (upd (upd (fun _ => 0) 0 0) 1 5) 2 12) 3 18) 4 23) 5 28) 6 34) 7 42) 8 46) 9 50) 10 54))), (q5, .inl (G 0, 54, .inl (upd g96 46 116)))] H := hP
  have hD : va_D A [(h0, .inr (11, [.ref q1, .int 0, .int 0, .ref q2, .int 0, .int 0, .int 0, .int 0, .int 0, .int 0, .ref q3, .int 0, .int 0, .int 0, .int 0, .int 0, .int 0, .int 0, .int 0, .ref q4, .null, .null, .null, .null, .null, .int 0, .null, .int 0, .null, .null, .null, .null, .null, .null, .int 0])), (q1, .inl (G 0, 196, .inl (fun _ => 0))), (q2, .inl (G 0, 49, .inl (fun _ => 0))), (q3, .inl (G 0, 320, .inl (fun _ => 0))), (q4, .inl (G 0, 11, .inl (upd (upd (upd (upd (upd (upd (upd (upd (upd (upd (upd (fun _ => 0) 0 0) 1 5) 2 12) 3 18) 4 23) 5 28) 6 34) 7 42) 8 46) 9 50) 10 54))), (q5, .inl (G 0, 54, .inl (upd g96 46 116)))] := hD
  have hlt99 := LTs (g := g96) (k := 46) (c := 116) hlt97 (by rfl)
  generalize (upd g96 46 116) = g98 at hP hD hlt99
  refine lv_dup hx hb dX11_init_377 rfl ?_
  refine lv_bipush (v := 47) hx hb dX11_init_378 (by decide) ?_
  refine lv_bipush (v := 119) hx hb dX11_init_380 (by decide) ?_
  refine va_iast hx hb hK.1 hP hD hS 5 0 rfl rfl (vp_in_iff.mpr ⟨by decide, by decide⟩) dX11_init_382 (fun H locs hP hD hS => ?_)
  have hP : va_P (dC, dI) vwCl [(h0, .inr (11, [.ref q1, .int 0, .int 0, .ref q2, .int 0, .int 0, .int 0, .int 0, .int 0, .int 0, .ref q3, .int 0, .int 0, .int 0, .int 0, .int 0, .int 0, .int 0, .int 0, .ref q4, .null, .null, .null, .null, .null, .int 0, .null, .int 0, .null, .null, .null, .null, .null, .null, .int 0])), (q1, .inl (G 0, 196, .inl (fun _ => 0))), (q2, .inl (G 0, 49, .inl (fun _ => 0))), (q3, .inl (G 0, 320, .inl (fun _ => 0))), (q4, .inl (G 0, 11, .inl (upd (upd (upd (upd (upd (upd (upd (upd (upd (upd (upd (fun _ => 0) 0 0) 1 5) 2 12) 3 18) 4 23) 5 28) 6 34) 7 42) 8 46) 9 50) 10 54))), (q5, .inl (G 0, 54, .inl (upd g98 47 119)))] H := hP
  have hD : va_D A [(h0, .inr (11, [.ref q1, .int 0, .int 0, .ref q2, .int 0, .int 0, .int 0, .int 0, .int 0, .int 0, .ref q3, .int 0, .int 0, .int 0, .int 0, .int 0, .int 0, .int 0, .int 0, .ref q4, .null, .null, .null, .null, .null, .int 0, .null, .int 0, .null, .null, .null, .null, .null, .null, .int 0])), (q1, .inl (G 0, 196, .inl (fun _ => 0))), (q2, .inl (G 0, 49, .inl (fun _ => 0))), (q3, .inl (G 0, 320, .inl (fun _ => 0))), (q4, .inl (G 0, 11, .inl (upd (upd (upd (upd (upd (upd (upd (upd (upd (upd (upd (fun _ => 0) 0 0) 1 5) 2 12) 3 18) 4 23) 5 28) 6 34) 7 42) 8 46) 9 50) 10 54))), (q5, .inl (G 0, 54, .inl (upd g98 47 119)))] := hD
  have hlt101 := LTs (g := g98) (k := 47) (c := 119) hlt99 (by rfl)
  generalize (upd g98 47 119) = g100 at hP hD hlt101
  refine lv_dup hx hb dX11_init_383 rfl ?_
  refine lv_bipush (v := 48) hx hb dX11_init_384 (by decide) ?_
  refine lv_bipush (v := 105) hx hb dX11_init_386 (by decide) ?_
  refine va_iast hx hb hK.1 hP hD hS 5 0 rfl rfl (vp_in_iff.mpr ⟨by decide, by decide⟩) dX11_init_388 (fun H locs hP hD hS => ?_)
  have hP : va_P (dC, dI) vwCl [(h0, .inr (11, [.ref q1, .int 0, .int 0, .ref q2, .int 0, .int 0, .int 0, .int 0, .int 0, .int 0, .ref q3, .int 0, .int 0, .int 0, .int 0, .int 0, .int 0, .int 0, .int 0, .ref q4, .null, .null, .null, .null, .null, .int 0, .null, .int 0, .null, .null, .null, .null, .null, .null, .int 0])), (q1, .inl (G 0, 196, .inl (fun _ => 0))), (q2, .inl (G 0, 49, .inl (fun _ => 0))), (q3, .inl (G 0, 320, .inl (fun _ => 0))), (q4, .inl (G 0, 11, .inl (upd (upd (upd (upd (upd (upd (upd (upd (upd (upd (upd (fun _ => 0) 0 0) 1 5) 2 12) 3 18) 4 23) 5 28) 6 34) 7 42) 8 46) 9 50) 10 54))), (q5, .inl (G 0, 54, .inl (upd g100 48 105)))] H := hP
  have hD : va_D A [(h0, .inr (11, [.ref q1, .int 0, .int 0, .ref q2, .int 0, .int 0, .int 0, .int 0, .int 0, .int 0, .ref q3, .int 0, .int 0, .int 0, .int 0, .int 0, .int 0, .int 0, .int 0, .ref q4, .null, .null, .null, .null, .null, .int 0, .null, .int 0, .null, .null, .null, .null, .null, .null, .int 0])), (q1, .inl (G 0, 196, .inl (fun _ => 0))), (q2, .inl (G 0, 49, .inl (fun _ => 0))), (q3, .inl (G 0, 320, .inl (fun _ => 0))), (q4, .inl (G 0, 11, .inl (upd (upd (upd (upd (upd (upd (upd (upd (upd (upd (upd (fun _ => 0) 0 0) 1 5) 2 12) 3 18) 4 23) 5 28) 6 34) 7 42) 8 46) 9 50) 10 54))), (q5, .inl (G 0, 54, .inl (upd g100 48 105)))] := hD
  have hlt103 := LTs (g := g100) (k := 48) (c := 105) hlt101 (by rfl)
  generalize (upd g100 48 105) = g102 at hP hD hlt103
  refine lv_dup hx hb dX11_init_389 rfl ?_
  refine lv_bipush (v := 49) hx hb dX11_init_390 (by decide) ?_
  refine lv_bipush (v := 110) hx hb dX11_init_392 (by decide) ?_
  refine va_iast hx hb hK.1 hP hD hS 5 0 rfl rfl (vp_in_iff.mpr ⟨by decide, by decide⟩) dX11_init_394 (fun H locs hP hD hS => ?_)
  have hP : va_P (dC, dI) vwCl [(h0, .inr (11, [.ref q1, .int 0, .int 0, .ref q2, .int 0, .int 0, .int 0, .int 0, .int 0, .int 0, .ref q3, .int 0, .int 0, .int 0, .int 0, .int 0, .int 0, .int 0, .int 0, .ref q4, .null, .null, .null, .null, .null, .int 0, .null, .int 0, .null, .null, .null, .null, .null, .null, .int 0])), (q1, .inl (G 0, 196, .inl (fun _ => 0))), (q2, .inl (G 0, 49, .inl (fun _ => 0))), (q3, .inl (G 0, 320, .inl (fun _ => 0))), (q4, .inl (G 0, 11, .inl (upd (upd (upd (upd (upd (upd (upd (upd (upd (upd (upd (fun _ => 0) 0 0) 1 5) 2 12) 3 18) 4 23) 5 28) 6 34) 7 42) 8 46) 9 50) 10 54))), (q5, .inl (G 0, 54, .inl (upd g102 49 110)))] H := hP
  have hD : va_D A [(h0, .inr (11, [.ref q1, .int 0, .int 0, .ref q2, .int 0, .int 0, .int 0, .int 0, .int 0, .int 0, .ref q3, .int 0, .int 0, .int 0, .int 0, .int 0, .int 0, .int 0, .int 0, .ref q4, .null, .null, .null, .null, .null, .int 0, .null, .int 0, .null, .null, .null, .null, .null, .null, .int 0])), (q1, .inl (G 0, 196, .inl (fun _ => 0))), (q2, .inl (G 0, 49, .inl (fun _ => 0))), (q3, .inl (G 0, 320, .inl (fun _ => 0))), (q4, .inl (G 0, 11, .inl (upd (upd (upd (upd (upd (upd (upd (upd (upd (upd (upd (fun _ => 0) 0 0) 1 5) 2 12) 3 18) 4 23) 5 28) 6 34) 7 42) 8 46) 9 50) 10 54))), (q5, .inl (G 0, 54, .inl (upd g102 49 110)))] := hD
  have hlt105 := LTs (g := g102) (k := 49) (c := 110) hlt103 (by rfl)
  generalize (upd g102 49 110) = g104 at hP hD hlt105
  refine lv_dup hx hb dX11_init_395 rfl ?_
  refine lv_bipush (v := 50) hx hb dX11_init_396 (by decide) ?_
  refine lv_bipush (v := 112) hx hb dX11_init_398 (by decide) ?_
  refine va_iast hx hb hK.1 hP hD hS 5 0 rfl rfl (vp_in_iff.mpr ⟨by decide, by decide⟩) dX11_init_400 (fun H locs hP hD hS => ?_)
  have hP : va_P (dC, dI) vwCl [(h0, .inr (11, [.ref q1, .int 0, .int 0, .ref q2, .int 0, .int 0, .int 0, .int 0, .int 0, .int 0, .ref q3, .int 0, .int 0, .int 0, .int 0, .int 0, .int 0, .int 0, .int 0, .ref q4, .null, .null, .null, .null, .null, .int 0, .null, .int 0, .null, .null, .null, .null, .null, .null, .int 0])), (q1, .inl (G 0, 196, .inl (fun _ => 0))), (q2, .inl (G 0, 49, .inl (fun _ => 0))), (q3, .inl (G 0, 320, .inl (fun _ => 0))), (q4, .inl (G 0, 11, .inl (upd (upd (upd (upd (upd (upd (upd (upd (upd (upd (upd (fun _ => 0) 0 0) 1 5) 2 12) 3 18) 4 23) 5 28) 6 34) 7 42) 8 46) 9 50) 10 54))), (q5, .inl (G 0, 54, .inl (upd g104 50 112)))] H := hP
  have hD : va_D A [(h0, .inr (11, [.ref q1, .int 0, .int 0, .ref q2, .int 0, .int 0, .int 0, .int 0, .int 0, .int 0, .ref q3, .int 0, .int 0, .int 0, .int 0, .int 0, .int 0, .int 0, .int 0, .ref q4, .null, .null, .null, .null, .null, .int 0, .null, .int 0, .null, .null, .null, .null, .null, .null, .int 0])), (q1, .inl (G 0, 196, .inl (fun _ => 0))), (q2, .inl (G 0, 49, .inl (fun _ => 0))), (q3, .inl (G 0, 320, .inl (fun _ => 0))), (q4, .inl (G 0, 11, .inl (upd (upd (upd (upd (upd (upd (upd (upd (upd (upd (upd (fun _ => 0) 0 0) 1 5) 2 12) 3 18) 4 23) 5 28) 6 34) 7 42) 8 46) 9 50) 10 54))), (q5, .inl (G 0, 54, .inl (upd g104 50 112)))] := hD
  have hlt107 := LTs (g := g104) (k := 50) (c := 112) hlt105 (by rfl)
  generalize (upd g104 50 112) = g106 at hP hD hlt107
  refine lv_dup hx hb dX11_init_401 rfl ?_
  refine lv_bipush (v := 51) hx hb dX11_init_402 (by decide) ?_
  refine lv_bipush (v := 97) hx hb dX11_init_404 (by decide) ?_
  refine va_iast hx hb hK.1 hP hD hS 5 0 rfl rfl (vp_in_iff.mpr ⟨by decide, by decide⟩) dX11_init_406 (fun H locs hP hD hS => ?_)
  have hP : va_P (dC, dI) vwCl [(h0, .inr (11, [.ref q1, .int 0, .int 0, .ref q2, .int 0, .int 0, .int 0, .int 0, .int 0, .int 0, .ref q3, .int 0, .int 0, .int 0, .int 0, .int 0, .int 0, .int 0, .int 0, .ref q4, .null, .null, .null, .null, .null, .int 0, .null, .int 0, .null, .null, .null, .null, .null, .null, .int 0])), (q1, .inl (G 0, 196, .inl (fun _ => 0))), (q2, .inl (G 0, 49, .inl (fun _ => 0))), (q3, .inl (G 0, 320, .inl (fun _ => 0))), (q4, .inl (G 0, 11, .inl (upd (upd (upd (upd (upd (upd (upd (upd (upd (upd (upd (fun _ => 0) 0 0) 1 5) 2 12) 3 18) 4 23) 5 28) 6 34) 7 42) 8 46) 9 50) 10 54))), (q5, .inl (G 0, 54, .inl (upd g106 51 97)))] H := hP
  have hD : va_D A [(h0, .inr (11, [.ref q1, .int 0, .int 0, .ref q2, .int 0, .int 0, .int 0, .int 0, .int 0, .int 0, .ref q3, .int 0, .int 0, .int 0, .int 0, .int 0, .int 0, .int 0, .int 0, .ref q4, .null, .null, .null, .null, .null, .int 0, .null, .int 0, .null, .null, .null, .null, .null, .null, .int 0])), (q1, .inl (G 0, 196, .inl (fun _ => 0))), (q2, .inl (G 0, 49, .inl (fun _ => 0))), (q3, .inl (G 0, 320, .inl (fun _ => 0))), (q4, .inl (G 0, 11, .inl (upd (upd (upd (upd (upd (upd (upd (upd (upd (upd (upd (fun _ => 0) 0 0) 1 5) 2 12) 3 18) 4 23) 5 28) 6 34) 7 42) 8 46) 9 50) 10 54))), (q5, .inl (G 0, 54, .inl (upd g106 51 97)))] := hD
  have hlt109 := LTs (g := g106) (k := 51) (c := 97) hlt107 (by rfl)
  generalize (upd g106 51 97) = g108 at hP hD hlt109
  refine lv_dup hx hb dX11_init_407 rfl ?_
  refine lv_bipush (v := 52) hx hb dX11_init_408 (by decide) ?_
  refine lv_bipush (v := 105) hx hb dX11_init_410 (by decide) ?_
  refine va_iast hx hb hK.1 hP hD hS 5 0 rfl rfl (vp_in_iff.mpr ⟨by decide, by decide⟩) dX11_init_412 (fun H locs hP hD hS => ?_)
  have hP : va_P (dC, dI) vwCl [(h0, .inr (11, [.ref q1, .int 0, .int 0, .ref q2, .int 0, .int 0, .int 0, .int 0, .int 0, .int 0, .ref q3, .int 0, .int 0, .int 0, .int 0, .int 0, .int 0, .int 0, .int 0, .ref q4, .null, .null, .null, .null, .null, .int 0, .null, .int 0, .null, .null, .null, .null, .null, .null, .int 0])), (q1, .inl (G 0, 196, .inl (fun _ => 0))), (q2, .inl (G 0, 49, .inl (fun _ => 0))), (q3, .inl (G 0, 320, .inl (fun _ => 0))), (q4, .inl (G 0, 11, .inl (upd (upd (upd (upd (upd (upd (upd (upd (upd (upd (upd (fun _ => 0) 0 0) 1 5) 2 12) 3 18) 4 23) 5 28) 6 34) 7 42) 8 46) 9 50) 10 54))), (q5, .inl (G 0, 54, .inl (upd g108 52 105)))] H := hP
  have hD : va_D A [(h0, .inr (11, [.ref q1, .int 0, .int 0, .ref q2, .int 0, .int 0, .int 0, .int 0, .int 0, .int 0, .ref q3, .int 0, .int 0, .int 0, .int 0, .int 0, .int 0, .int 0, .int 0, .ref q4, .null, .null, .null, .null, .null, .int 0, .null, .int 0, .null, .null, .null, .null, .null, .null, .int 0])), (q1, .inl (G 0, 196, .inl (fun _ => 0))), (q2, .inl (G 0, 49, .inl (fun _ => 0))), (q3, .inl (G 0, 320, .inl (fun _ => 0))), (q4, .inl (G 0, 11, .inl (upd (upd (upd (upd (upd (upd (upd (upd (upd (upd (upd (fun _ => 0) 0 0) 1 5) 2 12) 3 18) 4 23) 5 28) 6 34) 7 42) 8 46) 9 50) 10 54))), (q5, .inl (G 0, 54, .inl (upd g108 52 105)))] := hD
  have hlt111 := LTs (g := g108) (k := 52) (c := 105) hlt109 (by rfl)
  generalize (upd g108 52 105) = g110 at hP hD hlt111
  refine lv_dup hx hb dX11_init_413 rfl ?_
  refine lv_bipush (v := 53) hx hb dX11_init_414 (by decide) ?_
  refine lv_bipush (v := 100) hx hb dX11_init_416 (by decide) ?_
  refine va_iast hx hb hK.1 hP hD hS 5 0 rfl rfl (vp_in_iff.mpr ⟨by decide, by decide⟩) dX11_init_418 (fun H locs hP hD hS => ?_)
  have hP : va_P (dC, dI) vwCl [(h0, .inr (11, [.ref q1, .int 0, .int 0, .ref q2, .int 0, .int 0, .int 0, .int 0, .int 0, .int 0, .ref q3, .int 0, .int 0, .int 0, .int 0, .int 0, .int 0, .int 0, .int 0, .ref q4, .null, .null, .null, .null, .null, .int 0, .null, .int 0, .null, .null, .null, .null, .null, .null, .int 0])), (q1, .inl (G 0, 196, .inl (fun _ => 0))), (q2, .inl (G 0, 49, .inl (fun _ => 0))), (q3, .inl (G 0, 320, .inl (fun _ => 0))), (q4, .inl (G 0, 11, .inl (upd (upd (upd (upd (upd (upd (upd (upd (upd (upd (upd (fun _ => 0) 0 0) 1 5) 2 12) 3 18) 4 23) 5 28) 6 34) 7 42) 8 46) 9 50) 10 54))), (q5, .inl (G 0, 54, .inl (upd g110 53 100)))] H := hP
  have hD : va_D A [(h0, .inr (11, [.ref q1, .int 0, .int 0, .ref q2, .int 0, .int 0, .int 0, .int 0, .int 0, .int 0, .ref q3, .int 0, .int 0, .int 0, .int 0, .int 0, .int 0, .int 0, .int 0, .ref q4, .null, .null, .null, .null, .null, .int 0, .null, .int 0, .null, .null, .null, .null, .null, .null, .int 0])), (q1, .inl (G 0, 196, .inl (fun _ => 0))), (q2, .inl (G 0, 49, .inl (fun _ => 0))), (q3, .inl (G 0, 320, .inl (fun _ => 0))), (q4, .inl (G 0, 11, .inl (upd (upd (upd (upd (upd (upd (upd (upd (upd (upd (upd (fun _ => 0) 0 0) 1 5) 2 12) 3 18) 4 23) 5 28) 6 34) 7 42) 8 46) 9 50) 10 54))), (q5, .inl (G 0, 54, .inl (upd g110 53 100)))] := hD
  have hlt113 := LTs (g := g110) (k := 53) (c := 100) hlt111 (by rfl)
  generalize (upd g110 53 100) = g112 at hP hD hlt113
  refine va_putF (D := (dC, dI)) (ci := 11) (v := .ref q5) (ty := (.array .int)) (C := RX11) (T := TX11) (N := 35) hx hb hg inG11 tyX11 tyX11_ok nmX11 hown hK.1 hP hD hS 0 rfl rfl 20 (by decide) (hg _ wt_898) (fun _ h9 => h9) rfl hin rfl (by decide +kernel) rfl rfl (Nat.le_of_ble_eq_true rfl) dX11_init_419 (fun H locs hP hD hS => ?_)
  have hP : va_P (dC, dI) vwCl [(h0, .inr (11, [.ref q1, .int 0, .int 0, .ref q2, .int 0, .int 0, .int 0, .int 0, .int 0, .int 0, .ref q3, .int 0, .int 0, .int 0, .int 0, .int 0, .int 0, .int 0, .int 0, .ref q4, .ref q5, .null, .null, .null, .null, .int 0, .null, .int 0, .null, .null, .null, .null, .null, .null, .int 0])), (q1, .inl (G 0, 196, .inl (fun _ => 0))), (q2, .inl (G 0, 49, .inl (fun _ => 0))), (q3, .inl (G 0, 320, .inl (fun _ => 0))), (q4, .inl (G 0, 11, .inl (upd (upd (upd (upd (upd (upd (upd (upd (upd (upd (upd (fun _ => 0) 0 0) 1 5) 2 12) 3 18) 4 23) 5 28) 6 34) 7 42) 8 46) 9 50) 10 54))), (q5, .inl (G 0, 54, .inl g112))] H := hP
  have hD : va_D A [(h0, .inr (11, [.ref q1, .int 0, .int 0, .ref q2, .int 0, .int 0, .int 0, .int 0, .int 0, .int 0, .ref q3, .int 0, .int 0, .int 0, .int 0, .int 0, .int 0, .int 0, .int 0, .ref q4, .ref q5, .null, .null, .null, .null, .int 0, .null, .int 0, .null, .null, .null, .null, .null, .null, .int 0])), (q1, .inl (G 0, 196, .inl (fun _ => 0))), (q2, .inl (G 0, 49, .inl (fun _ => 0))), (q3, .inl (G 0, 320, .inl (fun _ => 0))), (q4, .inl (G 0, 11, .inl (upd (upd (upd (upd (upd (upd (upd (upd (upd (upd (upd (fun _ => 0) 0 0) 1 5) 2 12) 3 18) 4 23) 5 28) 6 34) 7 42) 8 46) 9 50) 10 54))), (q5, .inl (G 0, 54, .inl g112))] := hD
  refine lv_aload_n hx hb dX11_init_422 rfl (lv_at hl 0 rfl) ?_
  refine lv_bipush (v := 10) hx hb dX11_init_423 (by decide) ?_
  refine va_newa (atype := .long) (N' := 10) (a0 := (10, .inr (.inl (fun _ => 0)))) hx hb (hg _ wt_169) rfl hK.1 hP hD hS hA (fun _ => rfl) (by decide) (by decide) (by decide) (Nat.le_of_ble_eq_true rfl) (Nat.le_of_ble_eq_true rfl) dX11_init_425 (fun q114 cA H hK9 hP hD hS => ?_)
  obtain rfl := uniA hK9 1 rfl
  have hP : va_P (dC, dI) vwCl [(h0, .inr (11, [.ref q1, .int 0, .int 0, .ref q2, .int 0, .int 0, .int 0, .int 0, .int 0, .int 0, .ref q3, .int 0, .int 0, .int 0, .int 0, .int 0, .int 0, .int 0, .int 0, .ref q4, .ref q5, .null, .null, .null, .null, .int 0, .null, .int 0, .null, .null, .null, .null, .null, .null, .int 0])), (q1, .inl (G 0, 196, .inl (fun _ => 0))), (q2, .inl (G 0, 49, .inl (fun _ => 0))), (q3, .inl (G 0, 320, .inl (fun _ => 0))), (q4, .inl (G 0, 11, .inl (upd (upd (upd (upd (upd (upd (upd (upd (upd (upd (upd (fun _ => 0) 0 0) 1 5) 2 12) 3 18) 4 23) 5 28) 6 34) 7 42) 8 46) 9 50) 10 54))), (q5, .inl (G 0, 54, .inl g112)), (q114, .inl (G 1, 10, .inr (.inl (fun _ => 0))))] H := hP
  have hD : va_D A [(h0, .inr (11, [.ref q1, .int 0, .int 0, .ref q2, .int 0, .int 0, .int 0, .int 0, .int 0, .int 0, .ref q3, .int 0, .int 0, .int 0, .int 0, .int 0, .int 0, .int 0, .int 0, .ref q4, .ref q5, .null, .null, .null, .null, .int 0, .null, .int 0, .null, .null, .null, .null, .null, .null, .int 0])), (q1, .inl (G 0, 196, .inl (fun _ => 0))), (q2, .inl (G 0, 49, .inl (fun _ => 0))), (q3, .inl (G 0, 320, .inl (fun _ => 0))), (q4, .inl (G 0, 11, .inl (upd (upd (upd (upd (upd (upd (upd (upd (upd (upd (upd (fun _ => 0) 0 0) 1 5) 2 12) 3 18) 4 23) 5 28) 6 34) 7 42) 8 46) 9 50) 10 54))), (q5, .inl (G 0, 54, .inl g112)), (q114, .inl (G 1, 10, .inr (.inl (fun _ => 0))))] := hD
  refine W.widen (k := 6) (n := 640) (by omega) (by omega) ?_
  refine va_putF (D := (dC, dI)) (ci := 11) (v := .ref q114) (ty := (.array .long)) (C := RX11) (T := TX11) (N := 35) hx hb hg inG11 tyX11 tyX11_ok nmX11 hown hK.1 hP hD hS 0 rfl rfl 21 (by decide) (hg _ wt_899) (fun _ h9 => h9) rfl hin rfl (by decide +kernel) rfl rfl (Nat.le_of_ble_eq_true rfl) dX11_init_427 (fun H locs hP hD hS => ?_)
  have hP : va_P (dC, dI) vwCl [(h0, .inr (11, [.ref q1, .int 0, .int 0, .ref q2, .int 0, .int 0, .int 0, .int 0, .int 0, .int 0, .ref q3, .int 0, .int 0, .int 0, .int 0, .int 0, .int 0, .int 0, .int 0, .ref q4, .ref q5, .ref q114, .null, .null, .null, .int 0, .null, .int 0, .null, .null, .null, .null, .null, .null, .int 0])), (q1, .inl (G 0, 196, .inl (fun _ => 0))), (q2, .inl (G 0, 49, .inl (fun _ => 0))), (q3, .inl (G 0, 320, .inl (fun _ => 0))), (q4, .inl (G 0, 11, .inl (upd (upd (upd (upd (upd (upd (upd (upd (upd (upd (upd (fun _ => 0) 0 0) 1 5) 2 12) 3 18) 4 23) 5 28) 6 34) 7 42) 8 46) 9 50) 10 54))), (q5, .inl (G 0, 54, .inl g112)), (q114, .inl (G 1, 10, .inr (.inl (fun _ => 0))))] H := hP
  have hD : va_D A [(h0, .inr (11, [.ref q1, .int 0, .int 0, .ref q2, .int 0, .int 0, .int 0, .int 0, .int 0, .int 0, .ref q3, .int 0, .int 0, .int 0, .int 0, .int 0, .int 0, .int 0, .int 0, .ref q4, .ref q5, .ref q114, .null, .null, .null, .int 0, .null, .int 0, .null, .null, .null, .null, .null, .null, .int 0])), (q1, .inl (G 0, 196, .inl (fun _ => 0))), (q2, .inl (G 0, 49, .inl (fun _ => 0))), (q3, .inl (G 0, 320, .inl (fun _ => 0))), (q4, .inl (G 0, 11, .inl (upd (upd (upd (upd (upd (upd (upd (upd (upd (upd (upd (fun _ => 0) 0 0) 1 5) 2 12) 3 18) 4 23) 5 28) 6 34) 7 42) 8 46) 9 50) 10 54))), (q5, .inl (G 0, 54, .inl g112)), (q114, .inl (G 1, 10, .inr (.inl (fun _ => 0))))] := hD
  refine lv_aload_n hx hb dX11_init_430 rfl (lv_at hl 0 rfl) ?_
  refine lv_bipush (v := 10) hx hb dX11_init_431 (by decide) ?_
  refine va_newa (atype := .long) (N' := 10) (a0 := (10, .inr (.inl (fun _ => 0)))) hx hb (hg _ wt_169) rfl hK.1 hP hD hS hA (fun _ => rfl) (by decide) (by decide) (by decide) (Nat.le_of_ble_eq_true rfl) (Nat.le_of_ble_eq_true rfl) dX11_init_433 (fun q115 cA H hK9 hP hD hS => ?_)
  obtain rfl := uniA hK9 1 rfl
  have hP : va_P (dC, dI) vwCl [(h0, .inr (11, [.ref q1, .int 0, .int 0, .ref q2, .int 0, .int 0, .int 0, .int 0, .int 0, .int 0, .ref q3, .int 0, .int 0, .int 0, .int 0, .int 0, .int 0, .int 0, .int 0, .ref q4, .ref q5, .ref q114, .null, .null, .null, .int 0, .null, .int 0, .null, .null, .null, .null, .null, .null, .int 0])), (q1, .inl (G 0, 196, .inl (fun _ => 0))), (q2, .inl (G 0, 49, .inl (fun _ => 0))), (q3, .inl (G 0, 320, .inl (fun _ => 0))), (q4, .inl (G 0, 11, .inl (upd (upd (upd (upd (upd (upd (upd (upd (upd (upd (upd (fun _ => 0) 0 0) 1 5) 2 12) 3 18) 4 23) 5 28) 6 34) 7 42) 8 46) 9 50) 10 54))), (q5, .inl (G 0, 54, .inl g112)), (q114, .inl (G 1, 10, .inr (.inl (fun _ => 0)))), (q115, .inl (G 1, 10, .inr (.inl (fun _ => 0))))] H := hP
  have hD : va_D A [(h0, .inr (11, [.ref q1, .int 0, .int 0, .ref q2, .int 0, .int 0, .int 0, .int 0, .int 0, .int 0, .ref q3, .int 0, .int 0, .int 0, .int 0, .int 0, .int 0, .int 0, .int 0, .ref q4, .ref q5, .ref q114, .null, .null, .null, .int 0, .null, .int 0, .null, .null, .null, .null, .null, .null, .int 0])), (q1, .inl (G 0, 196, .inl (fun _ => 0))), (q2, .inl (G 0, 49, .inl (fun _ => 0))), (q3, .inl (G 0, 320, .inl (fun _ => 0))), (q4, .inl (G 0, 11, .inl (upd (upd (upd (upd (upd (upd (upd (upd (upd (upd (upd (fun _ => 0) 0 0) 1 5) 2 12) 3 18) 4 23) 5 28) 6 34) 7 42) 8 46) 9 50) 10 54))), (q5, .inl (G 0, 54, .inl g112)), (q114, .inl (G 1, 10, .inr (.inl (fun _ => 0)))), (q115, .inl (G 1, 10, .inr (.inl (fun _ => 0))))] := hD
  refine W.widen (k := 7) (n := 650) (by omega) (by omega) ?_
  refine va_putF (D := (dC, dI)) (ci := 11) (v := .ref q115) (ty := (.array .long)) (C := RX11) (T := TX11) (N := 35) hx hb hg inG11 tyX11 tyX11_ok nmX11 hown hK.1 hP hD hS 0 rfl rfl 22 (by decide) (hg _ wt_900) (fun _ h9 => h9) rfl hin rfl (by decide +kernel) rfl rfl (Nat.le_of_ble_eq_true rfl) dX11_init_435 (fun H locs hP hD hS => ?_)
  have hP : va_P (dC, dI) vwCl [(h0, .inr (11, [.ref q1, .int 0, .int 0, .ref q2, .int 0, .int 0, .int 0, .int 0, .int 0, .int 0, .ref q3, .int 0, .int 0, .int 0, .int 0, .int 0, .int 0, .int 0, .int 0, .ref q4, .ref q5, .ref q114, .ref q115, .null, .null, .int 0, .null, .int 0, .null, .null, .null, .null, .null, .null, .int 0])), (q1, .inl (G 0, 196, .inl (fun _ => 0))), (q2, .inl (G 0, 49, .inl (fun _ => 0))), (q3, .inl (G 0, 320, .inl (fun _ => 0))), (q4, .inl (G 0, 11, .inl (upd (upd (upd (upd (upd (upd (upd (upd (upd (upd (upd (fun _ => 0) 0 0) 1 5) 2 12) 3 18) 4 23) 5 28) 6 34) 7 42) 8 46) 9 50) 10 54))), (q5, .inl (G 0, 54, .inl g112)), (q114, .inl (G 1, 10, .inr (.inl (fun _ => 0)))), (q115, .inl (G 1, 10, .inr (.inl (fun _ => 0))))] H := hP
  have hD : va_D A [(h0, .inr (11, [.ref q1, .int 0, .int 0, .ref q2, .int 0, .int 0, .int 0, .int 0, .int 0, .int 0, .ref q3, .int 0, .int 0, .int 0, .int 0, .int 0, .int 0, .int 0, .int 0, .ref q4, .ref q5, .ref q114, .ref q115, .null, .null, .int 0, .null, .int 0, .null, .null, .null, .null, .null, .null, .int 0])), (q1, .inl (G 0, 196, .inl (fun _ => 0))), (q2, .inl (G 0, 49, .inl (fun _ => 0))), (q3, .inl (G 0, 320, .inl (fun _ => 0))), (q4, .inl (G 0, 11, .inl (upd (upd (upd (upd (upd (upd (upd (upd (upd (upd (upd (fun _ => 0) 0 0) 1 5) 2 12) 3 18) 4 23) 5 28) 6 34) 7 42) 8 46) 9 50) 10 54))), (q5, .inl (G 0, 54, .inl g112)), (q114, .inl (G 1, 10, .inr (.inl (fun _ => 0)))), (q115, .inl (G 1, 10, .inr (.inl (fun _ => 0))))] := hD
  refine lv_aload_n hx hb dX11_init_438 rfl (lv_at hl 0 rfl) ?_
  refine lv_sipush (v := 770) hx hb dX11_init_439 (by decide) ?_
  refine va_newa (atype := .long) (N' := 770) (a0 := (770, .inr (.inl (fun _ => 0)))) hx hb (hg _ wt_169) rfl hK.1 hP hD hS hA (fun _ => rfl) (by decide) (by decide) (by decide) (Nat.le_of_ble_eq_true rfl) (Nat.le_of_ble_eq_true rfl) dX11_init_442 (fun q116 cA H hK9 hP hD hS => ?_)
  obtain rfl := uniA hK9 1 rfl
  have hP : va_P (dC, dI) vwCl [(h0, .inr (11, [.ref q1, .int 0, .int 0, .ref q2, .int 0, .int 0, .int 0, .int 0, .int 0, .int 0, .ref q3, .int 0, .int 0, .int 0, .int 0, .int 0, .int 0, .int 0, .int 0, .ref q4, .ref q5, .ref q114, .ref q115, .null, .null, .int 0, .null, .int 0, .null, .null, .null, .null, .null, .null, .int 0])), (q1, .inl (G 0, 196, .inl (fun _ => 0))), (q2, .inl (G 0, 49, .inl (fun _ => 0))), (q3, .inl (G 0, 320, .inl (fun _ => 0))), (q4, .inl (G 0, 11, .inl (upd (upd (upd (upd (upd (upd (upd (upd (upd (upd (upd (fun _ => 0) 0 0) 1 5) 2 12) 3 18) 4 23) 5 28) 6 34) 7 42) 8 46) 9 50) 10 54))), (q5, .inl (G 0, 54, .inl g112)), (q114, .inl (G 1, 10, .inr (.inl (fun _ => 0)))), (q115, .inl (G 1, 10, .inr (.inl (fun _ => 0)))), (q116, .inl (G 1, 770, .inr (.inl (fun _ => 0))))] H := hP
  have hD : va_D A [(h0, .inr (11, [.ref q1, .int 0, .int 0, .ref q2, .int 0, .int 0, .int 0, .int 0, .int 0, .int 0, .ref q3, .int 0, .int 0, .int 0, .int 0, .int 0, .int 0, .int 0, .int 0, .ref q4, .ref q5, .ref q114, .ref q115, .null, .null, .int 0, .null, .int 0, .null, .null, .null, .null, .null, .null, .int 0])), (q1, .inl (G 0, 196, .inl (fun _ => 0))), (q2, .inl (G 0, 49, .inl (fun _ => 0))), (q3, .inl (G 0, 320, .inl (fun _ => 0))), (q4, .inl (G 0, 11, .inl (upd (upd (upd (upd (upd (upd (upd (upd (upd (upd (upd (fun _ => 0) 0 0) 1 5) 2 12) 3 18) 4 23) 5 28) 6 34) 7 42) 8 46) 9 50) 10 54))), (q5, .inl (G 0, 54, .inl g112)), (q114, .inl (G 1, 10, .inr (.inl (fun _ => 0)))), (q115, .inl (G 1, 10, .inr (.inl (fun _ => 0)))), (q116, .inl (G 1, 770, .inr (.inl (fun _ => 0))))] := hD
  refine W.widen (k := 8) (n := 1420) (by omega) (by omega) ?_
  refine va_putF (D := (dC, dI)) (ci := 11) (v := .ref q116) (ty := (.array .long)) (C := RX11) (T := TX11) (N := 35) hx hb hg inG11 tyX11 tyX11_ok nmX11 hown hK.1 hP hD hS 0 rfl rfl 23 (by decide) (hg _ wt_901) (fun _ h9 => h9) rfl hin rfl (by decide +kernel) rfl rfl (Nat.le_of_ble_eq_true rfl) dX11_init_444 (fun H locs hP hD hS => ?_)
  have hP : va_P (dC, dI) vwCl [(h0, .inr (11, [.ref q1, .int 0, .int 0, .ref q2, .int 0, .int 0, .int 0, .int 0, .int 0, .int 0, .ref q3, .int 0, .int 0, .int 0, .int 0, .int 0, .int 0, .int 0, .int 0, .ref q4, .ref q5, .ref q114, .ref q115, .ref q116, .null, .int 0, .null, .int 0, .null, .null, .null, .null, .null, .null, .int 0])), (q1, .inl (G 0, 196, .inl (fun _ => 0))), (q2, .inl (G 0, 49, .inl (fun _ => 0))), (q3, .inl (G 0, 320, .inl (fun _ => 0))), (q4, .inl (G 0, 11, .inl (upd (upd (upd (upd (upd (upd (upd (upd (upd (upd (upd (fun _ => 0) 0 0) 1 5) 2 12) 3 18) 4 23) 5 28) 6 34) 7 42) 8 46) 9 50) 10 54))), (q5, .inl (G 0, 54, .inl g112)), (q114, .inl (G 1, 10, .inr (.inl (fun _ => 0)))), (q115, .inl (G 1, 10, .inr (.inl (fun _ => 0)))), (q116, .inl (G 1, 770, .inr (.inl (fun _ => 0))))] H := hP
  have hD : va_D A [(h0, .inr (11, [.ref q1, .int 0, .int 0, .ref q2, .int 0, .int 0, .int 0, .int 0, .int 0, .int 0, .ref q3, .int 0, .int 0, .int 0, .int 0, .int 0, .int 0, .int 0, .int 0, .ref q4, .ref q5, .ref q114, .ref q115, .ref q116, .null, .int 0, .null, .int 0, .null, .null, .null, .null, .null, .null, .int 0])), (q1, .inl (G 0, 196, .inl (fun _ => 0))), (q2, .inl (G 0, 49, .inl (fun _ => 0))), (q3, .inl (G 0, 320, .inl (fun _ => 0))), (q4, .inl (G 0, 11, .inl (upd (upd (upd (upd (upd (upd (upd (upd (upd (upd (upd (fun _ => 0) 0 0) 1 5) 2 12) 3 18) 4 23) 5 28) 6 34) 7 42) 8 46) 9 50) 10 54))), (q5, .inl (G 0, 54, .inl g112)), (q114, .inl (G 1, 10, .inr (.inl (fun _ => 0)))), (q115, .inl (G 1, 10, .inr (.inl (fun _ => 0)))), (q116, .inl (G 1, 770, .inr (.inl (fun _ => 0))))] := hD
  refine lv_aload_n hx hb dX11_init_447 rfl (lv_at hl 0 rfl) ?_
  refine lv_bipush (v := 32) hx hb dX11_init_448 (by decide) ?_
  refine va_newa (atype := .int) (N' := 32) (a0 := (32, .inl (fun _ => 0))) hx hb (hg _ wt_49) rfl hK.1 hP hD hS hA (fun _ => rfl) (by decide) (by decide) (by decide) (Nat.le_of_ble_eq_true rfl) (Nat.le_of_ble_eq_true rfl) dX11_init_450 (fun q117 cA H hK9 hP hD hS => ?_)
  obtain rfl := uniA hK9 0 rfl
  have hP : va_P (dC, dI) vwCl [(h0, .inr (11, [.ref q1, .int 0, .int 0, .ref q2, .int 0, .int 0, .int 0, .int 0, .int 0, .int 0, .ref q3, .int 0, .int 0, .int 0, .int 0, .int 0, .int 0, .int 0, .int 0, .ref q4, .ref q5, .ref q114, .ref q115, .ref q116, .null, .int 0, .null, .int 0, .null, .null, .null, .null, .null, .null, .int 0])), (q1, .inl (G 0, 196, .inl (fun _ => 0))), (q2, .inl (G 0, 49, .inl (fun _ => 0))), (q3, .inl (G 0, 320, .inl (fun _ => 0))), (q4, .inl (G 0, 11, .inl (upd (upd (upd (upd (upd (upd (upd (upd (upd (upd (upd (fun _ => 0) 0 0) 1 5) 2 12) 3 18) 4 23) 5 28) 6 34) 7 42) 8 46) 9 50) 10 54))), (q5, .inl (G 0, 54, .inl g112)), (q114, .inl (G 1, 10, .inr (.inl (fun _ => 0)))), (q115, .inl (G 1, 10, .inr (.inl (fun _ => 0)))), (q116, .inl (G 1, 770, .inr (.inl (fun _ => 0)))), (q117, .inl (G 0, 32, .inl (fun _ => 0)))] H := hP
  have hD : va_D A [(h0, .inr (11, [.ref q1, .int 0, .int 0, .ref q2, .int 0, .int 0, .int 0, .int 0, .int 0, .int 0, .ref q3, .int 0, .int 0, .int 0, .int 0, .int 0, .int 0, .int 0, .int 0, .ref q4, .ref q5, .ref q114, .ref q115, .ref q116, .null, .int 0, .null, .int 0, .null, .null, .null, .null, .null, .null, .int 0])), (q1, .inl (G 0, 196, .inl (fun _ => 0))), (q2, .inl (G 0, 49, .inl (fun _ => 0))), (q3, .inl (G 0, 320, .inl (fun _ => 0))), (q4, .inl (G 0, 11, .inl (upd (upd (upd (upd (upd (upd (upd (upd (upd (upd (upd (fun _ => 0) 0 0) 1 5) 2 12) 3 18) 4 23) 5 28) 6 34) 7 42) 8 46) 9 50) 10 54))), (q5, .inl (G 0, 54, .inl g112)), (q114, .inl (G 1, 10, .inr (.inl (fun _ => 0)))), (q115, .inl (G 1, 10, .inr (.inl (fun _ => 0)))), (q116, .inl (G 1, 770, .inr (.inl (fun _ => 0)))), (q117, .inl (G 0, 32, .inl (fun _ => 0)))] := hD
  refine W.widen (k := 9) (n := 1452) (by omega) (by omega) ?_
  refine va_putF (D := (dC, dI)) (ci := 11) (v := .ref q117) (ty := (.array .int)) (C := RX11) (T := TX11) (N := 35) hx hb hg inG11 tyX11 tyX11_ok nmX11 hown hK.1 hP hD hS 0 rfl rfl 24 (by decide) (hg _ wt_902) (fun _ h9 => h9) rfl hin rfl (by decide +kernel) rfl rfl (Nat.le_of_ble_eq_true rfl) dX11_init_452 (fun H locs hP hD hS => ?_)
  have hP : va_P (dC, dI) vwCl [(h0, .inr (11, [.ref q1, .int 0, .int 0, .ref q2, .int 0, .int 0, .int 0, .int 0, .int 0, .int 0, .ref q3, .int 0, .int 0, .int 0, .int 0, .int 0, .int 0, .int 0, .int 0, .ref q4, .ref q5, .ref q114, .ref q115, .ref q116, .ref q117, .int 0, .null, .int 0, .null, .null, .null, .null, .null, .null, .int 0])), (q1, .inl (G 0, 196, .inl (fun _ => 0))), (q2, .inl (G 0, 49, .inl (fun _ => 0))), (q3, .inl (G 0, 320, .inl (fun _ => 0))), (q4, .inl (G 0, 11, .inl (upd (upd (upd (upd (upd (upd (upd (upd (upd (upd (upd (fun _ => 0) 0 0) 1 5) 2 12) 3 18) 4 23) 5 28) 6 34) 7 42) 8 46) 9 50) 10 54))), (q5, .inl (G 0, 54, .inl g112)), (q114, .inl (G 1, 10, .inr (.inl (fun _ => 0)))), (q115, .inl (G 1, 10, .inr (.inl (fun _ => 0)))), (q116, .inl (G 1, 770, .inr (.inl (fun _ => 0)))), (q117, .inl (G 0, 32, .inl (fun _ => 0)))] H := hP
  have hD : va_D A [(h0, .inr (11, [.ref q1, .int 0, .int 0, .ref q2, .int 0, .int 0, .int 0, .int 0, .int 0, .int 0, .ref q3, .int 0, .int 0, .int 0, .int 0, .int 0, .int 0, .int 0, .int 0, .ref q4, .ref q5, .ref q114, .ref q115, .ref q116, .ref q117, .int 0, .null, .int 0, .null, .null, .null, .null, .null, .null, .int 0])), (q1, .inl (G 0, 196, .inl (fun _ => 0))), (q2, .inl (G 0, 49, .inl (fun _ => 0))), (q3, .inl (G 0, 320, .inl (fun _ => 0))), (q4, .inl (G 0, 11, .inl (upd (upd (upd (upd (upd (upd (upd (upd (upd (upd (upd (fun _ => 0) 0 0) 1 5) 2 12) 3 18) 4 23) 5 28) 6 34) 7 42) 8 46) 9 50) 10 54))), (q5, .inl (G 0, 54, .inl g112)), (q114, .inl (G 1, 10, .inr (.inl (fun _ => 0)))), (q115, .inl (G 1, 10, .inr (.inl (fun _ => 0)))), (q116, .inl (G 1, 770, .inr (.inl (fun _ => 0)))), (q117, .inl (G 0, 32, .inl (fun _ => 0)))] := hD
  refine lv_aload_n hx hb dX11_init_455 rfl (lv_at hl 0 rfl) ?_
  refine lv_bipush (v := 12) hx hb dX11_init_456 (by decide) ?_
  refine va_newa (atype := .int) (N' := 12) (a0 := (12, .inl (fun _ => 0))) hx hb (hg _ wt_49) rfl hK.1 hP hD hS hA (fun _ => rfl) (by decide) (by decide) (by decide) (Nat.le_of_ble_eq_true rfl) (Nat.le_of_ble_eq_true rfl) dX11_init_458 (fun q118 cA H hK9 hP hD hS => ?_)
  obtain rfl := uniA hK9 0 rfl
  have hP : va_P (dC, dI) vwCl [(h0, .inr (11, [.ref q1, .int 0, .int 0, .ref q2, .int 0, .int 0, .int 0, .int 0, .int 0, .int 0, .ref q3, .int 0, .int 0, .int 0, .int 0, .int 0, .int 0, .int 0, .int 0, .ref q4, .ref q5, .ref q114, .ref q115, .ref q116, .ref q117, .int 0, .null, .int 0, .null, .null, .null, .null, .null, .null, .int 0])), (q1, .inl (G 0, 196, .inl (fun _ => 0))), (q2, .inl (G 0, 49, .inl (fun _ => 0))), (q3, .inl (G 0, 320, .inl (fun _ => 0))), (q4, .inl (G 0, 11, .inl (upd (upd (upd (upd (upd (upd (upd (upd (upd (upd (upd (fun _ => 0) 0 0) 1 5) 2 12) 3 18) 4 23) 5 28) 6 34) 7 42) 8 46) 9 50) 10 54))), (q5, .inl (G 0, 54, .inl g112)), (q114, .inl (G 1, 10, .inr (.inl (fun _ => 0)))), (q115, .inl (G 1, 10, .inr (.inl (fun _ => 0)))), (q116, .inl (G 1, 770, .inr (.inl (fun _ => 0)))), (q117, .inl (G 0, 32, .inl (fun _ => 0))), (q118, .inl (G 0, 12, .inl (fun _ => 0)))] H := hP
  have hD : va_D A [(h0, .inr (11, [.ref q1, .int 0, .int 0, .ref q2, .int 0, .int 0, .int 0, .int 0, .int 0, .int 0, .ref q3, .int 0, .int 0, .int 0, .int 0, .int 0, .int 0, .int 0, .int 0, .ref q4, .ref q5, .ref q114, .ref q115, .ref q116, .ref q117, .int 0, .null, .int 0, .null, .null, .null, .null, .null, .null, .int 0])), (q1, .inl (G 0, 196, .inl (fun _ => 0))), (q2, .inl (G 0, 49, .inl (fun _ => 0))), (q3, .inl (G 0, 320, .inl (fun _ => 0))), (q4, .inl (G 0, 11, .inl (upd (upd (upd (upd (upd (upd (upd (upd (upd (upd (upd (fun _ => 0) 0 0) 1 5) 2 12) 3 18) 4 23) 5 28) 6 34) 7 42) 8 46) 9 50) 10 54))), (q5, .inl (G 0, 54, .inl g112)), (q114, .inl (G 1, 10, .inr (.inl (fun _ => 0)))), (q115, .inl (G 1, 10, .inr (.inl (fun _ => 0)))), (q116, .inl (G 1, 770, .inr (.inl (fun _ => 0)))), (q117, .inl (G 0, 32, .inl (fun _ => 0))), (q118, .inl (G 0, 12, .inl (fun _ => 0)))] := hD
  refine W.widen (k := 10) (n := 1464) (by omega) (by omega) ?_
  refine va_putF (D := (dC, dI)) (ci := 11) (v := .ref q118) (ty := (.array .int)) (C := RX11) (T := TX11) (N := 35) hx hb hg inG11 tyX11 tyX11_ok nmX11 hown hK.1 hP hD hS 0 rfl rfl 26 (by decide) (hg _ wt_904) (fun _ h9 => h9) rfl hin rfl (by decide +kernel) rfl rfl (Nat.le_of_ble_eq_true rfl) dX11_init_460 (fun H locs hP hD hS => ?_)
  have hP : va_P (dC, dI) vwCl [(h0, .inr (11, [.ref q1, .int 0, .int 0, .ref q2, .int 0, .int 0, .int 0, .int 0, .int 0, .int 0, .ref q3, .int 0, .int 0, .int 0, .int 0, .int 0, .int 0, .int 0, .int 0, .ref q4, .ref q5, .ref q114, .ref q115, .ref q116, .ref q117, .int 0, .ref q118, .int 0, .null, .null, .null, .null, .null, .null, .int 0])), (q1, .inl (G 0, 196, .inl (fun _ => 0))), (q2, .inl (G 0, 49, .inl (fun _ => 0))), (q3, .inl (G 0, 320, .inl (fun _ => 0))), (q4, .inl (G 0, 11, .inl (upd (upd (upd (upd (upd (upd (upd (upd (upd (upd (upd (fun _ => 0) 0 0) 1 5) 2 12) 3 18) 4 23) 5 28) 6 34) 7 42) 8 46) 9 50) 10 54))), (q5, .inl (G 0, 54, .inl g112)), (q114, .inl (G 1, 10, .inr (.inl (fun _ => 0)))), (q115, .inl (G 1, 10, .inr (.inl (fun _ => 0)))), (q116, .inl (G 1, 770, .inr (.inl (fun _ => 0)))), (q117, .inl (G 0, 32, .inl (fun _ => 0))), (q118, .inl (G 0, 12, .inl (fun _ => 0)))] H := hP
  have hD : va_D A [(h0, .inr (11, [.ref q1, .int 0, .int 0, .ref q2, .int 0, .int 0, .int 0, .int 0, .int 0, .int 0, .ref q3, .int 0, .int 0, .int 0, .int 0, .int 0, .int 0, .int 0, .int 0, .ref q4, .ref q5, .ref q114, .ref q115, .ref q116, .ref q117, .int 0, .ref q118, .int 0, .null, .null, .null, .null, .null, .null, .int 0])), (q1, .inl (G 0, 196, .inl (fun _ => 0))), (q2, .inl (G 0, 49, .inl (fun _ => 0))), (q3, .inl (G 0, 320, .inl (fun _ => 0))), (q4, .inl (G 0, 11, .inl (upd (upd (upd (upd (upd (upd (upd (upd (upd (upd (upd (fun _ => 0) 0 0) 1 5) 2 12) 3 18) 4 23) 5 28) 6 34) 7 42) 8 46) 9 50) 10 54))), (q5, .inl (G 0, 54, .inl g112)), (q114, .inl (G 1, 10, .inr (.inl (fun _ => 0)))), (q115, .inl (G 1, 10, .inr (.inl (fun _ => 0)))), (q116, .inl (G 1, 770, .inr (.inl (fun _ => 0)))), (q117, .inl (G 0, 32, .inl (fun _ => 0))), (q118, .inl (G 0, 12, .inl (fun _ => 0)))] := hD
  refine lv_aload_n hx hb dX11_init_463 rfl (lv_at hl 0 rfl) ?_
  refine lv_bipush (v := 110) hx hb dX11_init_464 (by decide) ?_
  refine va_newa (atype := .int) (N' := 110) (a0 := (110, .inl (fun _ => 0))) hx hb (hg _ wt_49) rfl hK.1 hP hD hS hA (fun _ => rfl) (by decide) (by decide) (by decide) (Nat.le_of_ble_eq_true rfl) (Nat.le_of_ble_eq_true rfl) dX11_init_466 (fun q119 cA H hK9 hP hD hS => ?_)
  obtain rfl := uniA hK9 0 rfl
  have hP : va_P (dC, dI) vwCl [(h0, .inr (11, [.ref q1, .int 0, .int 0, .ref q2, .int 0, .int 0, .int 0, .int 0, .int 0, .int 0, .ref q3, .int 0, .int 0, .int 0, .int 0, .int 0, .int 0, .int 0, .int 0, .ref q4, .ref q5, .ref q114, .ref q115, .ref q116, .ref q117, .int 0, .ref q118, .int 0, .null, .null, .null, .null, .null, .null, .int 0])), (q1, .inl (G 0, 196, .inl (fun _ => 0))), (q2, .inl (G 0, 49, .inl (fun _ => 0))), (q3, .inl (G 0, 320, .inl (fun _ => 0))), (q4, .inl (G 0, 11, .inl (upd (upd (upd (upd (upd (upd (upd (upd (upd (upd (upd (fun _ => 0) 0 0) 1 5) 2 12) 3 18) 4 23) 5 28) 6 34) 7 42) 8 46) 9 50) 10 54))), (q5, .inl (G 0, 54, .inl g112)), (q114, .inl (G 1, 10, .inr (.inl (fun _ => 0)))), (q115, .inl (G 1, 10, .inr (.inl (fun _ => 0)))), (q116, .inl (G 1, 770, .inr (.inl (fun _ => 0)))), (q117, .inl (G 0, 32, .inl (fun _ => 0))), (q118, .inl (G 0, 12, .inl (fun _ => 0))), (q119, .inl (G 0, 110, .inl (fun _ => 0)))] H := hP
  have hD : va_D A [(h0, .inr (11, [.ref q1, .int 0, .int 0, .ref q2, .int 0, .int 0, .int 0, .int 0, .int 0, .int 0, .ref q3, .int 0, .int 0, .int 0, .int 0, .int 0, .int 0, .int 0, .int 0, .ref q4, .ref q5, .ref q114, .ref q115, .ref q116, .ref q117, .int 0, .ref q118, .int 0, .null, .null, .null, .null, .null, .null, .int 0])), (q1, .inl (G 0, 196, .inl (fun _ => 0))), (q2, .inl (G 0, 49, .inl (fun _ => 0))), (q3, .inl (G 0, 320, .inl (fun _ => 0))), (q4, .inl (G 0, 11, .inl (upd (upd (upd (upd (upd (upd (upd (upd (upd (upd (upd (fun _ => 0) 0 0) 1 5) 2 12) 3 18) 4 23) 5 28) 6 34) 7 42) 8 46) 9 50) 10 54))), (q5, .inl (G 0, 54, .inl g112)), (q114, .inl (G 1, 10, .inr (.inl (fun _ => 0)))), (q115, .inl (G 1, 10, .inr (.inl (fun _ => 0)))), (q116, .inl (G 1, 770, .inr (.inl (fun _ => 0)))), (q117, .inl (G 0, 32, .inl (fun _ => 0))), (q118, .inl (G 0, 12, .inl (fun _ => 0))), (q119, .inl (G 0, 110, .inl (fun _ => 0)))] := hD
  refine W.widen (k := 11) (n := 1574) (by omega) (by omega) ?_
  refine va_putF (D := (dC, dI)) (ci := 11) (v := .ref q119) (ty := (.array .int)) (C := RX11) (T := TX11) (N := 35) hx hb hg inG11 tyX11 tyX11_ok nmX11 hown hK.1 hP hD hS 0 rfl rfl 28 (by decide) (hg _ wt_906) (fun _ h9 => h9) rfl hin rfl (by decide +kernel) rfl rfl (Nat.le_of_ble_eq_true rfl) dX11_init_468 (fun H locs hP hD hS => ?_)
  have hP : va_P (dC, dI) vwCl [(h0, .inr (11, [.ref q1, .int 0, .int 0, .ref q2, .int 0, .int 0, .int 0, .int 0, .int 0, .int 0, .ref q3, .int 0, .int 0, .int 0, .int 0, .int 0, .int 0, .int 0, .int 0, .ref q4, .ref q5, .ref q114, .ref q115, .ref q116, .ref q117, .int 0, .ref q118, .int 0, .ref q119, .null, .null, .null, .null, .null, .int 0])), (q1, .inl (G 0, 196, .inl (fun _ => 0))), (q2, .inl (G 0, 49, .inl (fun _ => 0))), (q3, .inl (G 0, 320, .inl (fun _ => 0))), (q4, .inl (G 0, 11, .inl (upd (upd (upd (upd (upd (upd (upd (upd (upd (upd (upd (fun _ => 0) 0 0) 1 5) 2 12) 3 18) 4 23) 5 28) 6 34) 7 42) 8 46) 9 50) 10 54))), (q5, .inl (G 0, 54, .inl g112)), (q114, .inl (G 1, 10, .inr (.inl (fun _ => 0)))), (q115, .inl (G 1, 10, .inr (.inl (fun _ => 0)))), (q116, .inl (G 1, 770, .inr (.inl (fun _ => 0)))), (q117, .inl (G 0, 32, .inl (fun _ => 0))), (q118, .inl (G 0, 12, .inl (fun _ => 0))), (q119, .inl (G 0, 110, .inl (fun _ => 0)))] H := hP
  have hD : va_D A [(h0, .inr (11, [.ref q1, .int 0, .int 0, .ref q2, .int 0, .int 0, .int 0, .int 0, .int 0, .int 0, .ref q3, .int 0, .int 0, .int 0, .int 0, .int 0, .int 0, .int 0, .int 0, .ref q4, .ref q5, .ref q114, .ref q115, .ref q116, .ref q117, .int 0, .ref q118, .int 0, .ref q119, .null, .null, .null, .null, .null, .int 0])), (q1, .inl (G 0, 196, .inl (fun _ => 0))), (q2, .inl (G 0, 49, .inl (fun _ => 0))), (q3, .inl (G 0, 320, .inl (fun _ => 0))), (q4, .inl (G 0, 11, .inl (upd (upd (upd (upd (upd (upd (upd (upd (upd (upd (upd (fun _ => 0) 0 0) 1 5) 2 12) 3 18) 4 23) 5 28) 6 34) 7 42) 8 46) 9 50) 10 54))), (q5, .inl (G 0, 54, .inl g112)), (q114, .inl (G 1, 10, .inr (.inl (fun _ => 0)))), (q115, .inl (G 1, 10, .inr (.inl (fun _ => 0)))), (q116, .inl (G 1, 770, .inr (.inl (fun _ => 0)))), (q117, .inl (G 0, 32, .inl (fun _ => 0))), (q118, .inl (G 0, 12, .inl (fun _ => 0))), (q119, .inl (G 0, 110, .inl (fun _ => 0)))] := hD
  refine lv_aload_n hx hb dX11_init_471 rfl (lv_at hl 0 rfl) ?_
  refine lv_bipush (v := 110) hx hb dX11_init_472 (by decide) ?_
  refine va_newa (atype := .int) (N' := 110) (a0 := (110, .inl (fun _ => 0))) hx hb (hg _ wt_49) rfl hK.1 hP hD hS hA (fun _ => rfl) (by decide) (by decide) (by decide) (Nat.le_of_ble_eq_true rfl) (Nat.le_of_ble_eq_true rfl) dX11_init_474 (fun q120 cA H hK9 hP hD hS => ?_)
  obtain rfl := uniA hK9 0 rfl
  have hP : va_P (dC, dI) vwCl [(h0, .inr (11, [.ref q1, .int 0, .int 0, .ref q2, .int 0, .int 0, .int 0, .int 0, .int 0, .int 0, .ref q3, .int 0, .int 0, .int 0, .int 0, .int 0, .int 0, .int 0, .int 0, .ref q4, .ref q5, .ref q114, .ref q115, .ref q116, .ref q117, .int 0, .ref q118, .int 0, .ref q119, .null, .null, .null, .null, .null, .int 0])), (q1, .inl (G 0, 196, .inl (fun _ => 0))), (q2, .inl (G 0, 49, .inl (fun _ => 0))), (q3, .inl (G 0, 320, .inl (fun _ => 0))), (q4, .inl (G 0, 11, .inl (upd (upd (upd (upd (upd (upd (upd (upd (upd (upd (upd (fun _ => 0) 0 0) 1 5) 2 12) 3 18) 4 23) 5 28) 6 34) 7 42) 8 46) 9 50) 10 54))), (q5, .inl (G 0, 54, .inl g112)), (q114, .inl (G 1, 10, .inr (.inl (fun _ => 0)))), (q115, .inl (G 1, 10, .inr (.inl (fun _ => 0)))), (q116, .inl (G 1, 770, .inr (.inl (fun _ => 0)))), (q117, .inl (G 0, 32, .inl (fun _ => 0))), (q118, .inl (G 0, 12, .inl (fun _ => 0))), (q119, .inl (G 0, 110, .inl (fun _ => 0))), (q120, .inl (G 0, 110, .inl (fun _ => 0)))] H := hP
  have hD : va_D A [(h0, .inr (11, [.ref q1, .int 0, .int 0, .ref q2, .int 0, .int 0, .int 0, .int 0, .int 0, .int 0, .ref q3, .int 0, .int 0, .int 0, .int 0, .int 0, .int 0, .int 0, .int 0, .ref q4, .ref q5, .ref q114, .ref q115, .ref q116, .ref q117, .int 0, .ref q118, .int 0, .ref q119, .null, .null, .null, .null, .null, .int 0])), (q1, .inl (G 0, 196, .inl (fun _ => 0))), (q2, .inl (G 0, 49, .inl (fun _ => 0))), (q3, .inl (G 0, 320, .inl (fun _ => 0))), (q4, .inl (G 0, 11, .inl (upd (upd (upd (upd (upd (upd (upd (upd (upd (upd (upd (fun _ => 0) 0 0) 1 5) 2 12) 3 18) 4 23) 5 28) 6 34) 7 42) 8 46) 9 50) 10 54))), (q5, .inl (G 0, 54, .inl g112)), (q114, .inl (G 1, 10, .inr (.inl (fun _ => 0)))), (q115, .inl (G 1, 10, .inr (.inl (fun _ => 0)))), (q116, .inl (G 1, 770, .inr (.inl (fun _ => 0)))), (q117, .inl (G 0, 32, .inl (fun _ => 0))), (q118, .inl (G 0, 12, .inl (fun _ => 0))), (q119, .inl (G 0, 110, .inl (fun _ => 0))), (q120, .inl (G 0, 110, .inl (fun _ => 0)))] := hD
  refine W.widen (k := 12) (n := 1684) (by omega) (by omega) ?_
  refine va_putF (D := (dC, dI)) (ci := 11) (v := .ref q120) (ty := (.array .int)) (C := RX11) (T := TX11) (N := 35) hx hb hg inG11 tyX11 tyX11_ok nmX11 hown hK.1 hP hD hS 0 rfl rfl 29 (by decide) (hg _ wt_907) (fun _ h9 => h9) rfl hin rfl (by decide +kernel) rfl rfl (Nat.le_of_ble_eq_true rfl) dX11_init_476 (fun H locs hP hD hS => ?_)
  have hP : va_P (dC, dI) vwCl [(h0, .inr (11, [.ref q1, .int 0, .int 0, .ref q2, .int 0, .int 0, .int 0, .int 0, .int 0, .int 0, .ref q3, .int 0, .int 0, .int 0, .int 0, .int 0, .int 0, .int 0, .int 0, .ref q4, .ref q5, .ref q114, .ref q115, .ref q116, .ref q117, .int 0, .ref q118, .int 0, .ref q119, .ref q120, .null, .null, .null, .null, .int 0])), (q1, .inl (G 0, 196, .inl (fun _ => 0))), (q2, .inl (G 0, 49, .inl (fun _ => 0))), (q3, .inl (G 0, 320, .inl (fun _ => 0))), (q4, .inl (G 0, 11, .inl (upd (upd (upd (upd (upd (upd (upd (upd (upd (upd (upd (fun _ => 0) 0 0) 1 5) 2 12) 3 18) 4 23) 5 28) 6 34) 7 42) 8 46) 9 50) 10 54))), (q5, .inl (G 0, 54, .inl g112)), (q114, .inl (G 1, 10, .inr (.inl (fun _ => 0)))), (q115, .inl (G 1, 10, .inr (.inl (fun _ => 0)))), (q116, .inl (G 1, 770, .inr (.inl (fun _ => 0)))), (q117, .inl (G 0, 32, .inl (fun _ => 0))), (q118, .inl (G 0, 12, .inl (fun _ => 0))), (q119, .inl (G 0, 110, .inl (fun _ => 0))), (q120, .inl (G 0, 110, .inl (fun _ => 0)))] H := hP
  have hD : va_D A [(h0, .inr (11, [.ref q1, .int 0, .int 0, .ref q2, .int 0, .int 0, .int 0, .int 0, .int 0, .int 0, .ref q3, .int 0, .int 0, .int 0, .int 0, .int 0, .int 0, .int 0, .int 0, .ref q4, .ref q5, .ref q114, .ref q115, .ref q116, .ref q117, .int 0, .ref q118, .int 0, .ref q119, .ref q120, .null, .null, .null, .null, .int 0])), (q1, .inl (G 0, 196, .inl (fun _ => 0))), (q2, .inl (G 0, 49, .inl (fun _ => 0))), (q3, .inl (G 0, 320, .inl (fun _ => 0))), (q4, .inl (G 0, 11, .inl (upd (upd (upd (upd (upd (upd (upd (upd (upd (upd (upd (fun _ => 0) 0 0) 1 5) 2 12) 3 18) 4 23) 5 28) 6 34) 7 42) 8 46) 9 50) 10 54))), (q5, .inl (G 0, 54, .inl g112)), (q114, .inl (G 1, 10, .inr (.inl (fun _ => 0)))), (q115, .inl (G 1, 10, .inr (.inl (fun _ => 0)))), (q116, .inl (G 1, 770, .inr (.inl (fun _ => 0)))), (q117, .inl (G 0, 32, .inl (fun _ => 0))), (q118, .inl (G 0, 12, .inl (fun _ => 0))), (q119, .inl (G 0, 110, .inl (fun _ => 0))), (q120, .inl (G 0, 110, .inl (fun _ => 0)))] := hD
  refine lv_aload_n hx hb dX11_init_479 rfl (lv_at hl 0 rfl) ?_
  refine lv_iconst (v := 2) hx hb dX11_init_480 (by decide) ?_
  refine va_newa (atype := .boolean) (N' := 2) (a0 := (2, .inl (fun _ => 0))) hx hb (hg _ wt_168) rfl hK.1 hP hD hS hA (fun _ => rfl) (by decide) (by decide) (by decide) (Nat.le_of_ble_eq_true rfl) (Nat.le_of_ble_eq_true rfl) dX11_init_481 (fun q121 cA H hK9 hP hD hS => ?_)
  obtain rfl := uniA hK9 2 rfl
  have hP : va_P (dC, dI) vwCl [(h0, .inr (11, [.ref q1, .int 0, .int 0, .ref q2, .int 0, .int 0, .int 0, .int 0, .int 0, .int 0, .ref q3, .int 0, .int 0, .int 0, .int 0, .int 0, .int 0, .int 0, .int 0, .ref q4, .ref q5, .ref q114, .ref q115, .ref q116, .ref q117, .int 0, .ref q118, .int 0, .ref q119, .ref q120, .null, .null, .null, .null, .int 0])), (q1, .inl (G 0, 196, .inl (fun _ => 0))), (q2, .inl (G 0, 49, .inl (fun _ => 0))), (q3, .inl (G 0, 320, .inl (fun _ => 0))), (q4, .inl (G 0, 11, .inl (upd (upd (upd (upd (upd (upd (upd (upd (upd (upd (upd (fun _ => 0) 0 0) 1 5) 2 12) 3 18) 4 23) 5 28) 6 34) 7 42) 8 46) 9 50) 10 54))), (q5, .inl (G 0, 54, .inl g112)), (q114, .inl (G 1, 10, .inr (.inl (fun _ => 0)))), (q115, .inl (G 1, 10, .inr (.inl (fun _ => 0)))), (q116, .inl (G 1, 770, .inr (.inl (fun _ => 0)))), (q117, .inl (G 0, 32, .inl (fun _ => 0))), (q118, .inl (G 0, 12, .inl (fun _ => 0))), (q119, .inl (G 0, 110, .inl (fun _ => 0))), (q120, .inl (G 0, 110, .inl (fun _ => 0))), (q121, .inl (G 2, 2, .inl (fun _ => 0)))] H := hP
  have hD : va_D A [(h0, .inr (11, [.ref q1, .int 0, .int 0, .ref q2, .int 0, .int 0, .int 0, .int 0, .int 0, .int 0, .ref q3, .int 0, .int 0, .int 0, .int 0, .int 0, .int 0, .int 0, .int 0, .ref q4, .ref q5, .ref q114, .ref q115, .ref q116, .ref q117, .int 0, .ref q118, .int 0, .ref q119, .ref q120, .null, .null, .null, .null, .int 0])), (q1, .inl (G 0, 196, .inl (fun _ => 0))), (q2, .inl (G 0, 49, .inl (fun _ => 0))), (q3, .inl (G 0, 320, .inl (fun _ => 0))), (q4, .inl (G 0, 11, .inl (upd (upd (upd (upd (upd (upd (upd (upd (upd (upd (upd (fun _ => 0) 0 0) 1 5) 2 12) 3 18) 4 23) 5 28) 6 34) 7 42) 8 46) 9 50) 10 54))), (q5, .inl (G 0, 54, .inl g112)), (q114, .inl (G 1, 10, .inr (.inl (fun _ => 0)))), (q115, .inl (G 1, 10, .inr (.inl (fun _ => 0)))), (q116, .inl (G 1, 770, .inr (.inl (fun _ => 0)))), (q117, .inl (G 0, 32, .inl (fun _ => 0))), (q118, .inl (G 0, 12, .inl (fun _ => 0))), (q119, .inl (G 0, 110, .inl (fun _ => 0))), (q120, .inl (G 0, 110, .inl (fun _ => 0))), (q121, .inl (G 2, 2, .inl (fun _ => 0)))] := hD
  refine W.widen (k := 13) (n := 1686) (by omega) (by omega) ?_
  refine va_putF (D := (dC, dI)) (ci := 11) (v := .ref q121) (ty := (.array .boolean)) (C := RX11) (T := TX11) (N := 35) hx hb hg inG11 tyX11 tyX11_ok nmX11 hown hK.1 hP hD hS 0 rfl rfl 30 (by decide) (hg _ wt_908) (fun _ h9 => h9) rfl hin rfl (by decide +kernel) rfl rfl (Nat.le_of_ble_eq_true rfl) dX11_init_483 (fun H locs hP hD hS => ?_)
  have hP : va_P (dC, dI) vwCl [(h0, .inr (11, [.ref q1, .int 0, .int 0, .ref q2, .int 0, .int 0, .int 0, .int 0, .int 0, .int 0, .ref q3, .int 0, .int 0, .int 0, .int 0, .int 0, .int 0, .int 0, .int 0, .ref q4, .ref q5, .ref q114, .ref q115, .ref q116, .ref q117, .int 0, .ref q118, .int 0, .ref q119, .ref q120, .ref q121, .null, .null, .null, .int 0])), (q1, .inl (G 0, 196, .inl (fun _ => 0))), (q2, .inl (G 0, 49, .inl (fun _ => 0))), (q3, .inl (G 0, 320, .inl (fun _ => 0))), (q4, .inl (G 0, 11, .inl (upd (upd (upd (upd (upd (upd (upd (upd (upd (upd (upd (fun _ => 0) 0 0) 1 5) 2 12) 3 18) 4 23) 5 28) 6 34) 7 42) 8 46) 9 50) 10 54))), (q5, .inl (G 0, 54, .inl g112)), (q114, .inl (G 1, 10, .inr (.inl (fun _ => 0)))), (q115, .inl (G 1, 10, .inr (.inl (fun _ => 0)))), (q116, .inl (G 1, 770, .inr (.inl (fun _ => 0)))), (q117, .inl (G 0, 32, .inl (fun _ => 0))), (q118, .inl (G 0, 12, .inl (fun _ => 0))), (q119, .inl (G 0, 110, .inl (fun _ => 0))), (q120, .inl (G 0, 110, .inl (fun _ => 0))), (q121, .inl (G 2, 2, .inl (fun _ => 0)))] H := hP
  have hD : va_D A [(h0, .inr (11, [.ref q1, .int 0, .int 0, .ref q2, .int 0, .int 0, .int 0, .int 0, .int 0, .int 0, .ref q3, .int 0, .int 0, .int 0, .int 0, .int 0, .int 0, .int 0, .int 0, .ref q4, .ref q5, .ref q114, .ref q115, .ref q116, .ref q117, .int 0, .ref q118, .int 0, .ref q119, .ref q120, .ref q121, .null, .null, .null, .int 0])), (q1, .inl (G 0, 196, .inl (fun _ => 0))), (q2, .inl (G 0, 49, .inl (fun _ => 0))), (q3, .inl (G 0, 320, .inl (fun _ => 0))), (q4, .inl (G 0, 11, .inl (upd (upd (upd (upd (upd (upd (upd (upd (upd (upd (upd (fun _ => 0) 0 0) 1 5) 2 12) 3 18) 4 23) 5 28) 6 34) 7 42) 8 46) 9 50) 10 54))), (q5, .inl (G 0, 54, .inl g112)), (q114, .inl (G 1, 10, .inr (.inl (fun _ => 0)))), (q115, .inl (G 1, 10, .inr (.inl (fun _ => 0)))), (q116, .inl (G 1, 770, .inr (.inl (fun _ => 0)))), (q117, .inl (G 0, 32, .inl (fun _ => 0))), (q118, .inl (G 0, 12, .inl (fun _ => 0))), (q119, .inl (G 0, 110, .inl (fun _ => 0))), (q120, .inl (G 0, 110, .inl (fun _ => 0))), (q121, .inl (G 2, 2, .inl (fun _ => 0)))] := hD
  refine lv_aload_n hx hb dX11_init_486 rfl (lv_at hl 0 rfl) ?_
  refine lv_iconst (v := 4) hx hb dX11_init_487 (by decide) ?_
  refine va_newa (atype := .int) (N' := 4) (a0 := (4, .inl (fun _ => 0))) hx hb (hg _ wt_49) rfl hK.1 hP hD hS hA (fun _ => rfl) (by decide) (by decide) (by decide) (Nat.le_of_ble_eq_true rfl) (Nat.le_of_ble_eq_true rfl) dX11_init_488 (fun q122 cA H hK9 hP hD hS => ?_)
  obtain rfl := uniA hK9 0 rfl
  have hP : va_P (dC, dI) vwCl [(h0, .inr (11, [.ref q1, .int 0, .int 0, .ref q2, .int 0, .int 0, .int 0, .int 0, .int 0, .int 0, .ref q3, .int 0, .int 0, .int 0, .int 0, .int 0, .int 0, .int 0, .int 0, .ref q4, .ref q5, .ref q114, .ref q115, .ref q116, .ref q117, .int 0, .ref q118, .int 0, .ref q119, .ref q120, .ref q121, .null, .null, .null, .int 0])), (q1, .inl (G 0, 196, .inl (fun _ => 0))), (q2, .inl (G 0, 49, .inl (fun _ => 0))), (q3, .inl (G 0, 320, .inl (fun _ => 0))), (q4, .inl (G 0, 11, .inl (upd (upd (upd (upd (upd (upd (upd (upd (upd (upd (upd (fun _ => 0) 0 0) 1 5) 2 12) 3 18) 4 23) 5 28) 6 34) 7 42) 8 46) 9 50) 10 54))), (q5, .inl (G 0, 54, .inl g112)), (q114, .inl (G 1, 10, .inr (.inl (fun _ => 0)))), (q115, .inl (G 1, 10, .inr (.inl (fun _ => 0)))), (q116, .inl (G 1, 770, .inr (.inl (fun _ => 0)))), (q117, .inl (G 0, 32, .inl (fun _ => 0))), (q118, .inl (G 0, 12, .inl (fun _ => 0))), (q119, .inl (G 0, 110, .inl (fun _ => 0))), (q120, .inl (G 0, 110, .inl (fun _ => 0))), (q121, .inl (G 2, 2, .inl (fun _ => 0))), (q122, .inl (G 0, 4, .inl (fun _ => 0)))] H := hP
  have hD : va_D A [(h0, .inr (11, [.ref q1, .int 0, .int 0, .ref q2, .int 0, .int 0, .int 0, .int 0, .int 0, .int 0, .ref q3, .int 0, .int 0, .int 0, .int 0, .int 0, .int 0, .int 0, .int 0, .ref q4, .ref q5, .ref q114, .ref q115, .ref q116, .ref q117, .int 0, .ref q118, .int 0, .ref q119, .ref q120, .ref q121, .null, .null, .null, .int 0])), (q1, .inl (G 0, 196, .inl (fun _ => 0))), (q2, .inl (G 0, 49, .inl (fun _ => 0))), (q3, .inl (G 0, 320, .inl (fun _ => 0))), (q4, .inl (G 0, 11, .inl (upd (upd (upd (upd (upd (upd (upd (upd (upd (upd (upd (fun _ => 0) 0 0) 1 5) 2 12) 3 18) 4 23) 5 28) 6 34) 7 42) 8 46) 9 50) 10 54))), (q5, .inl (G 0, 54, .inl g112)), (q114, .inl (G 1, 10, .inr (.inl (fun _ => 0)))), (q115, .inl (G 1, 10, .inr (.inl (fun _ => 0)))), (q116, .inl (G 1, 770, .inr (.inl (fun _ => 0)))), (q117, .inl (G 0, 32, .inl (fun _ => 0))), (q118, .inl (G 0, 12, .inl (fun _ => 0))), (q119, .inl (G 0, 110, .inl (fun _ => 0))), (q120, .inl (G 0, 110, .inl (fun _ => 0))), (q121, .inl (G 2, 2, .inl (fun _ => 0))), (q122, .inl (G 0, 4, .inl (fun _ => 0)))] := hD
  refine W.widen (k := 14) (n := 1690) (by omega) (by omega) ?_
  refine lv_dup hx hb dX11_init_490 rfl ?_
  refine lv_iconst (v := 0) hx hb dX11_init_491 (by decide) ?_
  refine lv_bipush (v := (-4)) hx hb dX11_init_492 (by decide) ?_
  refine va_iast hx hb hK.1 hP hD hS 14 0 rfl rfl (vp_in_iff.mpr ⟨by decide, by decide⟩) dX11_init_494 (fun H locs hP hD hS => ?_)
  have hP : va_P (dC, dI) vwCl [(h0, .inr (11, [.ref q1, .int 0, .int 0, .ref q2, .int 0, .int 0, .int 0, .int 0, .int 0, .int 0, .ref q3, .int 0, .int 0, .int 0, .int 0, .int 0, .int 0, .int 0, .int 0, .ref q4, .ref q5, .ref q114, .ref q115, .ref q116, .ref q117, .int 0, .ref q118, .int 0, .ref q119, .ref q120, .ref q121, .null, .null, .null, .int 0])), (q1, .inl (G 0, 196, .inl (fun _ => 0))), (q2, .inl (G 0, 49, .inl (fun _ => 0))), (q3, .inl (G 0, 320, .inl (fun _ => 0))), (q4, .inl (G 0, 11, .inl (upd (upd (upd (upd (upd (upd (upd (upd (upd (upd (upd (fun _ => 0) 0 0) 1 5) 2 12) 3 18) 4 23) 5 28) 6 34) 7 42) 8 46) 9 50) 10 54))), (q5, .inl (G 0, 54, .inl g112)), (q114, .inl (G 1, 10, .inr (.inl (fun _ => 0)))), (q115, .inl (G 1, 10, .inr (.inl (fun _ => 0)))), (q116, .inl (G 1, 770, .inr (.inl (fun _ => 0)))), (q117, .inl (G 0, 32, .inl (fun _ => 0))), (q118, .inl (G 0, 12, .inl (fun _ => 0))), (q119, .inl (G 0, 110, .inl (fun _ => 0))), (q120, .inl (G 0, 110, .inl (fun _ => 0))), (q121, .inl (G 2, 2, .inl (fun _ => 0))), (q122, .inl (G 0, 4, .inl (upd (fun _ => 0) 0 (-4))))] H := hP
  have hD : va_D A [(h0, .inr (11, [.ref q1, .int 0, .int 0, .ref q2, .int 0, .int 0, .int 0, .int 0, .int 0, .int 0, .ref q3, .int 0, .int 0, .int 0, .int 0, .int 0, .int 0, .int 0, .int 0, .ref q4, .ref q5, .ref q114, .ref q115, .ref q116, .ref q117, .int 0, .ref q118, .int 0, .ref q119, .ref q120, .ref q121, .null, .null, .null, .int 0])), (q1, .inl (G 0, 196, .inl (fun _ => 0))), (q2, .inl (G 0, 49, .inl (fun _ => 0))), (q3, .inl (G 0, 320, .inl (fun _ => 0))), (q4, .inl (G 0, 11, .inl (upd (upd (upd (upd (upd (upd (upd (upd (upd (upd (upd (fun _ => 0) 0 0) 1 5) 2 12) 3 18) 4 23) 5 28) 6 34) 7 42) 8 46) 9 50) 10 54))), (q5, .inl (G 0, 54, .inl g112)), (q114, .inl (G 1, 10, .inr (.inl (fun _ => 0)))), (q115, .inl (G 1, 10, .inr (.inl (fun _ => 0)))), (q116, .inl (G 1, 770, .inr (.inl (fun _ => 0)))), (q117, .inl (G 0, 32, .inl (fun _ => 0))), (q118, .inl (G 0, 12, .inl (fun _ => 0))), (q119, .inl (G 0, 110, .inl (fun _ => 0))), (q120, .inl (G 0, 110, .inl (fun _ => 0))), (q121, .inl (G 2, 2, .inl (fun _ => 0))), (q122, .inl (G 0, 4, .inl (upd (fun _ => 0) 0 (-4))))] := hD
  refine lv_dup hx hb dX11_init_495 rfl ?_
  refine lv_iconst (v := 1) hx hb dX11_init_496 (by decide) ?_
  refine lv_bipush (v := (-4)) hx hb dX11_init_497 (by decide) ?_
  refine va_iast hx hb hK.1 hP hD hS 14 0 rfl rfl (vp_in_iff.mpr ⟨by decide, by decide⟩) dX11_init_499 (fun H locs hP hD hS => ?_)
  have hP : va_P (dC, dI) vwCl [(h0, .inr (11, [.ref q1, .int 0, .int 0, .ref q2, .int 0, .int 0, .int 0, .int 0, .int 0, .int 0, .ref q3, .int 0, .int 0, .int 0, .int 0, .int 0, .int 0, .int 0, .int 0, .ref q4, .ref q5, .ref q114, .ref q115, .ref q116, .ref q117, .int 0, .ref q118, .int 0, .ref q119, .ref q120, .ref q121, .null, .null, .null, .int 0])), (q1, .inl (G 0, 196, .inl (fun _ => 0))), (q2, .inl (G 0, 49, .inl (fun _ => 0))), (q3, .inl (G 0, 320, .inl (fun _ => 0))), (q4, .inl (G 0, 11, .inl (upd (upd (upd (upd (upd (upd (upd (upd (upd (upd (upd (fun _ => 0) 0 0) 1 5) 2 12) 3 18) 4 23) 5 28) 6 34) 7 42) 8 46) 9 50) 10 54))), (q5, .inl (G 0, 54, .inl g112)), (q114, .inl (G 1, 10, .inr (.inl (fun _ => 0)))), (q115, .inl (G 1, 10, .inr (.inl (fun _ => 0)))), (q116, .inl (G 1, 770, .inr (.inl (fun _ => 0)))), (q117, .inl (G 0, 32, .inl (fun _ => 0))), (q118, .inl (G 0, 12, .inl (fun _ => 0))), (q119, .inl (G 0, 110, .inl (fun _ => 0))), (q120, .inl (G 0, 110, .inl (fun _ => 0))), (q121, .inl (G 2, 2, .inl (fun _ => 0))), (q122, .inl (G 0, 4, .inl (upd (upd (fun _ => 0) 0 (-4)) 1 (-4))))] H := hP
  have hD : va_D A [(h0, .inr (11, [.ref q1, .int 0, .int 0, .ref q2, .int 0, .int 0, .int 0, .int 0, .int 0, .int 0, .ref q3, .int 0, .int 0, .int 0, .int 0, .int 0, .int 0, .int 0, .int 0, .ref q4, .ref q5, .ref q114, .ref q115, .ref q116, .ref q117, .int 0, .ref q118, .int 0, .ref q119, .ref q120, .ref q121, .null, .null, .null, .int 0])), (q1, .inl (G 0, 196, .inl (fun _ => 0))), (q2, .inl (G 0, 49, .inl (fun _ => 0))), (q3, .inl (G 0, 320, .inl (fun _ => 0))), (q4, .inl (G 0, 11, .inl (upd (upd (upd (upd (upd (upd (upd (upd (upd (upd (upd (fun _ => 0) 0 0) 1 5) 2 12) 3 18) 4 23) 5 28) 6 34) 7 42) 8 46) 9 50) 10 54))), (q5, .inl (G 0, 54, .inl g112)), (q114, .inl (G 1, 10, .inr (.inl (fun _ => 0)))), (q115, .inl (G 1, 10, .inr (.inl (fun _ => 0)))), (q116, .inl (G 1, 770, .inr (.inl (fun _ => 0)))), (q117, .inl (G 0, 32, .inl (fun _ => 0))), (q118, .inl (G 0, 12, .inl (fun _ => 0))), (q119, .inl (G 0, 110, .inl (fun _ => 0))), (q120, .inl (G 0, 110, .inl (fun _ => 0))), (q121, .inl (G 2, 2, .inl (fun _ => 0))), (q122, .inl (G 0, 4, .inl (upd (upd (fun _ => 0) 0 (-4)) 1 (-4))))] := hD
  refine lv_dup hx hb dX11_init_500 rfl ?_
  refine lv_iconst (v := 2) hx hb dX11_init_501 (by decide) ?_
  refine lv_bipush (v := (-4)) hx hb dX11_init_502 (by decide) ?_
  refine va_iast hx hb hK.1 hP hD hS 14 0 rfl rfl (vp_in_iff.mpr ⟨by decide, by decide⟩) dX11_init_504 (fun H locs hP hD hS => ?_)
  have hP : va_P (dC, dI) vwCl [(h0, .inr (11, [.ref q1, .int 0, .int 0, .ref q2, .int 0, .int 0, .int 0, .int 0, .int 0, .int 0, .ref q3, .int 0, .int 0, .int 0, .int 0, .int 0, .int 0, .int 0, .int 0, .ref q4, .ref q5, .ref q114, .ref q115, .ref q116, .ref q117, .int 0, .ref q118, .int 0, .ref q119, .ref q120, .ref q121, .null, .null, .null, .int 0])), (q1, .inl (G 0, 196, .inl (fun _ => 0))), (q2, .inl (G 0, 49, .inl (fun _ => 0))), (q3, .inl (G 0, 320, .inl (fun _ => 0))), (q4, .inl (G 0, 11, .inl (upd (upd (upd (upd (upd (upd (upd (upd (upd (upd (upd (fun _ => 0) 0 0) 1 5) 2 12) 3 18) 4 23) 5 28) 6 34) 7 42) 8 46) 9 50) 10 54))), (q5, .inl (G 0, 54, .inl g112)), (q114, .inl (G 1, 10, .inr (.inl (fun _ => 0)))), (q115, .inl (G 1, 10, .inr (.inl (fun _ => 0)))), (q116, .inl (G 1, 770, .inr (.inl (fun _ => 0)))), (q117, .inl (G 0, 32, .inl (fun _ => 0))), (q118, .inl (G 0, 12, .inl (fun _ => 0))), (q119, .inl (G 0, 110, .inl (fun _ => 0))), (q120, .inl (G 0, 110, .inl (fun _ => 0))), (q121, .inl (G 2, 2, .inl (fun _ => 0))), (q122, .inl (G 0, 4, .inl (upd (upd (upd (fun _ => 0) 0 (-4)) 1 (-4)) 2 (-4))))] H := hP
  have hD : va_D A [(h0, .inr (11, [.ref q1, .int 0, .int 0, .ref q2, .int 0, .int 0, .int 0, .int 0, .int 0, .int 0, .ref q3, .int 0, .int 0, .int 0, .int 0, .int 0, .int 0, .int 0, .int 0, .ref q4, .ref q5, .ref q114, .ref q115, .ref q116, .ref q117, .int 0, .ref q118, .int 0, .ref q119, .ref q120, .ref q121, .null, .null, .null, .int 0])), (q1, .inl (G 0, 196, .inl (fun _ => 0))), (q2, .inl (G 0, 49, .inl (fun _ => 0))), (q3, .inl (G 0, 320, .inl (fun _ => 0))), (q4, .inl (G 0, 11, .inl (upd (upd (upd (upd (upd (upd (upd (upd (upd (upd (upd (fun _ => 0) 0 0) 1 5) 2 12) 3 18) 4 23) 5 28) 6 34) 7 42) 8 46) 9 50) 10 54))), (q5, .inl (G 0, 54, .inl g112)), (q114, .inl (G 1, 10, .inr (.inl (fun _ => 0)))), (q115, .inl (G 1, 10, .inr (.inl (fun _ => 0)))), (q116, .inl (G 1, 770, .inr (.inl (fun _ => 0)))), (q117, .inl (G 0, 32, .inl (fun _ => 0))), (q118, .inl (G 0, 12, .inl (fun _ => 0))), (q119, .inl (G 0, 110, .inl (fun _ => 0))), (q120, .inl (G 0, 110, .inl (fun _ => 0))), (q121, .inl (G 2, 2, .inl (fun _ => 0))), (q122, .inl (G 0, 4, .inl (upd (upd (upd (fun _ => 0) 0 (-4)) 1 (-4)) 2 (-4))))] := hD
  refine lv_dup hx hb dX11_init_505 rfl ?_
  refine lv_iconst (v := 3) hx hb dX11_init_506 (by decide) ?_
  refine lv_bipush (v := (-4)) hx hb dX11_init_507 (by decide) ?_
  refine va_iast hx hb hK.1 hP hD hS 14 0 rfl rfl (vp_in_iff.mpr ⟨by decide, by decide⟩) dX11_init_509 (fun H locs hP hD hS => ?_)
  have hP : va_P (dC, dI) vwCl [(h0, .inr (11, [.ref q1, .int 0, .int 0, .ref q2, .int 0, .int 0, .int 0, .int 0, .int 0, .int 0, .ref q3, .int 0, .int 0, .int 0, .int 0, .int 0, .int 0, .int 0, .int 0, .ref q4, .ref q5, .ref q114, .ref q115, .ref q116, .ref q117, .int 0, .ref q118, .int 0, .ref q119, .ref q120, .ref q121, .null, .null, .null, .int 0])), (q1, .inl (G 0, 196, .inl (fun _ => 0))), (q2, .inl (G 0, 49, .inl (fun _ => 0))), (q3, .inl (G 0, 320, .inl (fun _ => 0))), (q4, .inl (G 0, 11, .inl (upd (upd (upd (upd (upd (upd (upd (upd (upd (upd (upd (fun _ => 0) 0 0) 1 5) 2 12) 3 18) 4 23) 5 28) 6 34) 7 42) 8 46) 9 50) 10 54))), (q5, .inl (G 0, 54, .inl g112)), (q114, .inl (G 1, 10, .inr (.inl (fun _ => 0)))), (q115, .inl (G 1, 10, .inr (.inl (fun _ => 0)))), (q116, .inl (G 1, 770, .inr (.inl (fun _ => 0)))), (q117, .inl (G 0, 32, .inl (fun _ => 0))), (q118, .inl (G 0, 12, .inl (fun _ => 0))), (q119, .inl (G 0, 110, .inl (fun _ => 0))), (q120, .inl (G 0, 110, .inl (fun _ => 0))), (q121, .inl (G 2, 2, .inl (fun _ => 0))), (q122, .inl (G 0, 4, .inl (upd (upd (upd (upd (fun _ => 0) 0 (-4)) 1 (-4)) 2 (-4)) 3 (-4))))] H := hP
  have hD : va_D A [(h0, .inr (11, [.ref q1, .int 0, .int 0, .ref q2, .int 0, .int 0, .int 0, .int 0, .int 0, .int 0, .ref q3, .int 0, .int 0, .int 0, .int 0, .int 0, .int 0, .int 0, .int 0, .ref q4, .ref q5, .ref q114, .ref q115, .ref q116, .ref q117, .int 0, .ref q118, .int 0, .ref q119, .ref q120, .ref q121, .null, .null, .null, .int 0])), (q1, .inl (G 0, 196, .inl (fun _ => 0))), (q2, .inl (G 0, 49, .inl (fun _ => 0))), (q3, .inl (G 0, 320, .inl (fun _ => 0))), (q4, .inl (G 0, 11, .inl (upd (upd (upd (upd (upd (upd (upd (upd (upd (upd (upd (fun _ => 0) 0 0) 1 5) 2 12) 3 18) 4 23) 5 28) 6 34) 7 42) 8 46) 9 50) 10 54))), (q5, .inl (G 0, 54, .inl g112)), (q114, .inl (G 1, 10, .inr (.inl (fun _ => 0)))), (q115, .inl (G 1, 10, .inr (.inl (fun _ => 0)))), (q116, .inl (G 1, 770, .inr (.inl (fun _ => 0)))), (q117, .inl (G 0, 32, .inl (fun _ => 0))), (q118, .inl (G 0, 12, .inl (fun _ => 0))), (q119, .inl (G 0, 110, .inl (fun _ => 0))), (q120, .inl (G 0, 110, .inl (fun _ => 0))), (q121, .inl (G 2, 2, .inl (fun _ => 0))), (q122, .inl (G 0, 4, .inl (upd (upd (upd (upd (fun _ => 0) 0 (-4)) 1 (-4)) 2 (-4)) 3 (-4))))] := hD
  refine va_putF (D := (dC, dI)) (ci := 11) (v := .ref q122) (ty := (.array .int)) (C := RX11) (T := TX11) (N := 35) hx hb hg inG11 tyX11 tyX11_ok nmX11 hown hK.1 hP hD hS 0 rfl rfl 31 (by decide) (hg _ wt_909) (fun _ h9 => h9) rfl hin rfl (by decide +kernel) rfl rfl (Nat.le_of_ble_eq_true rfl) dX11_init_510 (fun H locs hP hD hS => ?_)
  have hP : va_P (dC, dI) vwCl [(h0, .inr (11, [.ref q1, .int 0, .int 0, .ref q2, .int 0, .int 0, .int 0, .int 0, .int 0, .int 0, .ref q3, .int 0, .int 0, .int 0, .int 0, .int 0, .int 0, .int 0, .int 0, .ref q4, .ref q5, .ref q114, .ref q115, .ref q116, .ref q117, .int 0, .ref q118, .int 0, .ref q119, .ref q120, .ref q121, .ref q122, .null, .null, .int 0])), (q1, .inl (G 0, 196, .inl (fun _ => 0))), (q2, .inl (G 0, 49, .inl (fun _ => 0))), (q3, .inl (G 0, 320, .inl (fun _ => 0))), (q4, .inl (G 0, 11, .inl (upd (upd (upd (upd (upd (upd (upd (upd (upd (upd (upd (fun _ => 0) 0 0) 1 5) 2 12) 3 18) 4 23) 5 28) 6 34) 7 42) 8 46) 9 50) 10 54))), (q5, .inl (G 0, 54, .inl g112)), (q114, .inl (G 1, 10, .inr (.inl (fun _ => 0)))), (q115, .inl (G 1, 10, .inr (.inl (fun _ => 0)))), (q116, .inl (G 1, 770, .inr (.inl (fun _ => 0)))), (q117, .inl (G 0, 32, .inl (fun _ => 0))), (q118, .inl (G 0, 12, .inl (fun _ => 0))), (q119, .inl (G 0, 110, .inl (fun _ => 0))), (q120, .inl (G 0, 110, .inl (fun _ => 0))), (q121, .inl (G 2, 2, .inl (fun _ => 0))), (q122, .inl (G 0, 4, .inl (upd (upd (upd (upd (fun _ => 0) 0 (-4)) 1 (-4)) 2 (-4)) 3 (-4))))] H := hP
  have hD : va_D A [(h0, .inr (11, [.ref q1, .int 0, .int 0, .ref q2, .int 0, .int 0, .int 0, .int 0, .int 0, .int 0, .ref q3, .int 0, .int 0, .int 0, .int 0, .int 0, .int 0, .int 0, .int 0, .ref q4, .ref q5, .ref q114, .ref q115, .ref q116, .ref q117, .int 0, .ref q118, .int 0, .ref q119, .ref q120, .ref q121, .ref q122, .null, .null, .int 0])), (q1, .inl (G 0, 196, .inl (fun _ => 0))), (q2, .inl (G 0, 49, .inl (fun _ => 0))), (q3, .inl (G 0, 320, .inl (fun _ => 0))), (q4, .inl (G 0, 11, .inl (upd (upd (upd (upd (upd (upd (upd (upd (upd (upd (upd (fun _ => 0) 0 0) 1 5) 2 12) 3 18) 4 23) 5 28) 6 34) 7 42) 8 46) 9 50) 10 54))), (q5, .inl (G 0, 54, .inl g112)), (q114, .inl (G 1, 10, .inr (.inl (fun _ => 0)))), (q115, .inl (G 1, 10, .inr (.inl (fun _ => 0)))), (q116, .inl (G 1, 770, .inr (.inl (fun _ => 0)))), (q117, .inl (G 0, 32, .inl (fun _ => 0))), (q118, .inl (G 0, 12, .inl (fun _ => 0))), (q119, .inl (G 0, 110, .inl (fun _ => 0))), (q120, .inl (G 0, 110, .inl (fun _ => 0))), (q121, .inl (G 2, 2, .inl (fun _ => 0))), (q122, .inl (G 0, 4, .inl (upd (upd (upd (upd (fun _ => 0) 0 (-4)) 1 (-4)) 2 (-4)) 3 (-4))))] := hD
  refine lv_aload_n hx hb dX11_init_513 rfl (lv_at hl 0 rfl) ?_
  refine lv_iconst (v := 4) hx hb dX11_init_514 (by decide) ?_
  refine va_newa (atype := .int) (N' := 4) (a0 := (4, .inl (fun _ => 0))) hx hb (hg _ wt_49) rfl hK.1 hP hD hS hA (fun _ => rfl) (by decide) (by decide) (by decide) (Nat.le_of_ble_eq_true rfl) (Nat.le_of_ble_eq_true rfl) dX11_init_515 (fun q123 cA H hK9 hP hD hS => ?_)
  obtain rfl := uniA hK9 0 rfl
  have hP : va_P (dC, dI) vwCl [(h0, .inr (11, [.ref q1, .int 0, .int 0, .ref q2, .int 0, .int 0, .int 0, .int 0, .int 0, .int 0, .ref q3, .int 0, .int 0, .int 0, .int 0, .int 0, .int 0, .int 0, .int 0, .ref q4, .ref q5, .ref q114, .ref q115, .ref q116, .ref q117, .int 0, .ref q118, .int 0, .ref q119, .ref q120, .ref q121, .ref q122, .null, .null, .int 0])), (q1, .inl (G 0, 196, .inl (fun _ => 0))), (q2, .inl (G 0, 49, .inl (fun _ => 0))), (q3, .inl (G 0, 320, .inl (fun _ => 0))), (q4, .inl (G 0, 11, .inl (upd (upd (upd (upd (upd (upd (upd (upd (upd (upd (upd (fun _ => 0) 0 0) 1 5) 2 12) 3 18) 4 23) 5 28) 6 34) 7 42) 8 46) 9 50) 10 54))), (q5, .inl (G 0, 54, .inl g112)), (q114, .inl (G 1, 10, .inr (.inl (fun _ => 0)))), (q115, .inl (G 1, 10, .inr (.inl (fun _ => 0)))), (q116, .inl (G 1, 770, .inr (.inl (fun _ => 0)))), (q117, .inl (G 0, 32, .inl (fun _ => 0))), (q118, .inl (G 0, 12, .inl (fun _ => 0))), (q119, .inl (G 0, 110, .inl (fun _ => 0))), (q120, .inl (G 0, 110, .inl (fun _ => 0))), (q121, .inl (G 2, 2, .inl (fun _ => 0))), (q122, .inl (G 0, 4, .inl (upd (upd (upd (upd (fun _ => 0) 0 (-4)) 1 (-4)) 2 (-4)) 3 (-4)))), (q123, .inl (G 0, 4, .inl (fun _ => 0)))] H := hP
  have hD : va_D A [(h0, .inr (11, [.ref q1, .int 0, .int 0, .ref q2, .int 0, .int 0, .int 0, .int 0, .int 0, .int 0, .ref q3, .int 0, .int 0, .int 0, .int 0, .int 0, .int 0, .int 0, .int 0, .ref q4, .ref q5, .ref q114, .ref q115, .ref q116, .ref q117, .int 0, .ref q118, .int 0, .ref q119, .ref q120, .ref q121, .ref q122, .null, .null, .int 0])), (q1, .inl (G 0, 196, .inl (fun _ => 0))), (q2, .inl (G 0, 49, .inl (fun _ => 0))), (q3, .inl (G 0, 320, .inl (fun _ => 0))), (q4, .inl (G 0, 11, .inl (upd (upd (upd (upd (upd (upd (upd (upd (upd (upd (upd (fun _ => 0) 0 0) 1 5) 2 12) 3 18) 4 23) 5 28) 6 34) 7 42) 8 46) 9 50) 10 54))), (q5, .inl (G 0, 54, .inl g112)), (q114, .inl (G 1, 10, .inr (.inl (fun _ => 0)))), (q115, .inl (G 1, 10, .inr (.inl (fun _ => 0)))), (q116, .inl (G 1, 770, .inr (.inl (fun _ => 0)))), (q117, .inl (G 0, 32, .inl (fun _ => 0))), (q118, .inl (G 0, 12, .inl (fun _ => 0))), (q119, .inl (G 0, 110, .inl (fun _ => 0))), (q120, .inl (G 0, 110, .inl (fun _ => 0))), (q121, .inl (G 2, 2, .inl (fun _ => 0))), (q122, .inl (G 0, 4, .inl (upd (upd (upd (upd (fun _ => 0) 0 (-4)) 1 (-4)) 2 (-4)) 3 (-4)))), (q123, .inl (G 0, 4, .inl (fun _ => 0)))] := hD
  refine W.widen (k := 15) (n := 1694) (by omega) (by omega) ?_
  refine va_putF (D := (dC, dI)) (ci := 11) (v := .ref q123) (ty := (.array .int)) (C := RX11) (T := TX11) (N := 35) hx hb hg inG11 tyX11 tyX11_ok nmX11 hown hK.1 hP hD hS 0 rfl rfl 32 (by decide) (hg _ wt_910) (fun _ h9 => h9) rfl hin rfl (by decide +kernel) rfl rfl (Nat.le_of_ble_eq_true rfl) dX11_init_517 (fun H locs hP hD hS => ?_)
  have hP : va_P (dC, dI) vwCl [(h0, .inr (11, [.ref q1, .int 0, .int 0, .ref q2, .int 0, .int 0, .int 0, .int 0, .int 0, .int 0, .ref q3, .int 0, .int 0, .int 0, .int 0, .int 0, .int 0, .int 0, .int 0, .ref q4, .ref q5, .ref q114, .ref q115, .ref q116, .ref q117, .int 0, .ref q118, .int 0, .ref q119, .ref q120, .ref q121, .ref q122, .ref q123, .null, .int 0])), (q1, .inl (G 0, 196, .inl (fun _ => 0))), (q2, .inl (G 0, 49, .inl (fun _ => 0))), (q3, .inl (G 0, 320, .inl (fun _ => 0))), (q4, .inl (G 0, 11, .inl (upd (upd (upd (upd (upd (upd (upd (upd (upd (upd (upd (fun _ => 0) 0 0) 1 5) 2 12) 3 18) 4 23) 5 28) 6 34) 7 42) 8 46) 9 50) 10 54))), (q5, .inl (G 0, 54, .inl g112)), (q114, .inl (G 1, 10, .inr (.inl (fun _ => 0)))), (q115, .inl (G 1, 10, .inr (.inl (fun _ => 0)))), (q116, .inl (G 1, 770, .inr (.inl (fun _ => 0)))), (q117, .inl (G 0, 32, .inl (fun _ => 0))), (q118, .inl (G 0, 12, .inl (fun _ => 0))), (q119, .inl (G 0, 110, .inl (fun _ => 0))), (q120, .inl (G 0, 110, .inl (fun _ => 0))), (q121, .inl (G 2, 2, .inl (fun _ => 0))), (q122, .inl (G 0, 4, .inl (upd (upd (upd (upd (fun _ => 0) 0 (-4)) 1 (-4)) 2 (-4)) 3 (-4)))), (q123, .inl (G 0, 4, .inl (fun _ => 0)))] H := hP
  have hD : va_D A [(h0, .inr (11, [.ref q1, .int 0, .int 0, .ref q2, .int 0, .int 0, .int 0, .int 0, .int 0, .int 0, .ref q3, .int 0, .int 0, .int 0, .int 0, .int 0, .int 0, .int 0, .int 0, .ref q4, .ref q5, .ref q114, .ref q115, .ref q116, .ref q117, .int 0, .ref q118, .int 0, .ref q119, .ref q120, .ref q121, .ref q122, .ref q123, .null, .int 0])), (q1, .inl (G 0, 196, .inl (fun _ => 0))), (q2, .inl (G 0, 49, .inl (fun _ => 0))), (q3, .inl (G 0, 320, .inl (fun _ => 0))), (q4, .inl (G 0, 11, .inl (upd (upd (upd (upd (upd (upd (upd (upd (upd (upd (upd (fun _ => 0) 0 0) 1 5) 2 12) 3 18) 4 23) 5 28) 6 34) 7 42) 8 46) 9 50) 10 54))), (q5, .inl (G 0, 54, .inl g112)), (q114, .inl (G 1, 10, .inr (.inl (fun _ => 0)))), (q115, .inl (G 1, 10, .inr (.inl (fun _ => 0)))), (q116, .inl (G 1, 770, .inr (.inl (fun _ => 0)))), (q117, .inl (G 0, 32, .inl (fun _ => 0))), (q118, .inl (G 0, 12, .inl (fun _ => 0))), (q119, .inl (G 0, 110, .inl (fun _ => 0))), (q120, .inl (G 0, 110, .inl (fun _ => 0))), (q121, .inl (G 2, 2, .inl (fun _ => 0))), (q122, .inl (G 0, 4, .inl (upd (upd (upd (upd (fun _ => 0) 0 (-4)) 1 (-4)) 2 (-4)) 3 (-4)))), (q123, .inl (G 0, 4, .inl (fun _ => 0)))] := hD
  refine lv_aload_n hx hb dX11_init_520 rfl (lv_at hl 0 rfl) ?_
  refine lv_sipush (v := 160) hx hb dX11_init_521 (by decide) ?_
  refine va_newa (atype := .int) (N' := 160) (a0 := (160, .inl (fun _ => 0))) hx hb (hg _ wt_49) rfl hK.1 hP hD hS hA (fun _ => rfl) (by decide) (by decide) (by decide) (Nat.le_of_ble_eq_true rfl) (Nat.le_of_ble_eq_true rfl) dX11_init_524 (fun q124 cA H hK9 hP hD hS => ?_)
  obtain rfl := uniA hK9 0 rfl
  have hP : va_P (dC, dI) vwCl [(h0, .inr (11, [.ref q1, .int 0, .int 0, .ref q2, .int 0, .int 0, .int 0, .int 0, .int 0, .int 0, .ref q3, .int 0, .int 0, .int 0, .int 0, .int 0, .int 0, .int 0, .int 0, .ref q4, .ref q5, .ref q114, .ref q115, .ref q116, .ref q117, .int 0, .ref q118, .int 0, .ref q119, .ref q120, .ref q121, .ref q122, .ref q123, .null, .int 0])), (q1, .inl (G 0, 196, .inl (fun _ => 0))), (q2, .inl (G 0, 49, .inl (fun _ => 0))), (q3, .inl (G 0, 320, .inl (fun _ => 0))), (q4, .inl (G 0, 11, .inl (upd (upd (upd (upd (upd (upd (upd (upd (upd (upd (upd (fun _ => 0) 0 0) 1 5) 2 12) 3 18) 4 23) 5 28) 6 34) 7 42) 8 46) 9 50) 10 54))), (q5, .inl (G 0, 54, .inl g112)), (q114, .inl (G 1, 10, .inr (.inl (fun _ => 0)))), (q115, .inl (G 1, 10, .inr (.inl (fun _ => 0)))), (q116, .inl (G 1, 770, .inr (.inl (fun _ => 0)))), (q117, .inl (G 0, 32, .inl (fun _ => 0))), (q118, .inl (G 0, 12, .inl (fun _ => 0))), (q119, .inl (G 0, 110, .inl (fun _ => 0))), (q120, .inl (G 0, 110, .inl (fun _ => 0))), (q121, .inl (G 2, 2, .inl (fun _ => 0))), (q122, .inl (G 0, 4, .inl (upd (upd (upd (upd (fun _ => 0) 0 (-4)) 1 (-4)) 2 (-4)) 3 (-4)))), (q123, .inl (G 0, 4, .inl (fun _ => 0))), (q124, .inl (G 0, 160, .inl (fun _ => 0)))] H := hP
  have hD : va_D A [(h0, .inr (11, [.ref q1, .int 0, .int 0, .ref q2, .int 0, .int 0, .int 0, .int 0, .int 0, .int 0, .ref q3, .int 0, .int 0, .int 0, .int 0, .int 0, .int 0, .int 0, .int 0, .ref q4, .ref q5, .ref q114, .ref q115, .ref q116, .ref q117, .int 0, .ref q118, .int 0, .ref q119, .ref q120, .ref q121, .ref q122, .ref q123, .null, .int 0])), (q1, .inl (G 0, 196, .inl (fun _ => 0))), (q2, .inl (G 0, 49, .inl (fun _ => 0))), (q3, .inl (G 0, 320, .inl (fun _ => 0))), (q4, .inl (G 0, 11, .inl (upd (upd (upd (upd (upd (upd (upd (upd (upd (upd (upd (fun _ => 0) 0 0) 1 5) 2 12) 3 18) 4 23) 5 28) 6 34) 7 42) 8 46) 9 50) 10 54))), (q5, .inl (G 0, 54, .inl g112)), (q114, .inl (G 1, 10, .inr (.inl (fun _ => 0)))), (q115, .inl (G 1, 10, .inr (.inl (fun _ => 0)))), (q116, .inl (G 1, 770, .inr (.inl (fun _ => 0)))), (q117, .inl (G 0, 32, .inl (fun _ => 0))), (q118, .inl (G 0, 12, .inl (fun _ => 0))), (q119, .inl (G 0, 110, .inl (fun _ => 0))), (q120, .inl (G 0, 110, .inl (fun _ => 0))), (q121, .inl (G 2, 2, .inl (fun _ => 0))), (q122, .inl (G 0, 4, .inl (upd (upd (upd (upd (fun _ => 0) 0 (-4)) 1 (-4)) 2 (-4)) 3 (-4)))), (q123, .inl (G 0, 4, .inl (fun _ => 0))), (q124, .inl (G 0, 160, .inl (fun _ => 0)))] := hD
  refine W.widen (k := 16) (n := 1854) (by omega) (by omega) ?_
  refine va_putF (D := (dC, dI)) (ci := 11) (v := .ref q124) (ty := (.array .int)) (C := RX11) (T := TX11) (N := 35) hx hb hg inG11 tyX11 tyX11_ok nmX11 hown hK.1 hP hD hS 0 rfl rfl 33 (by decide) (hg _ wt_911) (fun _ h9 => h9) rfl hin rfl (by decide +kernel) rfl rfl (Nat.le_of_ble_eq_true rfl) dX11_init_526 (fun H locs hP hD hS => ?_)
  have hP : va_P (dC, dI) vwCl [(h0, .inr (11, [.ref q1, .int 0, .int 0, .ref q2, .int 0, .int 0, .int 0, .int 0, .int 0, .int 0, .ref q3, .int 0, .int 0, .int 0, .int 0, .int 0, .int 0, .int 0, .int 0, .ref q4, .ref q5, .ref q114, .ref q115, .ref q116, .ref q117, .int 0, .ref q118, .int 0, .ref q119, .ref q120, .ref q121, .ref q122, .ref q123, .ref q124, .int 0])), (q1, .inl (G 0, 196, .inl (fun _ => 0))), (q2, .inl (G 0, 49, .inl (fun _ => 0))), (q3, .inl (G 0, 320, .inl (fun _ => 0))), (q4, .inl (G 0, 11, .inl (upd (upd (upd (upd (upd (upd (upd (upd (upd (upd (upd (fun _ => 0) 0 0) 1 5) 2 12) 3 18) 4 23) 5 28) 6 34) 7 42) 8 46) 9 50) 10 54))), (q5, .inl (G 0, 54, .inl g112)), (q114, .inl (G 1, 10, .inr (.inl (fun _ => 0)))), (q115, .inl (G 1, 10, .inr (.inl (fun _ => 0)))), (q116, .inl (G 1, 770, .inr (.inl (fun _ => 0)))), (q117, .inl (G 0, 32, .inl (fun _ => 0))), (q118, .inl (G 0, 12, .inl (fun _ => 0))), (q119, .inl (G 0, 110, .inl (fun _ => 0))), (q120, .inl (G 0, 110, .inl (fun _ => 0))), (q121, .inl (G 2, 2, .inl (fun _ => 0))), (q122, .inl (G 0, 4, .inl (upd (upd (upd (upd (fun _ => 0) 0 (-4)) 1 (-4)) 2 (-4)) 3 (-4)))), (q123, .inl (G 0, 4, .inl (fun _ => 0))), (q124, .inl (G 0, 160, .inl (fun _ => 0)))] H := hP
  have hD : va_D A [(h0, .inr (11, [.ref q1, .int 0, .int 0, .ref q2, .int 0, .int 0, .int 0, .int 0, .int 0, .int 0, .ref q3, .int 0, .int 0, .int 0, .int 0, .int 0, .int 0, .int 0, .int 0, .ref q4, .ref q5, .ref q114, .ref q115, .ref q116, .ref q117, .int 0, .ref q118, .int 0, .ref q119, .ref q120, .ref q121, .ref q122, .ref q123, .ref q124, .int 0])), (q1, .inl (G 0, 196, .inl (fun _ => 0))), (q2, .inl (G 0, 49, .inl (fun _ => 0))), (q3, .inl (G 0, 320, .inl (fun _ => 0))), (q4, .inl (G 0, 11, .inl (upd (upd (upd (upd (upd (upd (upd (upd (upd (upd (upd (fun _ => 0) 0 0) 1 5) 2 12) 3 18) 4 23) 5 28) 6 34) 7 42) 8 46) 9 50) 10 54))), (q5, .inl (G 0, 54, .inl g112)), (q114, .inl (G 1, 10, .inr (.inl (fun _ => 0)))), (q115, .inl (G 1, 10, .inr (.inl (fun _ => 0)))), (q116, .inl (G 1, 770, .inr (.inl (fun _ => 0)))), (q117, .inl (G 0, 32, .inl (fun _ => 0))), (q118, .inl (G 0, 12, .inl (fun _ => 0))), (q119, .inl (G 0, 110, .inl (fun _ => 0))), (q120, .inl (G 0, 110, .inl (fun _ => 0))), (q121, .inl (G 2, 2, .inl (fun _ => 0))), (q122, .inl (G 0, 4, .inl (upd (upd (upd (upd (fun _ => 0) 0 (-4)) 1 (-4)) 2 (-4)) 3 (-4)))), (q123, .inl (G 0, 4, .inl (fun _ => 0))), (q124, .inl (G 0, 160, .inl (fun _ => 0)))] := hD
  have hP9 := hP.sub (ws' := [(h0, .inr (11, [.ref q1, .int 0, .int 0, .ref q2, .int 0, .int 0, .int 0, .int 0, .int 0, .int 0, .ref q3, .int 0, .int 0, .int 0, .int 0, .int 0, .int 0, .int 0, .int 0, .ref q4, .ref q5, .ref q114, .ref q115, .ref q116, .ref q117, .int 0, .ref q118, .int 0, .ref q119, .ref q120, .ref q121, .ref q122, .ref q123, .ref q124, .int 0])), (q1, .inl (G 0, 196, .inl (fun _ => 0))), (q2, .inl (G 0, 49, .inl (fun _ => 0))), (q3, .inl (G 0, 320, .inl (fun _ => 0))), (q4, .inl (G 0, 11, .inl (upd (upd (upd (upd (upd (upd (upd (upd (upd (upd (upd (fun _ => 0) 0 0) 1 5) 2 12) 3 18) 4 23) 5 28) 6 34) 7 42) 8 46) 9 50) 10 54))), (q5, .inl (G 0, 54, .inl g112)), (q114, .inl (G 1, 10, .inr (.inl (fun _ => 0)))), (q115, .inl (G 1, 10, .inr (.inl (fun _ => 0)))), (q116, .inl (G 1, 770, .inr (.inl (fun _ => 0)))), (q117, .inl (G 0, 32, .inl (fun _ => 0))), (q118, .inl (G 0, 12, .inl (fun _ => 0))), (q119, .inl (G 0, 110, .inl (fun _ => 0))), (q120, .inl (G 0, 110, .inl (fun _ => 0))), (q121, .inl (G 2, 2, .inl (fun _ => 0))), (q122, .inl (G 0, 4, .inl (upd (upd (upd (upd (fun _ => 0) 0 (-4)) 1 (-4)) 2 (-4)) 3 (-4)))), (q123, .inl (G 0, 4, .inl (fun _ => 0))), (q124, .inl (G 0, 160, .inl (fun _ => 0)))]) [0, 1, 2, 3, 4, 5, 6, 7, 8, 9, 10, 11, 12, 13, 14, 15, 16] rfl
  have hD9 := hD.sub (ws' := [(h0, .inr (11, [.ref q1, .int 0, .int 0, .ref q2, .int 0, .int 0, .int 0, .int 0, .int 0, .int 0, .ref q3, .int 0, .int 0, .int 0, .int 0, .int 0, .int 0, .int 0, .int 0, .ref q4, .ref q5, .ref q114, .ref q115, .ref q116, .ref q117, .int 0, .ref q118, .int 0, .ref q119, .ref q120, .ref q121, .ref q122, .ref q123, .ref q124, .int 0])), (q1, .inl (G 0, 196, .inl (fun _ => 0))), (q2, .inl (G 0, 49, .inl (fun _ => 0))), (q3, .inl (G 0, 320, .inl (fun _ => 0))), (q4, .inl (G 0, 11, .inl (upd (upd (upd (upd (upd (upd (upd (upd (upd (upd (upd (fun _ => 0) 0 0) 1 5) 2 12) 3 18) 4 23) 5 28) 6 34) 7 42) 8 46) 9 50) 10 54))), (q5, .inl (G 0, 54, .inl g112)), (q114, .inl (G 1, 10, .inr (.inl (fun _ => 0)))), (q115, .inl (G 1, 10, .inr (.inl (fun _ => 0)))), (q116, .inl (G 1, 770, .inr (.inl (fun _ => 0)))), (q117, .inl (G 0, 32, .inl (fun _ => 0))), (q118, .inl (G 0, 12, .inl (fun _ => 0))), (q119, .inl (G 0, 110, .inl (fun _ => 0))), (q120, .inl (G 0, 110, .inl (fun _ => 0))), (q121, .inl (G 2, 2, .inl (fun _ => 0))), (q122, .inl (G 0, 4, .inl (upd (upd (upd (upd (fun _ => 0) 0 (-4)) 1 (-4)) 2 (-4)) 3 (-4)))), (q123, .inl (G 0, 4, .inl (fun _ => 0))), (q124, .inl (G 0, 160, .inl (fun _ => 0)))]) [0, 1, 2, 3, 4, 5, 6, 7, 8, 9, 10, 11, 12, 13, 14, 15, 16] (by decide) rfl
  refine W.widen (k := 16) (n := 1854) (by omega) (by omega) ?_
  exact W.vret hx hb hr (fun t ht hW => ⟨⟨((fun k => match k with | 0 => q1 | 1 => q2 | 2 => q3 | 3 => q4 | 4 => q5 | 5 => q114 | 6 => q115 | 7 => q116 | 8 => q117 | 9 => q118 | 10 => q119 | 11 => q120 | 12 => q121 | 13 => q122 | 14 => q123 | 15 => q124 | _ => 0), g112), rfl, hlt113, ⟨by rw [ht]; exact hP9, hD9⟩⟩, hS.F ht⟩) hS.2.2 dX11_init_529

/-! THE CLAIM OUT OF ONE WALK OF THE LAW'S BODY. Your part is whole_start (and what it stands on); all else here is the same for every law, but numbers. -/
def R_law : String := "AsleepPassLaw"
def lw_P (b : Addr) (xs : List Int32) (args : Array Value) (s : State) : Prop := args = #[.ref b] ∧ s.IntsAt b xs ∧ xs.length ≤ 2560 ∧ (Jvm.Cond.and given_1 narrow_1).before args s = true
def lw_Q (_ : Array Value) (s : State) (o : Outcome) (t : State) : Prop := o = .returned (some (.int 1)) ∧ Framed s o t [] 600000 7302249
def lw_Z (below : List Frame) (a : Array Value) (s : State) : State → Prop := fun t => ∃ o, t.status = .running ∧ Ended t below o ∧ lw_Q a s o t
/-- the law's own end, with 1 on the stack, nothing written that was there before, its room as the claim has it -/
theorem lw_ret {p : Program} {l : Launch} {e : Env} {s : State} {m : MethodId} {below : List Frame} {meth : Method} {c : Code} {b : Nat} (hx : p.tables.exec = Jvm.exec) (hb : c.code = code) (hr : meth.sig.returnType = ret) (hlocks : meth.locks = false) {pc : Nat} {H : Heap} {ls : Array Slot} (hdg : decode code pc = .ok (.ireturn, 1)) : W p l e room_1 s m #[Value.ref b] below meth c H [] 600000 7302249 (lw_Z below #[Value.ref b] s) (F0 m pc ls [.int 1]) := by
  intro T hT X
  obtain ⟨fs, hret, hrun, hended, hW, hframe⟩ := X.leave (v := some (.int 1)) (hlocks := hlocks) (fun h => by rw [hr] at h; cases h)
  have hmeth' : T.vm.method? m = some meth := X.method'
  refine ⟨T.setFrames fs, ?_, .returned (some (.int 1)), hrun, hended, rfl, ⟨_, rfl⟩, hW, hframe⟩
  jvm_step X.here [X.here.top, hx, hb, hdg, hmeth', hr, ret, narrow_b1]
  (try refine ⟨rfl, ?_⟩); (try refine ⟨rfl, ?_⟩)
  first | (intro acts; rw [hret _ acts rfl rfl rfl]) | rw [hret _ _ rfl rfl rfl]
  exact Steps.refl _
/-- what holds at the law's entry: the machine, the code, the tables' words (any of lw_tbl by 'hts w (by decide +kernel)'), the script of L ints xs at the cell b, what the Statement gives of the start (any of its parts by flat_of_before) -/
def lw_At (p : Program) (s : State) (m : MethodId) (meth : Method) (c : Code) (b L : Nat) (xs : Nat → Int32) : Prop :=
  p.tables.exec = Jvm.exec ∧ c.code = code ∧ meth.sig.returnType = ret ∧ c.maxLocals = 4 ∧ s.vm.findClass R_law = some m.cls ∧ (∀ w ∈ lw_tbl, w.before #[Value.ref b] s = true) ∧ va_X b L xs s s.heap ∧ b < s.heap.size ∧ meth.locks = false ∧ (Jvm.Cond.and given_1 narrow_1).before #[Value.ref b] s = true

theorem arrP {s : State} {A : Array Value} {ty : FieldType} (h : (Cond.arrayClass ty).before A s = true) : ∃ c : ClassId, ArrOfT s c ty ∧ s.vm.findClass ("[" ++ ty.toString) = some c := by
  obtain ⟨c, k, comp, h1, h2, h3⟩ := Cond.arrayClass_spec h
  exact ⟨c, fun n z => ⟨(fun q hq => by cases hq), k, h2, comp, h3⟩, h1⟩
theorem arrQ {s : State} {ty : FieldType} (h : va_AOA ty s) : ∃ c : ClassId, ArrOfT s c (.array ty) ∧ s.vm.findClass ("[" ++ (FieldType.array ty).toString) = some c := by
  obtain ⟨comp, c, k, h1, h2, h3, h4, h5⟩ := arrayOver_specB h
  exact ⟨c, fun n z => ⟨(fun q hq => by cases hq), k, h3, comp, h4⟩, h5⟩
theorem arrW {s : State} (h : va_AO "AsleepPass$Way" s) : ∃ c : ClassId, ArrOfT s c (.object "AsleepPass$Way") ∧ va_RA s c (.object "AsleepPass$Way") := by
  obtain ⟨comp, c, k, h1, h2, h3, h4, h5⟩ := Cond.arrayOver_spec h
  exact ⟨c, fun n z => ⟨(fun q hq => by cases hq), k, h3, comp, h4⟩, k, comp, h3, h4, h1, h5⟩
theorem law_K {s : State} {A : Array Value} (hts : ∀ w ∈ lw_tbl, w.before A s = true) : ∃ (dC : Nat → ClassId) (dI : Nat → Nat → Nat) (G : Nat → ClassId), KK dC dI G s := by
  have hg : ∀ w ∈ GT, w.before A s = true := fun w h => hts w (List.mem_filter.mp h).1
  have hc : ∀ k : Nat, ∃ (cc : ClassId) (i : Nat → Nat), ∀ q : vw_C, vwCl[k]? = some q → u_Kn s q.1 q.2.1 q.2.2 cc i := by
    intro k
    match k with
    | 0 => obtain ⟨a, i, h⟩ := u_known (C := RX0) (T := TX0) (N := 3) (n := 3) hg inG0 (hg _ wt_171); exact ⟨a, i, fun q hq => by cases hq; exact h⟩
    | 1 => obtain ⟨a, i, h⟩ := u_known (C := RX1) (T := TX1) (N := 3) (n := 3) hg inG1 (hg _ wt_193); exact ⟨a, i, fun q hq => by cases hq; exact h⟩
    | 2 => obtain ⟨a, i, h⟩ := u_known (C := RX2) (T := TX2) (N := 5) (n := 5) hg inG2 (hg _ wt_212); exact ⟨a, i, fun q hq => by cases hq; exact h⟩
    | 3 => obtain ⟨a, i, h⟩ := u_known (C := RX3) (T := TX3) (N := 3) (n := 3) hg inG3 (hg _ wt_235); exact ⟨a, i, fun q hq => by cases hq; exact h⟩
    | 4 => obtain ⟨a, i, h⟩ := u_known (C := RX4) (T := TX4) (N := 3) (n := 3) hg inG4 (hg _ wt_151); exact ⟨a, i, fun q hq => by cases hq; exact h⟩
    | 5 => obtain ⟨a, i, h⟩ := u_known (C := RX5) (T := TX5) (N := 12) (n := 12) hg inG5 (hg _ wt_29); exact ⟨a, i, fun q hq => by cases hq; exact h⟩
    | 6 => obtain ⟨a, i, h⟩ := u_known (C := RX6) (T := TX6) (N := 7) (n := 7) hg inG6 (hg _ wt_270); exact ⟨a, i, fun q hq => by cases hq; exact h⟩
    | 7 => obtain ⟨a, i, h⟩ := u_known (C := RX7) (T := TX7) (N := 2) (n := 2) hg inG7 (hg _ wt_35); exact ⟨a, i, fun q hq => by cases hq; exact h⟩
    | 8 => obtain ⟨a, i, h⟩ := u_known (C := RX8) (T := TX8) (N := 3) (n := 3) hg inG8 (hg _ wt_252); exact ⟨a, i, fun q hq => by cases hq; exact h⟩
    | 9 => obtain ⟨a, i, h⟩ := u_known (C := RX9) (T := TX9) (N := 9) (n := 9) hg inG9 (hg _ wt_51); exact ⟨a, i, fun q hq => by cases hq; exact h⟩
    | 10 => obtain ⟨a, i, h⟩ := u_known (C := RX10) (T := TX10) (N := 14) (n := 14) hg inG10 (hg _ wt_21); exact ⟨a, i, fun q hq => by cases hq; exact h⟩
    | 11 => obtain ⟨a, i, h⟩ := u_known (C := RX11) (T := TX11) (N := 35) (n := 35) hg inG11 (hg _ wt_873); exact ⟨a, i, fun q hq => by cases hq; exact h⟩
    | k + 12 => exact ⟨(0 : Nat), fun _ => 0, fun q hq => by simp [vwCl] at hq⟩
  have hW : va_AO "AsleepPass$Way" s := va_AO.of (A := A) (hts _ (List.mem_append_right _ (List.mem_of_getElem? (i := 149) (by decide +kernel))))
  have hL : va_AOA .long s := ((hts _ (List.mem_append_right _ (List.mem_of_getElem? (i := 177) (by decide +kernel)))) : (Cond.arrayOver (.array .long)).before A s = true)
  have hI : va_AOA .int s := ((hts _ (List.mem_append_right _ (List.mem_of_getElem? (i := 179) (by decide +kernel)))) : (Cond.arrayOver (.array .int)).before A s = true)
  obtain ⟨g0, a0, b0⟩ := arrP (hg _ wt_49)
  obtain ⟨g1, a1, b1⟩ := arrP (hg _ wt_169)
  obtain ⟨g2, a2, b2⟩ := arrP (hg _ wt_168)
  obtain ⟨g3, a3, b3⟩ := arrW hW
  obtain ⟨g4, a4, b4⟩ := arrQ hI
  obtain ⟨g5, a5, b5⟩ := arrQ hL
  refine ⟨fun k => Classical.choose (hc k), fun k => Classical.choose (Classical.choose_spec (hc k)), fun k => match k with | 0 => g0 | 1 => g1 | 2 => g2 | 3 => g3 | 4 => g4 | _ => g5, ⟨⟨fun k q hq => Classical.choose_spec (Classical.choose_spec (hc k)) q hq, fun k q hq => ?_⟩, fun w hw => va_Nw.of (nest_on (List.mem_filter.mp hw).2) (hts w (List.mem_filter.mp hw).1), hW, hI, hL⟩⟩
  match k, hq with
  | 0, hq => cases hq; exact ⟨a0, b0⟩
  | 1, hq => cases hq; exact ⟨a1, b1⟩
  | 2, hq => cases hq; exact ⟨a2, b2⟩
  | 3, hq => cases hq; exact ⟨a3, b3⟩
  | 4, hq => cases hq; exact ⟨a4, b4⟩
  | 5, hq => cases hq; exact ⟨a5, b5⟩
  | k + 6, hq => simp [tyl] at hq

def LI (dC : Nat → ClassId) (dI : Nat → Nat → Nat) (G : Nat → ClassId) (ax : Nat → Nat) (H : Heap) : Prop := ∃ (T : Nat) (Y : Nat → Int32) (fa : Int32) (N : Nat) (B : Nat) (N1 : Nat) (B1 : Nat) (N2 : Nat) (B2 : Nat) (K : Nat → Int32) (S : Nat) (M : Nat) (E : Nat → Int32) (Z : Nat → Int32), X10I dC dI G ax T Y fa N B N1 B1 N2 B2 K S M E Z H ∧ X11I dC dI G ax T Y fa N B N1 B1 N2 B2 K S M E Z H
def lw_C (p : Program) (s : State) (m : MethodId) (c : Code) (b L : Nat) (xs : Nat → Int32) (dC : Nat → ClassId) (dI : Nat → Nat → Nat) (G : Nat → ClassId) (ax adK adV : Nat → Nat) (A : Nat → Prop) : Prop :=
  p.tables.exec = Jvm.exec ∧ c.code = code ∧ c.maxLocals = 4 ∧ s.vm.findClass RL = some m.cls ∧ (∀ w ∈ GT, w.before #[Value.ref b] s = true) ∧ va_X b L xs s s.heap ∧ b < s.heap.size ∧ ¬ A b ∧ KK dC dI G s ∧ adInj 129 ax ∧ (∀ i : Nat, i < 129 → A (ax i)) ∧ (∀ q : Nat, s.heap.size ≤ q → A q) ∧ SS adK adV A s s.heap
theorem ad_A {n lo hi : Nat} {ax : Nat → Nat} {A : Nat → Prop} {H0 H : Heap} {locs : List Loc} (hAx : ∀ i : Nat, i < n → A (ax i)) (hA : ∀ q : Nat, H0.size ≤ q → A q) (hhi : hi ≤ n) (hS : va_S A H0 H locs) : ∀ q : Nat, adX lo hi ax H.size q → A q := by
  intro q h
  rcases h with ⟨i, h1, h2, rfl⟩ | h
  · exact hAx i (by omega)
  · exact hA q (Nat.le_trans hS.1 h)
set_option maxHeartbeats 1000000 in
set_option maxRecDepth 100000 in
theorem lc_feed {p : Program} {l : Launch} {e : Env} {s : State} {m : MethodId} {below : List Frame} {meth : Method} {c : Code} {b L : Nat} {xs : Nat → Int32} {dC : Nat → ClassId} {dI : Nat → Nat → Nat} {G : Nat → ClassId} {ax adK adV : Nat → Nat} {A : Nat → Prop} {Q : State → Prop} (C1 : lw_C p s m c b L xs dC dI G ax adK adV A) {k : Nat} (hk : 5 * k + 5 ≤ L) (hL : L ≤ 2560) {H : Heap} {locs : List Loc} {ls : Array Slot} (hI : LI dC dI G ax H) (hS : va_S A s.heap H locs) (hl : lv_has ls 4 [(3, .int (nI (5 * k))), (2, .ref (ax 112)), (1, .ref (ax 0)), (0, .ref b)]) (kk : ∀ (H : Heap) (locs : List Loc), LI dC dI G ax H → va_S A s.heap H locs → W p l e room_1 s m #[Value.ref b] below meth c H locs 129 4562 Q (F0 m 1381 ls [])) : W p l e room_1 s m #[Value.ref b] below meth c H locs 129 4562 Q (F0 m 204 ls []) := by
  obtain ⟨hx, hb, hml, hown, hg, hX, hbl, hbA, hK, hi, hAx, hA, hSS⟩ := C1
  obtain ⟨T, Y, fa, N, B, N1, B1, N2, B2, K, S, M, E, Z, hXI, hMI⟩ := hI
  refine lv_aload_n hx hb dL_law_204 rfl (lv_at hl 2 rfl) ?_
  refine lv_aload_n hx hb dL_law_205 rfl (lv_at hl 3 rfl) ?_
  refine lv_iload_n hx hb dL_law_206 rfl (lv_at hl 0 rfl) ?_
  refine lv_iconst (v := 1) hx hb dL_law_207 (by decide) ?_
  refine lv_iadd hx hb dL_law_208 ?_
  refine lv_cg (y := nI (5 * k + 1)) (by rw [show (1 : Int32) = nI 1 from rfl]; exact nI_add _ _) ?_
  refine va_sld hx hb hX hbl hbA hS (vp_in_nI (by omega) (by omega)) dL_law_209 ?_
  refine lv_cg (y := xs (5 * k + 1)) (by rw [nI_clamp (by omega)]) ?_
  refine lv_i2l (v := (xs (5 * k + 1)).toInt64) hx hb dL_law_210 rfl ?_
  refine lv_bipush (v := 32) hx hb dL_law_211 (by decide) ?_
  refine lv_lshl (v := ((xs (5 * k + 1)).toInt64) <<< (((32 : Int32).toInt64) &&& 63)) hx hb dL_law_213 rfl ?_
  refine lv_aload_n hx hb dL_law_214 rfl (lv_at hl 3 rfl) ?_
  refine lv_iload_n hx hb dL_law_215 rfl (lv_at hl 0 rfl) ?_
  refine lv_iconst (v := 2) hx hb dL_law_216 (by decide) ?_
  refine lv_iadd hx hb dL_law_217 ?_
  refine lv_cg (y := nI (5 * k + 2)) (by rw [show (2 : Int32) = nI 2 from rfl]; exact nI_add _ _) ?_
  refine va_sld hx hb hX hbl hbA hS (vp_in_nI (by omega) (by omega)) dL_law_218 ?_
  refine lv_cg (y := xs (5 * k + 2)) (by rw [nI_clamp (by omega)]) ?_
  refine lv_i2l (v := (xs (5 * k + 2)).toInt64) hx hb dL_law_219 rfl ?_
  refine lv_ldc2 (v := 4294967295) hx hb hown (hg _ wt_1276) dL_law_220 ?_
  refine lv_land hx hb dL_law_223 ?_
  refine lv_lor hx hb dL_law_224 ?_
  refine va_calli (va_runV (As := [.long ((((xs (5 * k + 1)).toInt64) <<< (((32 : Int32).toInt64) &&& 63)) ||| (((xs (5 * k + 2)).toInt64) &&& 4294967295))]) (rest := []) ⟨hx, hb, hml, hown, hg⟩ (k_X10_feedE l dC dI G _ ax hi T Y fa N B N1 B1 N2 B2 K S M E Z ((((xs (5 * k + 1)).toInt64) <<< (((32 : Int32).toInt64) &&& 63)) ||| (((xs (5 * k + 2)).toInt64) &&& 4294967295))) (kwV hg mfX10_feed wt_345 ⟨Nat.le_of_ble_eq_true rfl, Nat.le_of_ble_eq_true rfl⟩) (preVI hK hXI (hXI.recv hK)) rfl rfl hl.1 rfl (lv_room (Nat.le_of_ble_eq_true rfl)) dL_law_225 ⟨Nat.le_of_ble_eq_true rfl, Nat.le_of_ble_eq_true rfl⟩) hS (fun q _ h => ad_A hAx hA (by decide) hS q h) (ad_A hAx hA (by decide) hS) (fun r1 u1 t1 H1 locs1 ht1 hv1 w1 hB1 hz1 hk1 hS => ?_)
  have hMI := hMI.kept (fr_ad (lo := 0) (hi := 112) hi (by decide) (by decide) (by decide) hk1)
  have hXI : X10I dC dI G ax (if T + 8 ≤ 320 then T + 8 else T) (if T + 8 ≤ 320 then fdC Y T ((((xs (5 * k + 1)).toInt64) <<< (((32 : Int32).toInt64) &&& 63)) ||| (((xs (5 * k + 2)).toInt64) &&& 4294967295)) else Y) fa N B N1 B1 N2 B2 K S M E Z H1 := by rw [← ht1]; exact hB1
  refine W.widen (k := 129) (n := 4562) (by omega) (by omega) ?_
  refine lv_pop hx hb dL_law_228 rfl ?_
  refine lv_aload_n hx hb dL_law_229 rfl (lv_at hl 1 rfl) ?_
  refine lv_aload_n hx hb dL_law_230 rfl (lv_at hl 3 rfl) ?_
  refine lv_iload_n hx hb dL_law_231 rfl (lv_at hl 0 rfl) ?_
  refine lv_iconst (v := 1) hx hb dL_law_232 (by decide) ?_
  refine lv_iadd hx hb dL_law_233 ?_
  refine lv_cg (y := nI (5 * k + 1)) (by rw [show (1 : Int32) = nI 1 from rfl]; exact nI_add _ _) ?_
  refine va_sld hx hb hX hbl hbA hS (vp_in_nI (by omega) (by omega)) dL_law_234 ?_
  refine lv_cg (y := xs (5 * k + 1)) (by rw [nI_clamp (by omega)]) ?_
  refine lv_i2l (v := (xs (5 * k + 1)).toInt64) hx hb dL_law_235 rfl ?_
  refine lv_bipush (v := 32) hx hb dL_law_236 (by decide) ?_
  refine lv_lshl (v := ((xs (5 * k + 1)).toInt64) <<< (((32 : Int32).toInt64) &&& 63)) hx hb dL_law_238 rfl ?_
  refine lv_aload_n hx hb dL_law_239 rfl (lv_at hl 3 rfl) ?_
  refine lv_iload_n hx hb dL_law_240 rfl (lv_at hl 0 rfl) ?_
  refine lv_iconst (v := 2) hx hb dL_law_241 (by decide) ?_
  refine lv_iadd hx hb dL_law_242 ?_
  refine lv_cg (y := nI (5 * k + 2)) (by rw [show (2 : Int32) = nI 2 from rfl]; exact nI_add _ _) ?_
  refine va_sld hx hb hX hbl hbA hS (vp_in_nI (by omega) (by omega)) dL_law_243 ?_
  refine lv_cg (y := xs (5 * k + 2)) (by rw [nI_clamp (by omega)]) ?_
  refine lv_i2l (v := (xs (5 * k + 2)).toInt64) hx hb dL_law_244 rfl ?_
  refine lv_ldc2 (v := 4294967295) hx hb hown (hg _ wt_1276) dL_law_245 ?_
  refine lv_land hx hb dL_law_248 ?_
  refine lv_lor hx hb dL_law_249 ?_
  refine va_calli (va_runV (As := [.long ((((xs (5 * k + 1)).toInt64) <<< (((32 : Int32).toInt64) &&& 63)) ||| (((xs (5 * k + 2)).toInt64) &&& 4294967295))]) (rest := []) ⟨hx, hb, hml, hown, hg⟩ (k_X11_feedE l dC dI G _ ax hi T Y fa N B N1 B1 N2 B2 K S M E Z ((((xs (5 * k + 1)).toInt64) <<< (((32 : Int32).toInt64) &&& 63)) ||| (((xs (5 * k + 2)).toInt64) &&& 4294967295))) (kwV hg mfX11_feed wt_984 ⟨Nat.le_of_ble_eq_true rfl, Nat.le_of_ble_eq_true rfl⟩) (preVI hK hMI (hMI.recv hK)) rfl rfl hl.1 rfl (lv_room (Nat.le_of_ble_eq_true rfl)) dL_law_250 ⟨Nat.le_of_ble_eq_true rfl, Nat.le_of_ble_eq_true rfl⟩) hS (fun q _ h => ad_A hAx hA (by decide) hS q h) (ad_A hAx hA (by decide) hS) (fun r2 u2 t2 H2 locs2 ht2 hv2 w2 hB2 hz2 hk2 hS => ?_)
  have hXI := hXI.kept (fr_ad (lo := 112) (hi := 129) hi (by decide) (by decide) (by decide) hk2)
  have hMI : X11I dC dI G ax (if T + 8 ≤ 320 then T + 8 else T) (if T + 8 ≤ 320 then fdC Y T ((((xs (5 * k + 1)).toInt64) <<< (((32 : Int32).toInt64) &&& 63)) ||| (((xs (5 * k + 2)).toInt64) &&& 4294967295)) else Y) fa N B N1 B1 N2 B2 K S M E Z H2 := by rw [← ht2]; exact hB2
  refine W.widen (k := 129) (n := 4562) (by omega) (by omega) ?_
  refine lv_pop hx hb dL_law_253 rfl ?_
  refine lv_goto (tgt := 1381) hx hb dL_law_254 (by decide) ?_
  exact kk _ _ ⟨_, _, _, _, _, _, _, _, _, _, _, _, _, _, hXI, hMI⟩ hS

set_option maxHeartbeats 1000000 in
set_option maxRecDepth 100000 in
theorem lc_end {p : Program} {l : Launch} {e : Env} {s : State} {m : MethodId} {below : List Frame} {meth : Method} {c : Code} {b L : Nat} {xs : Nat → Int32} {dC : Nat → ClassId} {dI : Nat → Nat → Nat} {G : Nat → ClassId} {ax adK adV : Nat → Nat} {A : Nat → Prop} {Q : State → Prop} (C1 : lw_C p s m c b L xs dC dI G ax adK adV A) {k : Nat} (hk : 5 * k + 5 ≤ L) (hL : L ≤ 2560) {H : Heap} {locs : List Loc} {ls : Array Slot} (hI : LI dC dI G ax H) (hS : va_S A s.heap H locs) (hl : lv_has ls 4 [(3, .int (nI (5 * k))), (2, .ref (ax 112)), (1, .ref (ax 0)), (0, .ref b)]) (kk : ∀ (H : Heap) (locs : List Loc), LI dC dI G ax H → va_S A s.heap H locs → W p l e room_1 s m #[Value.ref b] below meth c H locs 129 4562 Q (F0 m 1381 ls [])) : W p l e room_1 s m #[Value.ref b] below meth c H locs 129 4562 Q (F0 m 257 ls []) := by
  obtain ⟨hx, hb, hml, hown, hg, hX, hbl, hbA, hK, hi, hAx, hA, hSS⟩ := C1
  obtain ⟨T, Y, fa, N, B, N1, B1, N2, B2, K, S, M, E, Z, hXI, hMI⟩ := hI
  refine lv_aload_n hx hb dL_law_257 rfl (lv_at hl 2 rfl) ?_
  refine lv_aload_n hx hb dL_law_258 rfl (lv_at hl 3 rfl) ?_
  refine lv_iload_n hx hb dL_law_259 rfl (lv_at hl 0 rfl) ?_
  refine lv_iconst (v := 1) hx hb dL_law_260 (by decide) ?_
  refine lv_iadd hx hb dL_law_261 ?_
  refine lv_cg (y := nI (5 * k + 1)) (by rw [show (1 : Int32) = nI 1 from rfl]; exact nI_add _ _) ?_
  refine va_sld hx hb hX hbl hbA hS (vp_in_nI (by omega) (by omega)) dL_law_262 ?_
  refine lv_cg (y := xs (5 * k + 1)) (by rw [nI_clamp (by omega)]) ?_
  refine va_calli (va_runV (As := [.int (xs (5 * k + 1))]) (rest := []) ⟨hx, hb, hml, hown, hg⟩ (k_X10_end l dC dI G _ ax hi T Y fa N B N1 B1 N2 B2 K S M E Z (xs (5 * k + 1))) (kwV hg mfX10_end wt_354 ⟨Nat.le_of_ble_eq_true rfl, Nat.le_of_ble_eq_true rfl⟩) (preVI hK hXI (hXI.recv hK)) rfl rfl hl.1 rfl (lv_room (Nat.le_of_ble_eq_true rfl)) dL_law_263 ⟨Nat.le_of_ble_eq_true rfl, Nat.le_of_ble_eq_true rfl⟩) hS (fun q _ h => ad_A hAx hA (by decide) hS q h) (ad_A hAx hA (by decide) hS) (fun r1 u1 t1 H1 locs1 ht1 hv1 w1 hB1 hz1 hk1 hS => ?_)
  have hMI := hMI.kept (fr_ad (lo := 0) (hi := 112) hi (by decide) (by decide) (by decide) hk1)
  have hXI : X10I dC dI G ax (if 0 ≤ (xs (5 * k + 1)).toInt ∧ (xs (5 * k + 1)).toInt ≤ ((T : Nat) : Int) then (xs (5 * k + 1)).toNatClampNeg else T) Y fa N B N1 B1 N2 B2 K S M E Z H1 := by rw [← ht1]; exact hB1
  refine W.widen (k := 129) (n := 4562) (by omega) (by omega) ?_
  refine lv_pop hx hb dL_law_266 rfl ?_
  refine lv_aload_n hx hb dL_law_267 rfl (lv_at hl 1 rfl) ?_
  refine lv_aload_n hx hb dL_law_268 rfl (lv_at hl 3 rfl) ?_
  refine lv_iload_n hx hb dL_law_269 rfl (lv_at hl 0 rfl) ?_
  refine lv_iconst (v := 1) hx hb dL_law_270 (by decide) ?_
  refine lv_iadd hx hb dL_law_271 ?_
  refine lv_cg (y := nI (5 * k + 1)) (by rw [show (1 : Int32) = nI 1 from rfl]; exact nI_add _ _) ?_
  refine va_sld hx hb hX hbl hbA hS (vp_in_nI (by omega) (by omega)) dL_law_272 ?_
  refine lv_cg (y := xs (5 * k + 1)) (by rw [nI_clamp (by omega)]) ?_
  refine va_calli (va_runV (As := [.int (xs (5 * k + 1))]) (rest := []) ⟨hx, hb, hml, hown, hg⟩ (k_X11_end l dC dI G _ ax hi T Y fa N B N1 B1 N2 B2 K S M E Z (xs (5 * k + 1))) (kwV hg mfX11_end wt_988 ⟨Nat.le_of_ble_eq_true rfl, Nat.le_of_ble_eq_true rfl⟩) (preVI hK hMI (hMI.recv hK)) rfl rfl hl.1 rfl (lv_room (Nat.le_of_ble_eq_true rfl)) dL_law_273 ⟨Nat.le_of_ble_eq_true rfl, Nat.le_of_ble_eq_true rfl⟩) hS (fun q _ h => ad_A hAx hA (by decide) hS q h) (ad_A hAx hA (by decide) hS) (fun r2 u2 t2 H2 locs2 ht2 hv2 w2 hB2 hz2 hk2 hS => ?_)
  have hXI := hXI.kept (fr_ad (lo := 112) (hi := 129) hi (by decide) (by decide) (by decide) hk2)
  have hMI : X11I dC dI G ax (if 0 ≤ (xs (5 * k + 1)).toInt ∧ (xs (5 * k + 1)).toInt ≤ ((T : Nat) : Int) then (xs (5 * k + 1)).toNatClampNeg else T) Y fa N B N1 B1 N2 B2 K S M E Z H2 := by rw [← ht2]; exact hB2
  refine W.widen (k := 129) (n := 4562) (by omega) (by omega) ?_
  refine lv_pop hx hb dL_law_276 rfl ?_
  refine lv_goto (tgt := 1381) hx hb dL_law_277 (by decide) ?_
  exact kk _ _ ⟨_, _, _, _, _, _, _, _, _, _, _, _, _, _, hXI, hMI⟩ hS

set_option maxHeartbeats 1000000 in
set_option maxRecDepth 100000 in
theorem lc_text {p : Program} {l : Launch} {e : Env} {s : State} {m : MethodId} {below : List Frame} {meth : Method} {c : Code} {b L : Nat} {xs : Nat → Int32} {dC : Nat → ClassId} {dI : Nat → Nat → Nat} {G : Nat → ClassId} {ax adK adV : Nat → Nat} {A : Nat → Prop} {Q : State → Prop} (C1 : lw_C p s m c b L xs dC dI G ax adK adV A) {k : Nat} (hk : 5 * k + 5 ≤ L) (hL : L ≤ 2560) {H : Heap} {locs : List Loc} {ls : Array Slot} (hI : LI dC dI G ax H) (hS : va_S A s.heap H locs) (hl : lv_has ls 4 [(3, .int (nI (5 * k))), (2, .ref (ax 112)), (1, .ref (ax 0)), (0, .ref b)]) (kk : ∀ (H : Heap) (locs : List Loc), LI dC dI G ax H → va_S A s.heap H locs → W p l e room_1 s m #[Value.ref b] below meth c H locs 129 4562 Q (F0 m 1381 ls [])) : W p l e room_1 s m #[Value.ref b] below meth c H locs 129 4562 Q (F0 m 280 ls []) := by
  obtain ⟨hx, hb, hml, hown, hg, hX, hbl, hbA, hK, hi, hAx, hA, hSS⟩ := C1
  obtain ⟨T, Y, fa, N, B, N1, B1, N2, B2, K, S, M, E, Z, hXI, hMI⟩ := hI
  refine lv_aload_n hx hb dL_law_280 rfl (lv_at hl 2 rfl) ?_
  refine va_calli (va_runV (As := []) (rest := []) ⟨hx, hb, hml, hown, hg⟩ (k_X10_textE l dC dI G _ ax hi T Y fa N B N1 B1 N2 B2 K S M E Z adK adV) (kwV hg mfX10_text wt_358 ⟨Nat.le_of_ble_eq_true rfl, Nat.le_of_ble_eq_true rfl⟩) (preVIS hK hXI (hXI.recv hK) hSS hS (ad_A hAx hA (by decide) hS)) rfl rfl hl.1 rfl (lv_room (Nat.le_of_ble_eq_true rfl)) dL_law_281 ⟨Nat.le_of_ble_eq_true rfl, Nat.le_of_ble_eq_true rfl⟩) hS (fun q _ h => ad_A hAx hA (by decide) hS q h) (ad_A hAx hA (by decide) hS) (fun r1 u1 t1 H1 locs1 ht1 hv1 w1 hB1 hz1 hk1 hS => ?_)
  have hMI := hMI.kept (fr_ad (lo := 0) (hi := 112) hi (by decide) (by decide) (by decide) hk1)
  have hXI : X10I dC dI G ax 0 Y (txF Y T) (txN Y T N) (txB Y T B) N1 B1 N2 B2 (txK Y T K) (txS Y T S) (txS Y T M) E Z H1 := by rw [← ht1]; exact hB1
  refine W.widen (k := 129) (n := 4562) (by omega) (by omega) ?_
  refine lv_pop hx hb dL_law_284 rfl ?_
  refine lv_aload_n hx hb dL_law_285 rfl (lv_at hl 1 rfl) ?_
  refine va_calli (va_runV (As := []) (rest := []) ⟨hx, hb, hml, hown, hg⟩ (k_X11_textE l dC dI G _ ax hi T Y fa N B N1 B1 N2 B2 K S M E Z) (kwV hg mfX11_text wt_995 ⟨Nat.le_of_ble_eq_true rfl, Nat.le_of_ble_eq_true rfl⟩) (preVI hK hMI (hMI.recv hK)) rfl rfl hl.1 rfl (lv_room (Nat.le_of_ble_eq_true rfl)) dL_law_286 ⟨Nat.le_of_ble_eq_true rfl, Nat.le_of_ble_eq_true rfl⟩) hS (fun q _ h => ad_A hAx hA (by decide) hS q h) (ad_A hAx hA (by decide) hS) (fun r2 u2 t2 H2 locs2 ht2 hv2 w2 hB2 hz2 hk2 hS => ?_)
  have hXI := hXI.kept (fr_ad (lo := 112) (hi := 129) hi (by decide) (by decide) (by decide) hk2)
  have hMI : X11I dC dI G ax 0 Y (txF Y T) (txN Y T N) (txB Y T B) N1 B1 N2 B2 (txK Y T K) (txS Y T S) (txS Y T M) E Z H2 := by rw [← ht2]; exact hB2
  refine W.widen (k := 129) (n := 4562) (by omega) (by omega) ?_
  refine lv_pop hx hb dL_law_289 rfl ?_
  refine lv_goto (tgt := 1381) hx hb dL_law_290 (by decide) ?_
  exact kk _ _ ⟨_, _, _, _, _, _, _, _, _, _, _, _, _, _, hXI, hMI⟩ hS

set_option maxHeartbeats 1000000 in
set_option maxRecDepth 100000 in
theorem lc_fault {p : Program} {l : Launch} {e : Env} {s : State} {m : MethodId} {below : List Frame} {meth : Method} {c : Code} {b L : Nat} {xs : Nat → Int32} {dC : Nat → ClassId} {dI : Nat → Nat → Nat} {G : Nat → ClassId} {ax adK adV : Nat → Nat} {A : Nat → Prop} {Q : State → Prop} (C1 : lw_C p s m c b L xs dC dI G ax adK adV A) {k : Nat} (hk : 5 * k + 5 ≤ L) (hL : L ≤ 2560) {H : Heap} {locs : List Loc} {ls : Array Slot} (hI : LI dC dI G ax H) (hS : va_S A s.heap H locs) (hl : lv_has ls 4 [(3, .int (nI (5 * k))), (2, .ref (ax 112)), (1, .ref (ax 0)), (0, .ref b)]) (kk : ∀ (H : Heap) (locs : List Loc), LI dC dI G ax H → va_S A s.heap H locs → W p l e room_1 s m #[Value.ref b] below meth c H locs 129 4562 Q (F0 m 1381 ls [])) : W p l e room_1 s m #[Value.ref b] below meth c H locs 129 4562 Q (F0 m 293 ls []) := by
  obtain ⟨hx, hb, hml, hown, hg, hX, hbl, hbA, hK, hi, hAx, hA, hSS⟩ := C1
  obtain ⟨T, Y, fa, N, B, N1, B1, N2, B2, K, S, M, E, Z, hXI, hMI⟩ := hI
  refine lv_aload_n hx hb dL_law_293 rfl (lv_at hl 2 rfl) ?_
  refine va_calli (va_runV (As := []) (rest := []) ⟨hx, hb, hml, hown, hg⟩ (k_X10_faultE l dC dI G _ ax hi T Y fa N B N1 B1 N2 B2 K S M E Z) (kwV hg mfX10_fault wt_515 ⟨Nat.le_of_ble_eq_true rfl, Nat.le_of_ble_eq_true rfl⟩) (preVI hK hXI (hXI.recv hK)) rfl rfl hl.1 rfl (lv_room (Nat.le_of_ble_eq_true rfl)) dL_law_294 ⟨Nat.le_of_ble_eq_true rfl, Nat.le_of_ble_eq_true rfl⟩) hS (fun q _ h => ad_A hAx hA (by decide) hS q h) (ad_A hAx hA (by decide) hS) (fun r1 u1 t1 H1 locs1 ht1 hv1 w1 hB1 hz1 hk1 hS => ?_)
  have hMI := hMI.kept (fr_ad (lo := 0) (hi := 112) hi (by decide) (by decide) (by decide) hk1)
  have hXI : X10I dC dI G ax T Y fa N B N1 B1 N2 B2 K S M E Z H1 := by rw [← ht1]; exact hB1
  refine W.widen (k := 129) (n := 4562) (by omega) (by omega) ?_
  refine lv_aload_n hx hb dL_law_297 rfl (lv_at hl 1 rfl) ?_
  refine va_calli (va_runV (As := []) (rest := [.int r1]) ⟨hx, hb, hml, hown, hg⟩ (k_X11_faultE l dC dI G _ ax hi T Y fa N B N1 B1 N2 B2 K S M E Z) (kwV hg mfX11_fault wt_1036 ⟨Nat.le_of_ble_eq_true rfl, Nat.le_of_ble_eq_true rfl⟩) (preVI hK hMI (hMI.recv hK)) rfl rfl hl.1 rfl (lv_room (Nat.le_of_ble_eq_true rfl)) dL_law_298 ⟨Nat.le_of_ble_eq_true rfl, Nat.le_of_ble_eq_true rfl⟩) hS (fun q _ h => ad_A hAx hA (by decide) hS q h) (ad_A hAx hA (by decide) hS) (fun r2 u2 t2 H2 locs2 ht2 hv2 w2 hB2 hz2 hk2 hS => ?_)
  have hXI := hXI.kept (fr_ad (lo := 112) (hi := 129) hi (by decide) (by decide) (by decide) hk2)
  have hMI : X11I dC dI G ax T Y fa N B N1 B1 N2 B2 K S M E Z H2 := by rw [← ht2]; exact hB2
  refine W.widen (k := 129) (n := 4562) (by omega) (by omega) ?_
  refine lv_icmp_eq (tgt := 1381) hx hb dL_law_301 (by decide) (fun c1 => ?_) (fun c1 => absurd (w1.trans w2.symm) c1)
  exact kk _ _ ⟨_, _, _, _, _, _, _, _, _, _, _, _, _, _, hXI, hMI⟩ hS

set_option maxHeartbeats 1000000 in
set_option maxRecDepth 100000 in
theorem lc_rule {p : Program} {l : Launch} {e : Env} {s : State} {m : MethodId} {below : List Frame} {meth : Method} {c : Code} {b L : Nat} {xs : Nat → Int32} {dC : Nat → ClassId} {dI : Nat → Nat → Nat} {G : Nat → ClassId} {ax adK adV : Nat → Nat} {A : Nat → Prop} {Q : State → Prop} (C1 : lw_C p s m c b L xs dC dI G ax adK adV A) {k : Nat} (hk : 5 * k + 5 ≤ L) (hL : L ≤ 2560) {H : Heap} {locs : List Loc} {ls : Array Slot} (hI : LI dC dI G ax H) (hS : va_S A s.heap H locs) (hl : lv_has ls 4 [(3, .int (nI (5 * k))), (2, .ref (ax 112)), (1, .ref (ax 0)), (0, .ref b)]) (kk : ∀ (H : Heap) (locs : List Loc), LI dC dI G ax H → va_S A s.heap H locs → W p l e room_1 s m #[Value.ref b] below meth c H locs 129 4562 Q (F0 m 1381 ls [])) : W p l e room_1 s m #[Value.ref b] below meth c H locs 129 4562 Q (F0 m 306 ls []) := by
  obtain ⟨hx, hb, hml, hown, hg, hX, hbl, hbA, hK, hi, hAx, hA, hSS⟩ := C1
  obtain ⟨T, Y, fa, N, B, N1, B1, N2, B2, K, S, M, E, Z, hXI, hMI⟩ := hI
  refine lv_aload_n hx hb dL_law_306 rfl (lv_at hl 2 rfl) ?_
  refine lv_aload_n hx hb dL_law_307 rfl (lv_at hl 3 rfl) ?_
  refine lv_iload_n hx hb dL_law_308 rfl (lv_at hl 0 rfl) ?_
  refine lv_iconst (v := 1) hx hb dL_law_309 (by decide) ?_
  refine lv_iadd hx hb dL_law_310 ?_
  refine lv_cg (y := nI (5 * k + 1)) (by rw [show (1 : Int32) = nI 1 from rfl]; exact nI_add _ _) ?_
  refine va_sld hx hb hX hbl hbA hS (vp_in_nI (by omega) (by omega)) dL_law_311 ?_
  refine lv_cg (y := xs (5 * k + 1)) (by rw [nI_clamp (by omega)]) ?_
  refine va_calli (va_runV (As := [.int (xs (5 * k + 1))]) (rest := []) ⟨hx, hb, hml, hown, hg⟩ (k_X10_rule l dC dI G _ ax hi T Y fa N B N1 B1 N2 B2 K S M E Z (xs (5 * k + 1))) (kwV hg mfX10_rule wt_519 ⟨Nat.le_of_ble_eq_true rfl, Nat.le_of_ble_eq_true rfl⟩) (preVI hK hXI (hXI.recv hK)) rfl rfl hl.1 rfl (lv_room (Nat.le_of_ble_eq_true rfl)) dL_law_312 ⟨Nat.le_of_ble_eq_true rfl, Nat.le_of_ble_eq_true rfl⟩) hS (fun q _ h => ad_A hAx hA (by decide) hS q h) (ad_A hAx hA (by decide) hS) (fun r1 u1 t1 H1 locs1 ht1 hv1 w1 hB1 hz1 hk1 hS => ?_)
  have hMI := hMI.kept (fr_ad (lo := 0) (hi := 112) hi (by decide) (by decide) (by decide) hk1)
  have hXI : X10I dC dI G ax T Y fa N B N1 B1 N2 B2 K S M E Z H1 := by rw [← ht1]; exact hB1
  refine W.widen (k := 129) (n := 4562) (by omega) (by omega) ?_
  refine lv_pop hx hb dL_law_315 rfl ?_
  refine lv_aload_n hx hb dL_law_316 rfl (lv_at hl 1 rfl) ?_
  refine lv_aload_n hx hb dL_law_317 rfl (lv_at hl 3 rfl) ?_
  refine lv_iload_n hx hb dL_law_318 rfl (lv_at hl 0 rfl) ?_
  refine lv_iconst (v := 1) hx hb dL_law_319 (by decide) ?_
  refine lv_iadd hx hb dL_law_320 ?_
  refine lv_cg (y := nI (5 * k + 1)) (by rw [show (1 : Int32) = nI 1 from rfl]; exact nI_add _ _) ?_
  refine va_sld hx hb hX hbl hbA hS (vp_in_nI (by omega) (by omega)) dL_law_321 ?_
  refine lv_cg (y := xs (5 * k + 1)) (by rw [nI_clamp (by omega)]) ?_
  refine va_calli (va_runV (As := [.int (xs (5 * k + 1))]) (rest := []) ⟨hx, hb, hml, hown, hg⟩ (k_X11_rule l dC dI G _ ax hi T Y fa N B N1 B1 N2 B2 K S M E Z (xs (5 * k + 1))) (kwV hg mfX11_rule wt_1040 ⟨Nat.le_of_ble_eq_true rfl, Nat.le_of_ble_eq_true rfl⟩) (preVI hK hMI (hMI.recv hK)) rfl rfl hl.1 rfl (lv_room (Nat.le_of_ble_eq_true rfl)) dL_law_322 ⟨Nat.le_of_ble_eq_true rfl, Nat.le_of_ble_eq_true rfl⟩) hS (fun q _ h => ad_A hAx hA (by decide) hS q h) (ad_A hAx hA (by decide) hS) (fun r2 u2 t2 H2 locs2 ht2 hv2 w2 hB2 hz2 hk2 hS => ?_)
  have hXI := hXI.kept (fr_ad (lo := 112) (hi := 129) hi (by decide) (by decide) (by decide) hk2)
  have hMI : X11I dC dI G ax T Y fa N B N1 B1 N2 B2 K S M E Z H2 := by rw [← ht2]; exact hB2
  refine W.widen (k := 129) (n := 4562) (by omega) (by omega) ?_
  refine lv_pop hx hb dL_law_325 rfl ?_
  refine lv_goto (tgt := 1381) hx hb dL_law_326 (by decide) ?_
  exact kk _ _ ⟨_, _, _, _, _, _, _, _, _, _, _, _, _, _, hXI, hMI⟩ hS

set_option maxHeartbeats 1000000 in
set_option maxRecDepth 100000 in
theorem lc_stretch {p : Program} {l : Launch} {e : Env} {s : State} {m : MethodId} {below : List Frame} {meth : Method} {c : Code} {b L : Nat} {xs : Nat → Int32} {dC : Nat → ClassId} {dI : Nat → Nat → Nat} {G : Nat → ClassId} {ax adK adV : Nat → Nat} {A : Nat → Prop} {Q : State → Prop} (C1 : lw_C p s m c b L xs dC dI G ax adK adV A) {k : Nat} (hk : 5 * k + 5 ≤ L) (hL : L ≤ 2560) {H : Heap} {locs : List Loc} {ls : Array Slot} (hI : LI dC dI G ax H) (hS : va_S A s.heap H locs) (hl : lv_has ls 4 [(3, .int (nI (5 * k))), (2, .ref (ax 112)), (1, .ref (ax 0)), (0, .ref b)]) (kk : ∀ (H : Heap) (locs : List Loc), LI dC dI G ax H → va_S A s.heap H locs → W p l e room_1 s m #[Value.ref b] below meth c H locs 129 4562 Q (F0 m 1381 ls [])) : W p l e room_1 s m #[Value.ref b] below meth c H locs 129 4562 Q (F0 m 329 ls []) := by
  obtain ⟨hx, hb, hml, hown, hg, hX, hbl, hbA, hK, hi, hAx, hA, hSS⟩ := C1
  obtain ⟨T, Y, fa, N, B, N1, B1, N2, B2, K, S, M, E, Z, hXI, hMI⟩ := hI
  refine lv_aload_n hx hb dL_law_329 rfl (lv_at hl 2 rfl) ?_
  refine lv_aload_n hx hb dL_law_330 rfl (lv_at hl 3 rfl) ?_
  refine lv_iload_n hx hb dL_law_331 rfl (lv_at hl 0 rfl) ?_
  refine lv_iconst (v := 1) hx hb dL_law_332 (by decide) ?_
  refine lv_iadd hx hb dL_law_333 ?_
  refine lv_cg (y := nI (5 * k + 1)) (by rw [show (1 : Int32) = nI 1 from rfl]; exact nI_add _ _) ?_
  refine va_sld hx hb hX hbl hbA hS (vp_in_nI (by omega) (by omega)) dL_law_334 ?_
  refine lv_cg (y := xs (5 * k + 1)) (by rw [nI_clamp (by omega)]) ?_
  refine lv_aload_n hx hb dL_law_335 rfl (lv_at hl 3 rfl) ?_
  refine lv_iload_n hx hb dL_law_336 rfl (lv_at hl 0 rfl) ?_
  refine lv_iconst (v := 2) hx hb dL_law_337 (by decide) ?_
  refine lv_iadd hx hb dL_law_338 ?_
  refine lv_cg (y := nI (5 * k + 2)) (by rw [show (2 : Int32) = nI 2 from rfl]; exact nI_add _ _) ?_
  refine va_sld hx hb hX hbl hbA hS (vp_in_nI (by omega) (by omega)) dL_law_339 ?_
  refine lv_cg (y := xs (5 * k + 2)) (by rw [nI_clamp (by omega)]) ?_
  refine va_calli (va_runV (As := [.int (xs (5 * k + 1)), .int (xs (5 * k + 2))]) (rest := []) ⟨hx, hb, hml, hown, hg⟩ (k_X10_stretch l dC dI G _ ax hi T Y fa N B N1 B1 N2 B2 K S M E Z (xs (5 * k + 1)) (xs (5 * k + 2))) (kwV hg mfX10_stretch wt_523 ⟨Nat.le_of_ble_eq_true rfl, Nat.le_of_ble_eq_true rfl⟩) (preVI hK hXI (hXI.recv hK)) rfl rfl hl.1 rfl (lv_room (Nat.le_of_ble_eq_true rfl)) dL_law_340 ⟨Nat.le_of_ble_eq_true rfl, Nat.le_of_ble_eq_true rfl⟩) hS (fun q _ h => ad_A hAx hA (by decide) hS q h) (ad_A hAx hA (by decide) hS) (fun r1 u1 t1 H1 locs1 ht1 hv1 w1 hB1 hz1 hk1 hS => ?_)
  have hMI := hMI.kept (fr_ad (lo := 0) (hi := 112) hi (by decide) (by decide) (by decide) hk1)
  have hXI : X10I dC dI G ax T Y fa N B N1 B1 N2 B2 K S M E Z H1 := by rw [← ht1]; exact hB1
  refine W.widen (k := 129) (n := 4562) (by omega) (by omega) ?_
  refine lv_pop hx hb dL_law_343 rfl ?_
  refine lv_aload_n hx hb dL_law_344 rfl (lv_at hl 1 rfl) ?_
  refine lv_aload_n hx hb dL_law_345 rfl (lv_at hl 3 rfl) ?_
  refine lv_iload_n hx hb dL_law_346 rfl (lv_at hl 0 rfl) ?_
  refine lv_iconst (v := 1) hx hb dL_law_347 (by decide) ?_
  refine lv_iadd hx hb dL_law_348 ?_
  refine lv_cg (y := nI (5 * k + 1)) (by rw [show (1 : Int32) = nI 1 from rfl]; exact nI_add _ _) ?_
  refine va_sld hx hb hX hbl hbA hS (vp_in_nI (by omega) (by omega)) dL_law_349 ?_
  refine lv_cg (y := xs (5 * k + 1)) (by rw [nI_clamp (by omega)]) ?_
  refine lv_aload_n hx hb dL_law_350 rfl (lv_at hl 3 rfl) ?_
  refine lv_iload_n hx hb dL_law_351 rfl (lv_at hl 0 rfl) ?_
  refine lv_iconst (v := 2) hx hb dL_law_352 (by decide) ?_
  refine lv_iadd hx hb dL_law_353 ?_
  refine lv_cg (y := nI (5 * k + 2)) (by rw [show (2 : Int32) = nI 2 from rfl]; exact nI_add _ _) ?_
  refine va_sld hx hb hX hbl hbA hS (vp_in_nI (by omega) (by omega)) dL_law_354 ?_
  refine lv_cg (y := xs (5 * k + 2)) (by rw [nI_clamp (by omega)]) ?_
  refine va_calli (va_runV (As := [.int (xs (5 * k + 1)), .int (xs (5 * k + 2))]) (rest := []) ⟨hx, hb, hml, hown, hg⟩ (k_X11_stretch l dC dI G _ ax hi T Y fa N B N1 B1 N2 B2 K S M E Z (xs (5 * k + 1)) (xs (5 * k + 2))) (kwV hg mfX11_stretch wt_1048 ⟨Nat.le_of_ble_eq_true rfl, Nat.le_of_ble_eq_true rfl⟩) (preVI hK hMI (hMI.recv hK)) rfl rfl hl.1 rfl (lv_room (Nat.le_of_ble_eq_true rfl)) dL_law_355 ⟨Nat.le_of_ble_eq_true rfl, Nat.le_of_ble_eq_true rfl⟩) hS (fun q _ h => ad_A hAx hA (by decide) hS q h) (ad_A hAx hA (by decide) hS) (fun r2 u2 t2 H2 locs2 ht2 hv2 w2 hB2 hz2 hk2 hS => ?_)
  have hXI := hXI.kept (fr_ad (lo := 112) (hi := 129) hi (by decide) (by decide) (by decide) hk2)
  have hMI : X11I dC dI G ax T Y fa N B N1 B1 N2 B2 K S M E Z H2 := by rw [← ht2]; exact hB2
  refine W.widen (k := 129) (n := 4562) (by omega) (by omega) ?_
  refine lv_pop hx hb dL_law_358 rfl ?_
  refine lv_goto (tgt := 1381) hx hb dL_law_359 (by decide) ?_
  exact kk _ _ ⟨_, _, _, _, _, _, _, _, _, _, _, _, _, _, hXI, hMI⟩ hS

set_option maxHeartbeats 1000000 in
set_option maxRecDepth 100000 in
theorem lc_bearer {p : Program} {l : Launch} {e : Env} {s : State} {m : MethodId} {below : List Frame} {meth : Method} {c : Code} {b L : Nat} {xs : Nat → Int32} {dC : Nat → ClassId} {dI : Nat → Nat → Nat} {G : Nat → ClassId} {ax adK adV : Nat → Nat} {A : Nat → Prop} {Q : State → Prop} (C1 : lw_C p s m c b L xs dC dI G ax adK adV A) {k : Nat} (hk : 5 * k + 5 ≤ L) (hL : L ≤ 2560) {H : Heap} {locs : List Loc} {ls : Array Slot} (hI : LI dC dI G ax H) (hS : va_S A s.heap H locs) (hl : lv_has ls 4 [(3, .int (nI (5 * k))), (2, .ref (ax 112)), (1, .ref (ax 0)), (0, .ref b)]) (kk : ∀ (H : Heap) (locs : List Loc), LI dC dI G ax H → va_S A s.heap H locs → W p l e room_1 s m #[Value.ref b] below meth c H locs 129 4562 Q (F0 m 1381 ls [])) : W p l e room_1 s m #[Value.ref b] below meth c H locs 129 4562 Q (F0 m 362 ls []) := by
  obtain ⟨hx, hb, hml, hown, hg, hX, hbl, hbA, hK, hi, hAx, hA, hSS⟩ := C1
  obtain ⟨T, Y, fa, N, B, N1, B1, N2, B2, K, S, M, E, Z, hXI, hMI⟩ := hI
  refine lv_aload_n hx hb dL_law_362 rfl (lv_at hl 2 rfl) ?_
  refine lv_aload_n hx hb dL_law_363 rfl (lv_at hl 3 rfl) ?_
  refine lv_iload_n hx hb dL_law_364 rfl (lv_at hl 0 rfl) ?_
  refine lv_iconst (v := 1) hx hb dL_law_365 (by decide) ?_
  refine lv_iadd hx hb dL_law_366 ?_
  refine lv_cg (y := nI (5 * k + 1)) (by rw [show (1 : Int32) = nI 1 from rfl]; exact nI_add _ _) ?_
  refine va_sld hx hb hX hbl hbA hS (vp_in_nI (by omega) (by omega)) dL_law_367 ?_
  refine lv_cg (y := xs (5 * k + 1)) (by rw [nI_clamp (by omega)]) ?_
  refine lv_aload_n hx hb dL_law_368 rfl (lv_at hl 3 rfl) ?_
  refine lv_iload_n hx hb dL_law_369 rfl (lv_at hl 0 rfl) ?_
  refine lv_iconst (v := 2) hx hb dL_law_370 (by decide) ?_
  refine lv_iadd hx hb dL_law_371 ?_
  refine lv_cg (y := nI (5 * k + 2)) (by rw [show (2 : Int32) = nI 2 from rfl]; exact nI_add _ _) ?_
  refine va_sld hx hb hX hbl hbA hS (vp_in_nI (by omega) (by omega)) dL_law_372 ?_
  refine lv_cg (y := xs (5 * k + 2)) (by rw [nI_clamp (by omega)]) ?_
  refine va_calli (va_runV (As := [.int (xs (5 * k + 1)), .int (xs (5 * k + 2))]) (rest := []) ⟨hx, hb, hml, hown, hg⟩ (k_X10_bearer l dC dI G _ ax hi T Y fa N B N1 B1 N2 B2 K S M E Z (xs (5 * k + 1)) (xs (5 * k + 2))) (kwV hg mfX10_bearer wt_531 ⟨Nat.le_of_ble_eq_true rfl, Nat.le_of_ble_eq_true rfl⟩) (preVI hK hXI (hXI.recv hK)) rfl rfl hl.1 rfl (lv_room (Nat.le_of_ble_eq_true rfl)) dL_law_373 ⟨Nat.le_of_ble_eq_true rfl, Nat.le_of_ble_eq_true rfl⟩) hS (fun q _ h => ad_A hAx hA (by decide) hS q h) (ad_A hAx hA (by decide) hS) (fun r1 u1 t1 H1 locs1 ht1 hv1 w1 hB1 hz1 hk1 hS => ?_)
  have hMI := hMI.kept (fr_ad (lo := 0) (hi := 112) hi (by decide) (by decide) (by decide) hk1)
  have hXI : X10I dC dI G ax T Y fa N B N1 B1 N2 B2 K S M E Z H1 := by rw [← ht1]; exact hB1
  refine W.widen (k := 129) (n := 4562) (by omega) (by omega) ?_
  refine lv_pop hx hb dL_law_376 rfl ?_
  refine lv_aload_n hx hb dL_law_377 rfl (lv_at hl 1 rfl) ?_
  refine lv_aload_n hx hb dL_law_378 rfl (lv_at hl 3 rfl) ?_
  refine lv_iload_n hx hb dL_law_379 rfl (lv_at hl 0 rfl) ?_
  refine lv_iconst (v := 1) hx hb dL_law_380 (by decide) ?_
  refine lv_iadd hx hb dL_law_381 ?_
  refine lv_cg (y := nI (5 * k + 1)) (by rw [show (1 : Int32) = nI 1 from rfl]; exact nI_add _ _) ?_
  refine va_sld hx hb hX hbl hbA hS (vp_in_nI (by omega) (by omega)) dL_law_382 ?_
  refine lv_cg (y := xs (5 * k + 1)) (by rw [nI_clamp (by omega)]) ?_
  refine lv_aload_n hx hb dL_law_383 rfl (lv_at hl 3 rfl) ?_
  refine lv_iload_n hx hb dL_law_384 rfl (lv_at hl 0 rfl) ?_
  refine lv_iconst (v := 2) hx hb dL_law_385 (by decide) ?_
  refine lv_iadd hx hb dL_law_386 ?_
  refine lv_cg (y := nI (5 * k + 2)) (by rw [show (2 : Int32) = nI 2 from rfl]; exact nI_add _ _) ?_
  refine va_sld hx hb hX hbl hbA hS (vp_in_nI (by omega) (by omega)) dL_law_387 ?_
  refine lv_cg (y := xs (5 * k + 2)) (by rw [nI_clamp (by omega)]) ?_
  refine va_calli (va_runV (As := [.int (xs (5 * k + 1)), .int (xs (5 * k + 2))]) (rest := []) ⟨hx, hb, hml, hown, hg⟩ (k_X11_bearer l dC dI G _ ax hi T Y fa N B N1 B1 N2 B2 K S M E Z (xs (5 * k + 1)) (xs (5 * k + 2))) (kwV hg mfX11_bearer wt_1057 ⟨Nat.le_of_ble_eq_true rfl, Nat.le_of_ble_eq_true rfl⟩) (preVI hK hMI (hMI.recv hK)) rfl rfl hl.1 rfl (lv_room (Nat.le_of_ble_eq_true rfl)) dL_law_388 ⟨Nat.le_of_ble_eq_true rfl, Nat.le_of_ble_eq_true rfl⟩) hS (fun q _ h => ad_A hAx hA (by decide) hS q h) (ad_A hAx hA (by decide) hS) (fun r2 u2 t2 H2 locs2 ht2 hv2 w2 hB2 hz2 hk2 hS => ?_)
  have hXI := hXI.kept (fr_ad (lo := 112) (hi := 129) hi (by decide) (by decide) (by decide) hk2)
  have hMI : X11I dC dI G ax T Y fa N B N1 B1 N2 B2 K S M E Z H2 := by rw [← ht2]; exact hB2
  refine W.widen (k := 129) (n := 4562) (by omega) (by omega) ?_
  refine lv_pop hx hb dL_law_391 rfl ?_
  refine lv_goto (tgt := 1381) hx hb dL_law_392 (by decide) ?_
  exact kk _ _ ⟨_, _, _, _, _, _, _, _, _, _, _, _, _, _, hXI, hMI⟩ hS

set_option maxHeartbeats 1000000 in
set_option maxRecDepth 100000 in
theorem lc_start {p : Program} {l : Launch} {e : Env} {s : State} {m : MethodId} {below : List Frame} {meth : Method} {c : Code} {b L : Nat} {xs : Nat → Int32} {dC : Nat → ClassId} {dI : Nat → Nat → Nat} {G : Nat → ClassId} {ax adK adV : Nat → Nat} {A : Nat → Prop} {Q : State → Prop} (C1 : lw_C p s m c b L xs dC dI G ax adK adV A) {k : Nat} (hk : 5 * k + 5 ≤ L) (hL : L ≤ 2560) {H : Heap} {locs : List Loc} {ls : Array Slot} (hI : LI dC dI G ax H) (hS : va_S A s.heap H locs) (hl : lv_has ls 4 [(3, .int (nI (5 * k))), (2, .ref (ax 112)), (1, .ref (ax 0)), (0, .ref b)]) (kk : ∀ (H : Heap) (locs : List Loc), LI dC dI G ax H → va_S A s.heap H locs → W p l e room_1 s m #[Value.ref b] below meth c H locs 129 4562 Q (F0 m 1381 ls [])) : W p l e room_1 s m #[Value.ref b] below meth c H locs 129 4562 Q (F0 m 395 ls []) := by
  obtain ⟨hx, hb, hml, hown, hg, hX, hbl, hbA, hK, hi, hAx, hA, hSS⟩ := C1
  obtain ⟨T, Y, fa, N, B, N1, B1, N2, B2, K, S, M, E, Z, hXI, hMI⟩ := hI
  refine lv_aload_n hx hb dL_law_395 rfl (lv_at hl 2 rfl) ?_
  refine lv_aload_n hx hb dL_law_396 rfl (lv_at hl 3 rfl) ?_
  refine lv_iload_n hx hb dL_law_397 rfl (lv_at hl 0 rfl) ?_
  refine lv_iconst (v := 1) hx hb dL_law_398 (by decide) ?_
  refine lv_iadd hx hb dL_law_399 ?_
  refine lv_cg (y := nI (5 * k + 1)) (by rw [show (1 : Int32) = nI 1 from rfl]; exact nI_add _ _) ?_
  refine va_sld hx hb hX hbl hbA hS (vp_in_nI (by omega) (by omega)) dL_law_400 ?_
  refine lv_cg (y := xs (5 * k + 1)) (by rw [nI_clamp (by omega)]) ?_
  refine va_calli (va_runV (As := [.int (xs (5 * k + 1))]) (rest := []) ⟨hx, hb, hml, hown, hg⟩ (k_X10_start l dC dI G _ ax hi T Y fa N B N1 B1 N2 B2 K S M E Z (xs (5 * k + 1))) (kwV hg mfX10_start wt_539 ⟨Nat.le_of_ble_eq_true rfl, Nat.le_of_ble_eq_true rfl⟩) (preVI hK hXI (hXI.recv hK)) rfl rfl hl.1 rfl (lv_room (Nat.le_of_ble_eq_true rfl)) dL_law_401 ⟨Nat.le_of_ble_eq_true rfl, Nat.le_of_ble_eq_true rfl⟩) hS (fun q _ h => ad_A hAx hA (by decide) hS q h) (ad_A hAx hA (by decide) hS) (fun r1 u1 t1 H1 locs1 ht1 hv1 w1 hB1 hz1 hk1 hS => ?_)
  have hMI := hMI.kept (fr_ad (lo := 0) (hi := 112) hi (by decide) (by decide) (by decide) hk1)
  have hXI : X10I dC dI G ax T Y fa N B N1 B1 N2 B2 K S M E Z H1 := by rw [← ht1]; exact hB1
  refine W.widen (k := 129) (n := 4562) (by omega) (by omega) ?_
  refine lv_pop hx hb dL_law_404 rfl ?_
  refine lv_aload_n hx hb dL_law_405 rfl (lv_at hl 1 rfl) ?_
  refine lv_aload_n hx hb dL_law_406 rfl (lv_at hl 3 rfl) ?_
  refine lv_iload_n hx hb dL_law_407 rfl (lv_at hl 0 rfl) ?_
  refine lv_iconst (v := 1) hx hb dL_law_408 (by decide) ?_
  refine lv_iadd hx hb dL_law_409 ?_
  refine lv_cg (y := nI (5 * k + 1)) (by rw [show (1 : Int32) = nI 1 from rfl]; exact nI_add _ _) ?_
  refine va_sld hx hb hX hbl hbA hS (vp_in_nI (by omega) (by omega)) dL_law_410 ?_
  refine lv_cg (y := xs (5 * k + 1)) (by rw [nI_clamp (by omega)]) ?_
  refine va_calli (va_runV (As := [.int (xs (5 * k + 1))]) (rest := []) ⟨hx, hb, hml, hown, hg⟩ (k_X11_start l dC dI G _ ax hi T Y fa N B N1 B1 N2 B2 K S M E Z (xs (5 * k + 1))) (kwV hg mfX11_start wt_1065 ⟨Nat.le_of_ble_eq_true rfl, Nat.le_of_ble_eq_true rfl⟩) (preVI hK hMI (hMI.recv hK)) rfl rfl hl.1 rfl (lv_room (Nat.le_of_ble_eq_true rfl)) dL_law_411 ⟨Nat.le_of_ble_eq_true rfl, Nat.le_of_ble_eq_true rfl⟩) hS (fun q _ h => ad_A hAx hA (by decide) hS q h) (ad_A hAx hA (by decide) hS) (fun r2 u2 t2 H2 locs2 ht2 hv2 w2 hB2 hz2 hk2 hS => ?_)
  have hXI := hXI.kept (fr_ad (lo := 112) (hi := 129) hi (by decide) (by decide) (by decide) hk2)
  have hMI : X11I dC dI G ax T Y fa N B N1 B1 N2 B2 K S M E Z H2 := by rw [← ht2]; exact hB2
  refine W.widen (k := 129) (n := 4562) (by omega) (by omega) ?_
  refine lv_pop hx hb dL_law_414 rfl ?_
  refine lv_goto (tgt := 1381) hx hb dL_law_415 (by decide) ?_
  exact kk _ _ ⟨_, _, _, _, _, _, _, _, _, _, _, _, _, _, hXI, hMI⟩ hS

set_option maxHeartbeats 1000000 in
set_option maxRecDepth 100000 in
theorem lc_noise {p : Program} {l : Launch} {e : Env} {s : State} {m : MethodId} {below : List Frame} {meth : Method} {c : Code} {b L : Nat} {xs : Nat → Int32} {dC : Nat → ClassId} {dI : Nat → Nat → Nat} {G : Nat → ClassId} {ax adK adV : Nat → Nat} {A : Nat → Prop} {Q : State → Prop} (C1 : lw_C p s m c b L xs dC dI G ax adK adV A) {k : Nat} (hk : 5 * k + 5 ≤ L) (hL : L ≤ 2560) {H : Heap} {locs : List Loc} {ls : Array Slot} (hI : LI dC dI G ax H) (hS : va_S A s.heap H locs) (hl : lv_has ls 4 [(3, .int (nI (5 * k))), (2, .ref (ax 112)), (1, .ref (ax 0)), (0, .ref b)]) (kk : ∀ (H : Heap) (locs : List Loc), LI dC dI G ax H → va_S A s.heap H locs → W p l e room_1 s m #[Value.ref b] below meth c H locs 129 4562 Q (F0 m 1381 ls [])) : W p l e room_1 s m #[Value.ref b] below meth c H locs 129 4562 Q (F0 m 418 ls []) := by
  obtain ⟨hx, hb, hml, hown, hg, hX, hbl, hbA, hK, hi, hAx, hA, hSS⟩ := C1
  obtain ⟨T, Y, fa, N, B, N1, B1, N2, B2, K, S, M, E, Z, hXI, hMI⟩ := hI
  refine lv_aload_n hx hb dL_law_418 rfl (lv_at hl 2 rfl) ?_
  refine lv_aload_n hx hb dL_law_419 rfl (lv_at hl 3 rfl) ?_
  refine lv_iload_n hx hb dL_law_420 rfl (lv_at hl 0 rfl) ?_
  refine lv_iconst (v := 1) hx hb dL_law_421 (by decide) ?_
  refine lv_iadd hx hb dL_law_422 ?_
  refine lv_cg (y := nI (5 * k + 1)) (by rw [show (1 : Int32) = nI 1 from rfl]; exact nI_add _ _) ?_
  refine va_sld hx hb hX hbl hbA hS (vp_in_nI (by omega) (by omega)) dL_law_423 ?_
  refine lv_cg (y := xs (5 * k + 1)) (by rw [nI_clamp (by omega)]) ?_
  refine lv_aload_n hx hb dL_law_424 rfl (lv_at hl 3 rfl) ?_
  refine lv_iload_n hx hb dL_law_425 rfl (lv_at hl 0 rfl) ?_
  refine lv_iconst (v := 2) hx hb dL_law_426 (by decide) ?_
  refine lv_iadd hx hb dL_law_427 ?_
  refine lv_cg (y := nI (5 * k + 2)) (by rw [show (2 : Int32) = nI 2 from rfl]; exact nI_add _ _) ?_
  refine va_sld hx hb hX hbl hbA hS (vp_in_nI (by omega) (by omega)) dL_law_428 ?_
  refine lv_cg (y := xs (5 * k + 2)) (by rw [nI_clamp (by omega)]) ?_
  refine va_calli (va_runV (As := [.int (xs (5 * k + 1)), .int (xs (5 * k + 2))]) (rest := []) ⟨hx, hb, hml, hown, hg⟩ (k_X10_noise l dC dI G _ ax hi T Y fa N B N1 B1 N2 B2 K S M E Z (xs (5 * k + 1)) (xs (5 * k + 2))) (kwV hg mfX10_noise wt_543 ⟨Nat.le_of_ble_eq_true rfl, Nat.le_of_ble_eq_true rfl⟩) (preVI hK hXI (hXI.recv hK)) rfl rfl hl.1 rfl (lv_room (Nat.le_of_ble_eq_true rfl)) dL_law_429 ⟨Nat.le_of_ble_eq_true rfl, Nat.le_of_ble_eq_true rfl⟩) hS (fun q _ h => ad_A hAx hA (by decide) hS q h) (ad_A hAx hA (by decide) hS) (fun r1 u1 t1 H1 locs1 ht1 hv1 w1 hB1 hz1 hk1 hS => ?_)
  have hMI := hMI.kept (fr_ad (lo := 0) (hi := 112) hi (by decide) (by decide) (by decide) hk1)
  have hXI : X10I dC dI G ax T Y fa N B N1 B1 N2 B2 K S M E Z H1 := by rw [← ht1]; exact hB1
  refine W.widen (k := 129) (n := 4562) (by omega) (by omega) ?_
  refine lv_pop hx hb dL_law_432 rfl ?_
  refine lv_aload_n hx hb dL_law_433 rfl (lv_at hl 1 rfl) ?_
  refine lv_aload_n hx hb dL_law_434 rfl (lv_at hl 3 rfl) ?_
  refine lv_iload_n hx hb dL_law_435 rfl (lv_at hl 0 rfl) ?_
  refine lv_iconst (v := 1) hx hb dL_law_436 (by decide) ?_
  refine lv_iadd hx hb dL_law_437 ?_
  refine lv_cg (y := nI (5 * k + 1)) (by rw [show (1 : Int32) = nI 1 from rfl]; exact nI_add _ _) ?_
  refine va_sld hx hb hX hbl hbA hS (vp_in_nI (by omega) (by omega)) dL_law_438 ?_
  refine lv_cg (y := xs (5 * k + 1)) (by rw [nI_clamp (by omega)]) ?_
  refine lv_aload_n hx hb dL_law_439 rfl (lv_at hl 3 rfl) ?_
  refine lv_iload_n hx hb dL_law_440 rfl (lv_at hl 0 rfl) ?_
  refine lv_iconst (v := 2) hx hb dL_law_441 (by decide) ?_
  refine lv_iadd hx hb dL_law_442 ?_
  refine lv_cg (y := nI (5 * k + 2)) (by rw [show (2 : Int32) = nI 2 from rfl]; exact nI_add _ _) ?_
  refine va_sld hx hb hX hbl hbA hS (vp_in_nI (by omega) (by omega)) dL_law_443 ?_
  refine lv_cg (y := xs (5 * k + 2)) (by rw [nI_clamp (by omega)]) ?_
  refine va_calli (va_runV (As := [.int (xs (5 * k + 1)), .int (xs (5 * k + 2))]) (rest := []) ⟨hx, hb, hml, hown, hg⟩ (k_X11_noise l dC dI G _ ax hi T Y fa N B N1 B1 N2 B2 K S M E Z (xs (5 * k + 1)) (xs (5 * k + 2))) (kwV hg mfX11_noise wt_1074 ⟨Nat.le_of_ble_eq_true rfl, Nat.le_of_ble_eq_true rfl⟩) (preVI hK hMI (hMI.recv hK)) rfl rfl hl.1 rfl (lv_room (Nat.le_of_ble_eq_true rfl)) dL_law_444 ⟨Nat.le_of_ble_eq_true rfl, Nat.le_of_ble_eq_true rfl⟩) hS (fun q _ h => ad_A hAx hA (by decide) hS q h) (ad_A hAx hA (by decide) hS) (fun r2 u2 t2 H2 locs2 ht2 hv2 w2 hB2 hz2 hk2 hS => ?_)
  have hXI := hXI.kept (fr_ad (lo := 112) (hi := 129) hi (by decide) (by decide) (by decide) hk2)
  have hMI : X11I dC dI G ax T Y fa N B N1 B1 N2 B2 K S M E Z H2 := by rw [← ht2]; exact hB2
  refine W.widen (k := 129) (n := 4562) (by omega) (by omega) ?_
  refine lv_pop hx hb dL_law_447 rfl ?_
  refine lv_goto (tgt := 1381) hx hb dL_law_448 (by decide) ?_
  exact kk _ _ ⟨_, _, _, _, _, _, _, _, _, _, _, _, _, _, hXI, hMI⟩ hS

set_option maxHeartbeats 1000000 in
set_option maxRecDepth 100000 in
theorem lc_cold {p : Program} {l : Launch} {e : Env} {s : State} {m : MethodId} {below : List Frame} {meth : Method} {c : Code} {b L : Nat} {xs : Nat → Int32} {dC : Nat → ClassId} {dI : Nat → Nat → Nat} {G : Nat → ClassId} {ax adK adV : Nat → Nat} {A : Nat → Prop} {Q : State → Prop} (C1 : lw_C p s m c b L xs dC dI G ax adK adV A) {k : Nat} (hk : 5 * k + 5 ≤ L) (hL : L ≤ 2560) {H : Heap} {locs : List Loc} {ls : Array Slot} (hI : LI dC dI G ax H) (hS : va_S A s.heap H locs) (hl : lv_has ls 4 [(3, .int (nI (5 * k))), (2, .ref (ax 112)), (1, .ref (ax 0)), (0, .ref b)]) (kk : ∀ (H : Heap) (locs : List Loc), LI dC dI G ax H → va_S A s.heap H locs → W p l e room_1 s m #[Value.ref b] below meth c H locs 129 4562 Q (F0 m 1381 ls [])) : W p l e room_1 s m #[Value.ref b] below meth c H locs 129 4562 Q (F0 m 451 ls []) := by
  obtain ⟨hx, hb, hml, hown, hg, hX, hbl, hbA, hK, hi, hAx, hA, hSS⟩ := C1
  obtain ⟨T, Y, fa, N, B, N1, B1, N2, B2, K, S, M, E, Z, hXI, hMI⟩ := hI
  refine lv_aload_n hx hb dL_law_451 rfl (lv_at hl 2 rfl) ?_
  refine lv_aload_n hx hb dL_law_452 rfl (lv_at hl 3 rfl) ?_
  refine lv_iload_n hx hb dL_law_453 rfl (lv_at hl 0 rfl) ?_
  refine lv_iconst (v := 1) hx hb dL_law_454 (by decide) ?_
  refine lv_iadd hx hb dL_law_455 ?_
  refine lv_cg (y := nI (5 * k + 1)) (by rw [show (1 : Int32) = nI 1 from rfl]; exact nI_add _ _) ?_
  refine va_sld hx hb hX hbl hbA hS (vp_in_nI (by omega) (by omega)) dL_law_456 ?_
  refine lv_cg (y := xs (5 * k + 1)) (by rw [nI_clamp (by omega)]) ?_
  refine lv_aload_n hx hb dL_law_457 rfl (lv_at hl 3 rfl) ?_
  refine lv_iload_n hx hb dL_law_458 rfl (lv_at hl 0 rfl) ?_
  refine lv_iconst (v := 2) hx hb dL_law_459 (by decide) ?_
  refine lv_iadd hx hb dL_law_460 ?_
  refine lv_cg (y := nI (5 * k + 2)) (by rw [show (2 : Int32) = nI 2 from rfl]; exact nI_add _ _) ?_
  refine va_sld hx hb hX hbl hbA hS (vp_in_nI (by omega) (by omega)) dL_law_461 ?_
  refine lv_cg (y := xs (5 * k + 2)) (by rw [nI_clamp (by omega)]) ?_
  refine va_calli (va_runV (As := [.int (xs (5 * k + 1)), .int (xs (5 * k + 2))]) (rest := []) ⟨hx, hb, hml, hown, hg⟩ (k_X10_cold l dC dI G _ ax hi T Y fa N B N1 B1 N2 B2 K S M E Z (xs (5 * k + 1)) (xs (5 * k + 2))) (kwV hg mfX10_cold wt_550 ⟨Nat.le_of_ble_eq_true rfl, Nat.le_of_ble_eq_true rfl⟩) (preVI hK hXI (hXI.recv hK)) rfl rfl hl.1 rfl (lv_room (Nat.le_of_ble_eq_true rfl)) dL_law_462 ⟨Nat.le_of_ble_eq_true rfl, Nat.le_of_ble_eq_true rfl⟩) hS (fun q _ h => ad_A hAx hA (by decide) hS q h) (ad_A hAx hA (by decide) hS) (fun r1 u1 t1 H1 locs1 ht1 hv1 w1 hB1 hz1 hk1 hS => ?_)
  have hMI := hMI.kept (fr_ad (lo := 0) (hi := 112) hi (by decide) (by decide) (by decide) hk1)
  have hXI : X10I dC dI G ax T Y fa N B N1 B1 N2 B2 K S M E Z H1 := by rw [← ht1]; exact hB1
  refine W.widen (k := 129) (n := 4562) (by omega) (by omega) ?_
  refine lv_pop hx hb dL_law_465 rfl ?_
  refine lv_aload_n hx hb dL_law_466 rfl (lv_at hl 1 rfl) ?_
  refine lv_aload_n hx hb dL_law_467 rfl (lv_at hl 3 rfl) ?_
  refine lv_iload_n hx hb dL_law_468 rfl (lv_at hl 0 rfl) ?_
  refine lv_iconst (v := 1) hx hb dL_law_469 (by decide) ?_
  refine lv_iadd hx hb dL_law_470 ?_
  refine lv_cg (y := nI (5 * k + 1)) (by rw [show (1 : Int32) = nI 1 from rfl]; exact nI_add _ _) ?_
  refine va_sld hx hb hX hbl hbA hS (vp_in_nI (by omega) (by omega)) dL_law_471 ?_
  refine lv_cg (y := xs (5 * k + 1)) (by rw [nI_clamp (by omega)]) ?_
  refine lv_aload_n hx hb dL_law_472 rfl (lv_at hl 3 rfl) ?_
  refine lv_iload_n hx hb dL_law_473 rfl (lv_at hl 0 rfl) ?_
  refine lv_iconst (v := 2) hx hb dL_law_474 (by decide) ?_
  refine lv_iadd hx hb dL_law_475 ?_
  refine lv_cg (y := nI (5 * k + 2)) (by rw [show (2 : Int32) = nI 2 from rfl]; exact nI_add _ _) ?_
  refine va_sld hx hb hX hbl hbA hS (vp_in_nI (by omega) (by omega)) dL_law_476 ?_
  refine lv_cg (y := xs (5 * k + 2)) (by rw [nI_clamp (by omega)]) ?_
  refine va_calli (va_runV (As := [.int (xs (5 * k + 1)), .int (xs (5 * k + 2))]) (rest := []) ⟨hx, hb, hml, hown, hg⟩ (k_X11_cold l dC dI G _ ax hi T Y fa N B N1 B1 N2 B2 K S M E Z (xs (5 * k + 1)) (xs (5 * k + 2))) (kwV hg mfX11_cold wt_1078 ⟨Nat.le_of_ble_eq_true rfl, Nat.le_of_ble_eq_true rfl⟩) (preVI hK hMI (hMI.recv hK)) rfl rfl hl.1 rfl (lv_room (Nat.le_of_ble_eq_true rfl)) dL_law_477 ⟨Nat.le_of_ble_eq_true rfl, Nat.le_of_ble_eq_true rfl⟩) hS (fun q _ h => ad_A hAx hA (by decide) hS q h) (ad_A hAx hA (by decide) hS) (fun r2 u2 t2 H2 locs2 ht2 hv2 w2 hB2 hz2 hk2 hS => ?_)
  have hXI := hXI.kept (fr_ad (lo := 112) (hi := 129) hi (by decide) (by decide) (by decide) hk2)
  have hMI : X11I dC dI G ax T Y fa N B N1 B1 N2 B2 K S M E Z H2 := by rw [← ht2]; exact hB2
  refine W.widen (k := 129) (n := 4562) (by omega) (by omega) ?_
  refine lv_pop hx hb dL_law_480 rfl ?_
  refine lv_goto (tgt := 1381) hx hb dL_law_481 (by decide) ?_
  exact kk _ _ ⟨_, _, _, _, _, _, _, _, _, _, _, _, _, _, hXI, hMI⟩ hS

set_option maxHeartbeats 1000000 in
set_option maxRecDepth 100000 in
theorem lc_step {p : Program} {l : Launch} {e : Env} {s : State} {m : MethodId} {below : List Frame} {meth : Method} {c : Code} {b L : Nat} {xs : Nat → Int32} {dC : Nat → ClassId} {dI : Nat → Nat → Nat} {G : Nat → ClassId} {ax adK adV : Nat → Nat} {A : Nat → Prop} {Q : State → Prop} (C1 : lw_C p s m c b L xs dC dI G ax adK adV A) {k : Nat} (hk : 5 * k + 5 ≤ L) (hL : L ≤ 2560) {H : Heap} {locs : List Loc} {ls : Array Slot} (hI : LI dC dI G ax H) (hS : va_S A s.heap H locs) (hl : lv_has ls 4 [(3, .int (nI (5 * k))), (2, .ref (ax 112)), (1, .ref (ax 0)), (0, .ref b)]) (kk : ∀ (H : Heap) (locs : List Loc), LI dC dI G ax H → va_S A s.heap H locs → W p l e room_1 s m #[Value.ref b] below meth c H locs 129 4562 Q (F0 m 1381 ls [])) : W p l e room_1 s m #[Value.ref b] below meth c H locs 129 4562 Q (F0 m 484 ls []) := by
  obtain ⟨hx, hb, hml, hown, hg, hX, hbl, hbA, hK, hi, hAx, hA, hSS⟩ := C1
  obtain ⟨T, Y, fa, N, B, N1, B1, N2, B2, K, S, M, E, Z, hXI, hMI⟩ := hI
  refine lv_aload_n hx hb dL_law_484 rfl (lv_at hl 2 rfl) ?_
  refine lv_aload_n hx hb dL_law_485 rfl (lv_at hl 3 rfl) ?_
  refine lv_iload_n hx hb dL_law_486 rfl (lv_at hl 0 rfl) ?_
  refine lv_iconst (v := 1) hx hb dL_law_487 (by decide) ?_
  refine lv_iadd hx hb dL_law_488 ?_
  refine lv_cg (y := nI (5 * k + 1)) (by rw [show (1 : Int32) = nI 1 from rfl]; exact nI_add _ _) ?_
  refine va_sld hx hb hX hbl hbA hS (vp_in_nI (by omega) (by omega)) dL_law_489 ?_
  refine lv_cg (y := xs (5 * k + 1)) (by rw [nI_clamp (by omega)]) ?_
  refine lv_aload_n hx hb dL_law_490 rfl (lv_at hl 3 rfl) ?_
  refine lv_iload_n hx hb dL_law_491 rfl (lv_at hl 0 rfl) ?_
  refine lv_iconst (v := 2) hx hb dL_law_492 (by decide) ?_
  refine lv_iadd hx hb dL_law_493 ?_
  refine lv_cg (y := nI (5 * k + 2)) (by rw [show (2 : Int32) = nI 2 from rfl]; exact nI_add _ _) ?_
  refine va_sld hx hb hX hbl hbA hS (vp_in_nI (by omega) (by omega)) dL_law_494 ?_
  refine lv_cg (y := xs (5 * k + 2)) (by rw [nI_clamp (by omega)]) ?_
  refine va_calli (va_runV (As := [.int (xs (5 * k + 1)), .int (xs (5 * k + 2))]) (rest := []) ⟨hx, hb, hml, hown, hg⟩ (k_X10_step l dC dI G _ ax hi T Y fa N B N1 B1 N2 B2 K S M E Z (xs (5 * k + 1)) (xs (5 * k + 2))) (kwV hg mfX10_step wt_554 ⟨Nat.le_of_ble_eq_true rfl, Nat.le_of_ble_eq_true rfl⟩) (preVI hK hXI (hXI.recv hK)) rfl rfl hl.1 rfl (lv_room (Nat.le_of_ble_eq_true rfl)) dL_law_495 ⟨Nat.le_of_ble_eq_true rfl, Nat.le_of_ble_eq_true rfl⟩) hS (fun q _ h => ad_A hAx hA (by decide) hS q h) (ad_A hAx hA (by decide) hS) (fun r1 u1 t1 H1 locs1 ht1 hv1 w1 hB1 hz1 hk1 hS => ?_)
  have hMI := hMI.kept (fr_ad (lo := 0) (hi := 112) hi (by decide) (by decide) (by decide) hk1)
  have hXI : X10I dC dI G ax T Y fa N B N1 B1 N2 B2 K S M E Z H1 := by rw [← ht1]; exact hB1
  refine W.widen (k := 129) (n := 4562) (by omega) (by omega) ?_
  refine lv_pop hx hb dL_law_498 rfl ?_
  refine lv_aload_n hx hb dL_law_499 rfl (lv_at hl 1 rfl) ?_
  refine lv_aload_n hx hb dL_law_500 rfl (lv_at hl 3 rfl) ?_
  refine lv_iload_n hx hb dL_law_501 rfl (lv_at hl 0 rfl) ?_
  refine lv_iconst (v := 1) hx hb dL_law_502 (by decide) ?_
  refine lv_iadd hx hb dL_law_503 ?_
  refine lv_cg (y := nI (5 * k + 1)) (by rw [show (1 : Int32) = nI 1 from rfl]; exact nI_add _ _) ?_
  refine va_sld hx hb hX hbl hbA hS (vp_in_nI (by omega) (by omega)) dL_law_504 ?_
  refine lv_cg (y := xs (5 * k + 1)) (by rw [nI_clamp (by omega)]) ?_
  refine lv_aload_n hx hb dL_law_505 rfl (lv_at hl 3 rfl) ?_
  refine lv_iload_n hx hb dL_law_506 rfl (lv_at hl 0 rfl) ?_
  refine lv_iconst (v := 2) hx hb dL_law_507 (by decide) ?_
  refine lv_iadd hx hb dL_law_508 ?_
  refine lv_cg (y := nI (5 * k + 2)) (by rw [show (2 : Int32) = nI 2 from rfl]; exact nI_add _ _) ?_
  refine va_sld hx hb hX hbl hbA hS (vp_in_nI (by omega) (by omega)) dL_law_509 ?_
  refine lv_cg (y := xs (5 * k + 2)) (by rw [nI_clamp (by omega)]) ?_
  refine va_calli (va_runV (As := [.int (xs (5 * k + 1)), .int (xs (5 * k + 2))]) (rest := []) ⟨hx, hb, hml, hown, hg⟩ (k_X11_step l dC dI G _ ax hi T Y fa N B N1 B1 N2 B2 K S M E Z (xs (5 * k + 1)) (xs (5 * k + 2))) (kwV hg mfX11_step wt_1082 ⟨Nat.le_of_ble_eq_true rfl, Nat.le_of_ble_eq_true rfl⟩) (preVI hK hMI (hMI.recv hK)) rfl rfl hl.1 rfl (lv_room (Nat.le_of_ble_eq_true rfl)) dL_law_510 ⟨Nat.le_of_ble_eq_true rfl, Nat.le_of_ble_eq_true rfl⟩) hS (fun q _ h => ad_A hAx hA (by decide) hS q h) (ad_A hAx hA (by decide) hS) (fun r2 u2 t2 H2 locs2 ht2 hv2 w2 hB2 hz2 hk2 hS => ?_)
  have hXI := hXI.kept (fr_ad (lo := 112) (hi := 129) hi (by decide) (by decide) (by decide) hk2)
  have hMI : X11I dC dI G ax T Y fa N B N1 B1 N2 B2 K S M E Z H2 := by rw [← ht2]; exact hB2
  refine W.widen (k := 129) (n := 4562) (by omega) (by omega) ?_
  refine lv_pop hx hb dL_law_513 rfl ?_
  refine lv_goto (tgt := 1381) hx hb dL_law_514 (by decide) ?_
  exact kk _ _ ⟨_, _, _, _, _, _, _, _, _, _, _, _, _, _, hXI, hMI⟩ hS

set_option maxHeartbeats 1000000 in
set_option maxRecDepth 100000 in
theorem lc_warm {p : Program} {l : Launch} {e : Env} {s : State} {m : MethodId} {below : List Frame} {meth : Method} {c : Code} {b L : Nat} {xs : Nat → Int32} {dC : Nat → ClassId} {dI : Nat → Nat → Nat} {G : Nat → ClassId} {ax adK adV : Nat → Nat} {A : Nat → Prop} {Q : State → Prop} (C1 : lw_C p s m c b L xs dC dI G ax adK adV A) {k : Nat} (hk : 5 * k + 5 ≤ L) (hL : L ≤ 2560) {H : Heap} {locs : List Loc} {ls : Array Slot} (hI : LI dC dI G ax H) (hS : va_S A s.heap H locs) (hl : lv_has ls 4 [(3, .int (nI (5 * k))), (2, .ref (ax 112)), (1, .ref (ax 0)), (0, .ref b)]) (kk : ∀ (H : Heap) (locs : List Loc), LI dC dI G ax H → va_S A s.heap H locs → W p l e room_1 s m #[Value.ref b] below meth c H locs 129 4562 Q (F0 m 1381 ls [])) : W p l e room_1 s m #[Value.ref b] below meth c H locs 129 4562 Q (F0 m 517 ls []) := by
  obtain ⟨hx, hb, hml, hown, hg, hX, hbl, hbA, hK, hi, hAx, hA, hSS⟩ := C1
  obtain ⟨T, Y, fa, N, B, N1, B1, N2, B2, K, S, M, E, Z, hXI, hMI⟩ := hI
  refine lv_aload_n hx hb dL_law_517 rfl (lv_at hl 2 rfl) ?_
  refine lv_aload_n hx hb dL_law_518 rfl (lv_at hl 3 rfl) ?_
  refine lv_iload_n hx hb dL_law_519 rfl (lv_at hl 0 rfl) ?_
  refine lv_iconst (v := 1) hx hb dL_law_520 (by decide) ?_
  refine lv_iadd hx hb dL_law_521 ?_
  refine lv_cg (y := nI (5 * k + 1)) (by rw [show (1 : Int32) = nI 1 from rfl]; exact nI_add _ _) ?_
  refine va_sld hx hb hX hbl hbA hS (vp_in_nI (by omega) (by omega)) dL_law_522 ?_
  refine lv_cg (y := xs (5 * k + 1)) (by rw [nI_clamp (by omega)]) ?_
  refine lv_aload_n hx hb dL_law_523 rfl (lv_at hl 3 rfl) ?_
  refine lv_iload_n hx hb dL_law_524 rfl (lv_at hl 0 rfl) ?_
  refine lv_iconst (v := 2) hx hb dL_law_525 (by decide) ?_
  refine lv_iadd hx hb dL_law_526 ?_
  refine lv_cg (y := nI (5 * k + 2)) (by rw [show (2 : Int32) = nI 2 from rfl]; exact nI_add _ _) ?_
  refine va_sld hx hb hX hbl hbA hS (vp_in_nI (by omega) (by omega)) dL_law_527 ?_
  refine lv_cg (y := xs (5 * k + 2)) (by rw [nI_clamp (by omega)]) ?_
  refine va_calli (va_runV (As := [.int (xs (5 * k + 1)), .int (xs (5 * k + 2))]) (rest := []) ⟨hx, hb, hml, hown, hg⟩ (k_X10_warm l dC dI G _ ax hi T Y fa N B N1 B1 N2 B2 K S M E Z (xs (5 * k + 1)) (xs (5 * k + 2))) (kwV hg mfX10_warm wt_558 ⟨Nat.le_of_ble_eq_true rfl, Nat.le_of_ble_eq_true rfl⟩) (preVI hK hXI (hXI.recv hK)) rfl rfl hl.1 rfl (lv_room (Nat.le_of_ble_eq_true rfl)) dL_law_528 ⟨Nat.le_of_ble_eq_true rfl, Nat.le_of_ble_eq_true rfl⟩) hS (fun q _ h => ad_A hAx hA (by decide) hS q h) (ad_A hAx hA (by decide) hS) (fun r1 u1 t1 H1 locs1 ht1 hv1 w1 hB1 hz1 hk1 hS => ?_)
  have hMI := hMI.kept (fr_ad (lo := 0) (hi := 112) hi (by decide) (by decide) (by decide) hk1)
  have hXI : X10I dC dI G ax T Y fa N B N1 B1 N2 B2 K S M E Z H1 := by rw [← ht1]; exact hB1
  refine W.widen (k := 129) (n := 4562) (by omega) (by omega) ?_
  refine lv_pop hx hb dL_law_531 rfl ?_
  refine lv_aload_n hx hb dL_law_532 rfl (lv_at hl 1 rfl) ?_
  refine lv_aload_n hx hb dL_law_533 rfl (lv_at hl 3 rfl) ?_
  refine lv_iload_n hx hb dL_law_534 rfl (lv_at hl 0 rfl) ?_
  refine lv_iconst (v := 1) hx hb dL_law_535 (by decide) ?_
  refine lv_iadd hx hb dL_law_536 ?_
  refine lv_cg (y := nI (5 * k + 1)) (by rw [show (1 : Int32) = nI 1 from rfl]; exact nI_add _ _) ?_
  refine va_sld hx hb hX hbl hbA hS (vp_in_nI (by omega) (by omega)) dL_law_537 ?_
  refine lv_cg (y := xs (5 * k + 1)) (by rw [nI_clamp (by omega)]) ?_
  refine lv_aload_n hx hb dL_law_538 rfl (lv_at hl 3 rfl) ?_
  refine lv_iload_n hx hb dL_law_539 rfl (lv_at hl 0 rfl) ?_
  refine lv_iconst (v := 2) hx hb dL_law_540 (by decide) ?_
  refine lv_iadd hx hb dL_law_541 ?_
  refine lv_cg (y := nI (5 * k + 2)) (by rw [show (2 : Int32) = nI 2 from rfl]; exact nI_add _ _) ?_
  refine va_sld hx hb hX hbl hbA hS (vp_in_nI (by omega) (by omega)) dL_law_542 ?_
  refine lv_cg (y := xs (5 * k + 2)) (by rw [nI_clamp (by omega)]) ?_
  refine va_calli (va_runV (As := [.int (xs (5 * k + 1)), .int (xs (5 * k + 2))]) (rest := []) ⟨hx, hb, hml, hown, hg⟩ (k_X11_warm l dC dI G _ ax hi T Y fa N B N1 B1 N2 B2 K S M E Z (xs (5 * k + 1)) (xs (5 * k + 2))) (kwV hg mfX11_warm wt_1086 ⟨Nat.le_of_ble_eq_true rfl, Nat.le_of_ble_eq_true rfl⟩) (preVI hK hMI (hMI.recv hK)) rfl rfl hl.1 rfl (lv_room (Nat.le_of_ble_eq_true rfl)) dL_law_543 ⟨Nat.le_of_ble_eq_true rfl, Nat.le_of_ble_eq_true rfl⟩) hS (fun q _ h => ad_A hAx hA (by decide) hS q h) (ad_A hAx hA (by decide) hS) (fun r2 u2 t2 H2 locs2 ht2 hv2 w2 hB2 hz2 hk2 hS => ?_)
  have hXI := hXI.kept (fr_ad (lo := 112) (hi := 129) hi (by decide) (by decide) (by decide) hk2)
  have hMI : X11I dC dI G ax T Y fa N B N1 B1 N2 B2 K S M E Z H2 := by rw [← ht2]; exact hB2
  refine W.widen (k := 129) (n := 4562) (by omega) (by omega) ?_
  refine lv_pop hx hb dL_law_546 rfl ?_
  refine lv_goto (tgt := 1381) hx hb dL_law_547 (by decide) ?_
  exact kk _ _ ⟨_, _, _, _, _, _, _, _, _, _, _, _, _, _, hXI, hMI⟩ hS

set_option maxHeartbeats 1000000 in
set_option maxRecDepth 100000 in
theorem lc_put {p : Program} {l : Launch} {e : Env} {s : State} {m : MethodId} {below : List Frame} {meth : Method} {c : Code} {b L : Nat} {xs : Nat → Int32} {dC : Nat → ClassId} {dI : Nat → Nat → Nat} {G : Nat → ClassId} {ax adK adV : Nat → Nat} {A : Nat → Prop} {Q : State → Prop} (C1 : lw_C p s m c b L xs dC dI G ax adK adV A) {k : Nat} (hk : 5 * k + 5 ≤ L) (hL : L ≤ 2560) {H : Heap} {locs : List Loc} {ls : Array Slot} (hI : LI dC dI G ax H) (hS : va_S A s.heap H locs) (hl : lv_has ls 4 [(3, .int (nI (5 * k))), (2, .ref (ax 112)), (1, .ref (ax 0)), (0, .ref b)]) (kk : ∀ (H : Heap) (locs : List Loc), LI dC dI G ax H → va_S A s.heap H locs → W p l e room_1 s m #[Value.ref b] below meth c H locs 129 4562 Q (F0 m 1381 ls [])) : W p l e room_1 s m #[Value.ref b] below meth c H locs 129 4562 Q (F0 m 550 ls []) := by
  obtain ⟨hx, hb, hml, hown, hg, hX, hbl, hbA, hK, hi, hAx, hA, hSS⟩ := C1
  obtain ⟨T, Y, fa, N, B, N1, B1, N2, B2, K, S, M, E, Z, hXI, hMI⟩ := hI
  refine lv_aload_n hx hb dL_law_550 rfl (lv_at hl 2 rfl) ?_
  refine lv_aload_n hx hb dL_law_551 rfl (lv_at hl 3 rfl) ?_
  refine lv_iload_n hx hb dL_law_552 rfl (lv_at hl 0 rfl) ?_
  refine lv_iconst (v := 1) hx hb dL_law_553 (by decide) ?_
  refine lv_iadd hx hb dL_law_554 ?_
  refine lv_cg (y := nI (5 * k + 1)) (by rw [show (1 : Int32) = nI 1 from rfl]; exact nI_add _ _) ?_
  refine va_sld hx hb hX hbl hbA hS (vp_in_nI (by omega) (by omega)) dL_law_555 ?_
  refine lv_cg (y := xs (5 * k + 1)) (by rw [nI_clamp (by omega)]) ?_
  refine lv_aload_n hx hb dL_law_556 rfl (lv_at hl 3 rfl) ?_
  refine lv_iload_n hx hb dL_law_557 rfl (lv_at hl 0 rfl) ?_
  refine lv_iconst (v := 2) hx hb dL_law_558 (by decide) ?_
  refine lv_iadd hx hb dL_law_559 ?_
  refine lv_cg (y := nI (5 * k + 2)) (by rw [show (2 : Int32) = nI 2 from rfl]; exact nI_add _ _) ?_
  refine va_sld hx hb hX hbl hbA hS (vp_in_nI (by omega) (by omega)) dL_law_560 ?_
  refine lv_cg (y := xs (5 * k + 2)) (by rw [nI_clamp (by omega)]) ?_
  refine va_calli (va_runV (As := [.int (xs (5 * k + 1)), .int (xs (5 * k + 2))]) (rest := []) ⟨hx, hb, hml, hown, hg⟩ (k_X10_put l dC dI G _ ax hi T Y fa N B N1 B1 N2 B2 K S M E Z (xs (5 * k + 1)) (xs (5 * k + 2))) (kwV hg mfX10_put wt_562 ⟨Nat.le_of_ble_eq_true rfl, Nat.le_of_ble_eq_true rfl⟩) (preVI hK hXI (hXI.recv hK)) rfl rfl hl.1 rfl (lv_room (Nat.le_of_ble_eq_true rfl)) dL_law_561 ⟨Nat.le_of_ble_eq_true rfl, Nat.le_of_ble_eq_true rfl⟩) hS (fun q _ h => ad_A hAx hA (by decide) hS q h) (ad_A hAx hA (by decide) hS) (fun r1 u1 t1 H1 locs1 ht1 hv1 w1 hB1 hz1 hk1 hS => ?_)
  have hMI := hMI.kept (fr_ad (lo := 0) (hi := 112) hi (by decide) (by decide) (by decide) hk1)
  have hXI : X10I dC dI G ax T Y fa N B N1 B1 N2 B2 K S M E Z H1 := by rw [← ht1]; exact hB1
  refine W.widen (k := 129) (n := 4562) (by omega) (by omega) ?_
  refine lv_pop hx hb dL_law_564 rfl ?_
  refine lv_aload_n hx hb dL_law_565 rfl (lv_at hl 1 rfl) ?_
  refine lv_aload_n hx hb dL_law_566 rfl (lv_at hl 3 rfl) ?_
  refine lv_iload_n hx hb dL_law_567 rfl (lv_at hl 0 rfl) ?_
  refine lv_iconst (v := 1) hx hb dL_law_568 (by decide) ?_
  refine lv_iadd hx hb dL_law_569 ?_
  refine lv_cg (y := nI (5 * k + 1)) (by rw [show (1 : Int32) = nI 1 from rfl]; exact nI_add _ _) ?_
  refine va_sld hx hb hX hbl hbA hS (vp_in_nI (by omega) (by omega)) dL_law_570 ?_
  refine lv_cg (y := xs (5 * k + 1)) (by rw [nI_clamp (by omega)]) ?_
  refine lv_aload_n hx hb dL_law_571 rfl (lv_at hl 3 rfl) ?_
  refine lv_iload_n hx hb dL_law_572 rfl (lv_at hl 0 rfl) ?_
  refine lv_iconst (v := 2) hx hb dL_law_573 (by decide) ?_
  refine lv_iadd hx hb dL_law_574 ?_
  refine lv_cg (y := nI (5 * k + 2)) (by rw [show (2 : Int32) = nI 2 from rfl]; exact nI_add _ _) ?_
  refine va_sld hx hb hX hbl hbA hS (vp_in_nI (by omega) (by omega)) dL_law_575 ?_
  refine lv_cg (y := xs (5 * k + 2)) (by rw [nI_clamp (by omega)]) ?_
  refine va_calli (va_runV (As := [.int (xs (5 * k + 1)), .int (xs (5 * k + 2))]) (rest := []) ⟨hx, hb, hml, hown, hg⟩ (k_X11_put l dC dI G _ ax hi T Y fa N B N1 B1 N2 B2 K S M E Z (xs (5 * k + 1)) (xs (5 * k + 2))) (kwV hg mfX11_put wt_1090 ⟨Nat.le_of_ble_eq_true rfl, Nat.le_of_ble_eq_true rfl⟩) (preVI hK hMI (hMI.recv hK)) rfl rfl hl.1 rfl (lv_room (Nat.le_of_ble_eq_true rfl)) dL_law_576 ⟨Nat.le_of_ble_eq_true rfl, Nat.le_of_ble_eq_true rfl⟩) hS (fun q _ h => ad_A hAx hA (by decide) hS q h) (ad_A hAx hA (by decide) hS) (fun r2 u2 t2 H2 locs2 ht2 hv2 w2 hB2 hz2 hk2 hS => ?_)
  have hXI := hXI.kept (fr_ad (lo := 112) (hi := 129) hi (by decide) (by decide) (by decide) hk2)
  have hMI : X11I dC dI G ax T Y fa N B N1 B1 N2 B2 K S M E Z H2 := by rw [← ht2]; exact hB2
  refine W.widen (k := 129) (n := 4562) (by omega) (by omega) ?_
  refine lv_pop hx hb dL_law_579 rfl ?_
  refine lv_goto (tgt := 1381) hx hb dL_law_580 (by decide) ?_
  exact kk _ _ ⟨_, _, _, _, _, _, _, _, _, _, _, _, _, _, hXI, hMI⟩ hS

set_option maxHeartbeats 1000000 in
set_option maxRecDepth 100000 in
theorem lc_harm {p : Program} {l : Launch} {e : Env} {s : State} {m : MethodId} {below : List Frame} {meth : Method} {c : Code} {b L : Nat} {xs : Nat → Int32} {dC : Nat → ClassId} {dI : Nat → Nat → Nat} {G : Nat → ClassId} {ax adK adV : Nat → Nat} {A : Nat → Prop} {Q : State → Prop} (C1 : lw_C p s m c b L xs dC dI G ax adK adV A) {k : Nat} (hk : 5 * k + 5 ≤ L) (hL : L ≤ 2560) {H : Heap} {locs : List Loc} {ls : Array Slot} (hI : LI dC dI G ax H) (hS : va_S A s.heap H locs) (hl : lv_has ls 4 [(3, .int (nI (5 * k))), (2, .ref (ax 112)), (1, .ref (ax 0)), (0, .ref b)]) (kk : ∀ (H : Heap) (locs : List Loc), LI dC dI G ax H → va_S A s.heap H locs → W p l e room_1 s m #[Value.ref b] below meth c H locs 129 4562 Q (F0 m 1381 ls [])) : W p l e room_1 s m #[Value.ref b] below meth c H locs 129 4562 Q (F0 m 583 ls []) := by
  obtain ⟨hx, hb, hml, hown, hg, hX, hbl, hbA, hK, hi, hAx, hA, hSS⟩ := C1
  obtain ⟨T, Y, fa, N, B, N1, B1, N2, B2, K, S, M, E, Z, hXI, hMI⟩ := hI
  refine lv_aload_n hx hb dL_law_583 rfl (lv_at hl 2 rfl) ?_
  refine lv_aload_n hx hb dL_law_584 rfl (lv_at hl 3 rfl) ?_
  refine lv_iload_n hx hb dL_law_585 rfl (lv_at hl 0 rfl) ?_
  refine lv_iconst (v := 1) hx hb dL_law_586 (by decide) ?_
  refine lv_iadd hx hb dL_law_587 ?_
  refine lv_cg (y := nI (5 * k + 1)) (by rw [show (1 : Int32) = nI 1 from rfl]; exact nI_add _ _) ?_
  refine va_sld hx hb hX hbl hbA hS (vp_in_nI (by omega) (by omega)) dL_law_588 ?_
  refine lv_cg (y := xs (5 * k + 1)) (by rw [nI_clamp (by omega)]) ?_
  refine lv_aload_n hx hb dL_law_589 rfl (lv_at hl 3 rfl) ?_
  refine lv_iload_n hx hb dL_law_590 rfl (lv_at hl 0 rfl) ?_
  refine lv_iconst (v := 2) hx hb dL_law_591 (by decide) ?_
  refine lv_iadd hx hb dL_law_592 ?_
  refine lv_cg (y := nI (5 * k + 2)) (by rw [show (2 : Int32) = nI 2 from rfl]; exact nI_add _ _) ?_
  refine va_sld hx hb hX hbl hbA hS (vp_in_nI (by omega) (by omega)) dL_law_593 ?_
  refine lv_cg (y := xs (5 * k + 2)) (by rw [nI_clamp (by omega)]) ?_
  refine lv_aload_n hx hb dL_law_594 rfl (lv_at hl 3 rfl) ?_
  refine lv_iload_n hx hb dL_law_595 rfl (lv_at hl 0 rfl) ?_
  refine lv_iconst (v := 3) hx hb dL_law_596 (by decide) ?_
  refine lv_iadd hx hb dL_law_597 ?_
  refine lv_cg (y := nI (5 * k + 3)) (by rw [show (3 : Int32) = nI 3 from rfl]; exact nI_add _ _) ?_
  refine va_sld hx hb hX hbl hbA hS (vp_in_nI (by omega) (by omega)) dL_law_598 ?_
  refine lv_cg (y := xs (5 * k + 3)) (by rw [nI_clamp (by omega)]) ?_
  refine va_calli (va_runV (As := [.int (xs (5 * k + 1)), .int (xs (5 * k + 2)), .int (xs (5 * k + 3))]) (rest := []) ⟨hx, hb, hml, hown, hg⟩ (k_X10_harm l dC dI G _ ax hi T Y fa N B N1 B1 N2 B2 K S M E Z (xs (5 * k + 1)) (xs (5 * k + 2)) (xs (5 * k + 3))) (kwV hg mfX10_harm wt_566 ⟨Nat.le_of_ble_eq_true rfl, Nat.le_of_ble_eq_true rfl⟩) (preVI hK hXI (hXI.recv hK)) rfl rfl hl.1 rfl (lv_room (Nat.le_of_ble_eq_true rfl)) dL_law_599 ⟨Nat.le_of_ble_eq_true rfl, Nat.le_of_ble_eq_true rfl⟩) hS (fun q _ h => ad_A hAx hA (by decide) hS q h) (ad_A hAx hA (by decide) hS) (fun r1 u1 t1 H1 locs1 ht1 hv1 w1 hB1 hz1 hk1 hS => ?_)
  have hMI := hMI.kept (fr_ad (lo := 0) (hi := 112) hi (by decide) (by decide) (by decide) hk1)
  have hXI : X10I dC dI G ax T Y fa N B N1 B1 N2 B2 K S M E Z H1 := by rw [← ht1]; exact hB1
  refine W.widen (k := 129) (n := 4562) (by omega) (by omega) ?_
  refine lv_pop hx hb dL_law_602 rfl ?_
  refine lv_aload_n hx hb dL_law_603 rfl (lv_at hl 1 rfl) ?_
  refine lv_aload_n hx hb dL_law_604 rfl (lv_at hl 3 rfl) ?_
  refine lv_iload_n hx hb dL_law_605 rfl (lv_at hl 0 rfl) ?_
  refine lv_iconst (v := 1) hx hb dL_law_606 (by decide) ?_
  refine lv_iadd hx hb dL_law_607 ?_
  refine lv_cg (y := nI (5 * k + 1)) (by rw [show (1 : Int32) = nI 1 from rfl]; exact nI_add _ _) ?_
  refine va_sld hx hb hX hbl hbA hS (vp_in_nI (by omega) (by omega)) dL_law_608 ?_
  refine lv_cg (y := xs (5 * k + 1)) (by rw [nI_clamp (by omega)]) ?_
  refine lv_aload_n hx hb dL_law_609 rfl (lv_at hl 3 rfl) ?_
  refine lv_iload_n hx hb dL_law_610 rfl (lv_at hl 0 rfl) ?_
  refine lv_iconst (v := 2) hx hb dL_law_611 (by decide) ?_
  refine lv_iadd hx hb dL_law_612 ?_
  refine lv_cg (y := nI (5 * k + 2)) (by rw [show (2 : Int32) = nI 2 from rfl]; exact nI_add _ _) ?_
  refine va_sld hx hb hX hbl hbA hS (vp_in_nI (by omega) (by omega)) dL_law_613 ?_
  refine lv_cg (y := xs (5 * k + 2)) (by rw [nI_clamp (by omega)]) ?_
  refine lv_aload_n hx hb dL_law_614 rfl (lv_at hl 3 rfl) ?_
  refine lv_iload_n hx hb dL_law_615 rfl (lv_at hl 0 rfl) ?_
  refine lv_iconst (v := 3) hx hb dL_law_616 (by decide) ?_
  refine lv_iadd hx hb dL_law_617 ?_
  refine lv_cg (y := nI (5 * k + 3)) (by rw [show (3 : Int32) = nI 3 from rfl]; exact nI_add _ _) ?_
  refine va_sld hx hb hX hbl hbA hS (vp_in_nI (by omega) (by omega)) dL_law_618 ?_
  refine lv_cg (y := xs (5 * k + 3)) (by rw [nI_clamp (by omega)]) ?_
  refine va_calli (va_runV (As := [.int (xs (5 * k + 1)), .int (xs (5 * k + 2)), .int (xs (5 * k + 3))]) (rest := []) ⟨hx, hb, hml, hown, hg⟩ (k_X11_harm l dC dI G _ ax hi T Y fa N B N1 B1 N2 B2 K S M E Z (xs (5 * k + 1)) (xs (5 * k + 2)) (xs (5 * k + 3))) (kwV hg mfX11_harm wt_1098 ⟨Nat.le_of_ble_eq_true rfl, Nat.le_of_ble_eq_true rfl⟩) (preVI hK hMI (hMI.recv hK)) rfl rfl hl.1 rfl (lv_room (Nat.le_of_ble_eq_true rfl)) dL_law_619 ⟨Nat.le_of_ble_eq_true rfl, Nat.le_of_ble_eq_true rfl⟩) hS (fun q _ h => ad_A hAx hA (by decide) hS q h) (ad_A hAx hA (by decide) hS) (fun r2 u2 t2 H2 locs2 ht2 hv2 w2 hB2 hz2 hk2 hS => ?_)
  have hXI := hXI.kept (fr_ad (lo := 112) (hi := 129) hi (by decide) (by decide) (by decide) hk2)
  have hMI : X11I dC dI G ax T Y fa N B N1 B1 N2 B2 K S M E Z H2 := by rw [← ht2]; exact hB2
  refine W.widen (k := 129) (n := 4562) (by omega) (by omega) ?_
  refine lv_pop hx hb dL_law_622 rfl ?_
  refine lv_goto (tgt := 1381) hx hb dL_law_623 (by decide) ?_
  exact kk _ _ ⟨_, _, _, _, _, _, _, _, _, _, _, _, _, _, hXI, hMI⟩ hS

set_option maxHeartbeats 1000000 in
set_option maxRecDepth 100000 in
theorem lc_wakes {p : Program} {l : Launch} {e : Env} {s : State} {m : MethodId} {below : List Frame} {meth : Method} {c : Code} {b L : Nat} {xs : Nat → Int32} {dC : Nat → ClassId} {dI : Nat → Nat → Nat} {G : Nat → ClassId} {ax adK adV : Nat → Nat} {A : Nat → Prop} {Q : State → Prop} (C1 : lw_C p s m c b L xs dC dI G ax adK adV A) {k : Nat} (hk : 5 * k + 5 ≤ L) (hL : L ≤ 2560) {H : Heap} {locs : List Loc} {ls : Array Slot} (hI : LI dC dI G ax H) (hS : va_S A s.heap H locs) (hl : lv_has ls 4 [(3, .int (nI (5 * k))), (2, .ref (ax 112)), (1, .ref (ax 0)), (0, .ref b)]) (kk : ∀ (H : Heap) (locs : List Loc), LI dC dI G ax H → va_S A s.heap H locs → W p l e room_1 s m #[Value.ref b] below meth c H locs 129 4562 Q (F0 m 1381 ls [])) : W p l e room_1 s m #[Value.ref b] below meth c H locs 129 4562 Q (F0 m 626 ls []) := by
  obtain ⟨hx, hb, hml, hown, hg, hX, hbl, hbA, hK, hi, hAx, hA, hSS⟩ := C1
  obtain ⟨T, Y, fa, N, B, N1, B1, N2, B2, K, S, M, E, Z, hXI, hMI⟩ := hI
  refine lv_aload_n hx hb dL_law_626 rfl (lv_at hl 2 rfl) ?_
  refine lv_aload_n hx hb dL_law_627 rfl (lv_at hl 3 rfl) ?_
  refine lv_iload_n hx hb dL_law_628 rfl (lv_at hl 0 rfl) ?_
  refine lv_iconst (v := 1) hx hb dL_law_629 (by decide) ?_
  refine lv_iadd hx hb dL_law_630 ?_
  refine lv_cg (y := nI (5 * k + 1)) (by rw [show (1 : Int32) = nI 1 from rfl]; exact nI_add _ _) ?_
  refine va_sld hx hb hX hbl hbA hS (vp_in_nI (by omega) (by omega)) dL_law_631 ?_
  refine lv_cg (y := xs (5 * k + 1)) (by rw [nI_clamp (by omega)]) ?_
  refine va_calll (va_runV (As := [.int (xs (5 * k + 1))]) (rest := []) ⟨hx, hb, hml, hown, hg⟩ (k_X10_wakes l dC dI G _ ax hi T Y fa N B N1 B1 N2 B2 K S M E Z (xs (5 * k + 1))) (kwV hg mfX10_wakes wt_600 ⟨Nat.le_of_ble_eq_true rfl, Nat.le_of_ble_eq_true rfl⟩) (preVI hK hXI (hXI.recv hK)) rfl rfl hl.1 rfl (lv_room (Nat.le_of_ble_eq_true rfl)) dL_law_632 ⟨Nat.le_of_ble_eq_true rfl, Nat.le_of_ble_eq_true rfl⟩) hS (fun q _ h => ad_A hAx hA (by decide) hS q h) (ad_A hAx hA (by decide) hS) (fun r1 u1 t1 H1 locs1 ht1 hv1 w1 hB1 hz1 hk1 hS => ?_)
  have hMI := hMI.kept (fr_ad (lo := 0) (hi := 112) hi (by decide) (by decide) (by decide) hk1)
  have hXI : X10I dC dI G ax T Y fa N B N1 B1 N2 B2 K S M E Z H1 := by rw [← ht1]; exact hB1
  refine W.widen (k := 129) (n := 4562) (by omega) (by omega) ?_
  refine lv_pop2_2 hx hb dL_law_635 rfl ?_
  refine lv_aload_n hx hb dL_law_636 rfl (lv_at hl 1 rfl) ?_
  refine lv_aload_n hx hb dL_law_637 rfl (lv_at hl 3 rfl) ?_
  refine lv_iload_n hx hb dL_law_638 rfl (lv_at hl 0 rfl) ?_
  refine lv_iconst (v := 1) hx hb dL_law_639 (by decide) ?_
  refine lv_iadd hx hb dL_law_640 ?_
  refine lv_cg (y := nI (5 * k + 1)) (by rw [show (1 : Int32) = nI 1 from rfl]; exact nI_add _ _) ?_
  refine va_sld hx hb hX hbl hbA hS (vp_in_nI (by omega) (by omega)) dL_law_641 ?_
  refine lv_cg (y := xs (5 * k + 1)) (by rw [nI_clamp (by omega)]) ?_
  refine va_calll (va_runV (As := [.int (xs (5 * k + 1))]) (rest := []) ⟨hx, hb, hml, hown, hg⟩ (k_X11_wakes l dC dI G _ ax hi T Y fa N B N1 B1 N2 B2 K S M E Z (xs (5 * k + 1))) (kwV hg mfX11_wakes wt_1114 ⟨Nat.le_of_ble_eq_true rfl, Nat.le_of_ble_eq_true rfl⟩) (preVI hK hMI (hMI.recv hK)) rfl rfl hl.1 rfl (lv_room (Nat.le_of_ble_eq_true rfl)) dL_law_642 ⟨Nat.le_of_ble_eq_true rfl, Nat.le_of_ble_eq_true rfl⟩) hS (fun q _ h => ad_A hAx hA (by decide) hS q h) (ad_A hAx hA (by decide) hS) (fun r2 u2 t2 H2 locs2 ht2 hv2 w2 hB2 hz2 hk2 hS => ?_)
  have hXI := hXI.kept (fr_ad (lo := 112) (hi := 129) hi (by decide) (by decide) (by decide) hk2)
  have hMI : X11I dC dI G ax T Y fa N B N1 B1 N2 B2 K S M E Z H2 := by rw [← ht2]; exact hB2
  refine W.widen (k := 129) (n := 4562) (by omega) (by omega) ?_
  refine lv_pop2_2 hx hb dL_law_645 rfl ?_
  refine lv_goto (tgt := 1381) hx hb dL_law_646 (by decide) ?_
  exact kk _ _ ⟨_, _, _, _, _, _, _, _, _, _, _, _, _, _, hXI, hMI⟩ hS

set_option maxHeartbeats 1000000 in
set_option maxRecDepth 100000 in
theorem lc_awake {p : Program} {l : Launch} {e : Env} {s : State} {m : MethodId} {below : List Frame} {meth : Method} {c : Code} {b L : Nat} {xs : Nat → Int32} {dC : Nat → ClassId} {dI : Nat → Nat → Nat} {G : Nat → ClassId} {ax adK adV : Nat → Nat} {A : Nat → Prop} {Q : State → Prop} (C1 : lw_C p s m c b L xs dC dI G ax adK adV A) {k : Nat} (hk : 5 * k + 5 ≤ L) (hL : L ≤ 2560) {H : Heap} {locs : List Loc} {ls : Array Slot} (hI : LI dC dI G ax H) (hS : va_S A s.heap H locs) (hl : lv_has ls 4 [(3, .int (nI (5 * k))), (2, .ref (ax 112)), (1, .ref (ax 0)), (0, .ref b)]) (kk : ∀ (H : Heap) (locs : List Loc), LI dC dI G ax H → va_S A s.heap H locs → W p l e room_1 s m #[Value.ref b] below meth c H locs 129 4562 Q (F0 m 1381 ls [])) : W p l e room_1 s m #[Value.ref b] below meth c H locs 129 4562 Q (F0 m 649 ls []) := by
  obtain ⟨hx, hb, hml, hown, hg, hX, hbl, hbA, hK, hi, hAx, hA, hSS⟩ := C1
  obtain ⟨T, Y, fa, N, B, N1, B1, N2, B2, K, S, M, E, Z, hXI, hMI⟩ := hI
  refine lv_aload_n hx hb dL_law_649 rfl (lv_at hl 2 rfl) ?_
  refine lv_aload_n hx hb dL_law_650 rfl (lv_at hl 3 rfl) ?_
  refine lv_iload_n hx hb dL_law_651 rfl (lv_at hl 0 rfl) ?_
  refine lv_iconst (v := 1) hx hb dL_law_652 (by decide) ?_
  refine lv_iadd hx hb dL_law_653 ?_
  refine lv_cg (y := nI (5 * k + 1)) (by rw [show (1 : Int32) = nI 1 from rfl]; exact nI_add _ _) ?_
  refine va_sld hx hb hX hbl hbA hS (vp_in_nI (by omega) (by omega)) dL_law_654 ?_
  refine lv_cg (y := xs (5 * k + 1)) (by rw [nI_clamp (by omega)]) ?_
  refine lv_aload_n hx hb dL_law_655 rfl (lv_at hl 3 rfl) ?_
  refine lv_iload_n hx hb dL_law_656 rfl (lv_at hl 0 rfl) ?_
  refine lv_iconst (v := 2) hx hb dL_law_657 (by decide) ?_
  refine lv_iadd hx hb dL_law_658 ?_
  refine lv_cg (y := nI (5 * k + 2)) (by rw [show (2 : Int32) = nI 2 from rfl]; exact nI_add _ _) ?_
  refine va_sld hx hb hX hbl hbA hS (vp_in_nI (by omega) (by omega)) dL_law_659 ?_
  refine lv_cg (y := xs (5 * k + 2)) (by rw [nI_clamp (by omega)]) ?_
  refine va_calll (va_runV (As := [.int (xs (5 * k + 1)), .int (xs (5 * k + 2))]) (rest := []) ⟨hx, hb, hml, hown, hg⟩ (k_X10_awake l dC dI G _ ax hi T Y fa N B N1 B1 N2 B2 K S M E Z (xs (5 * k + 1)) (xs (5 * k + 2))) (kwV hg mfX10_awake wt_641 ⟨Nat.le_of_ble_eq_true rfl, Nat.le_of_ble_eq_true rfl⟩) (preVI hK hXI (hXI.recv hK)) rfl rfl hl.1 rfl (lv_room (Nat.le_of_ble_eq_true rfl)) dL_law_660 ⟨Nat.le_of_ble_eq_true rfl, Nat.le_of_ble_eq_true rfl⟩) hS (fun q _ h => ad_A hAx hA (by decide) hS q h) (ad_A hAx hA (by decide) hS) (fun r1 u1 t1 H1 locs1 ht1 hv1 w1 hB1 hz1 hk1 hS => ?_)
  have hMI := hMI.kept (fr_ad (lo := 0) (hi := 112) hi (by decide) (by decide) (by decide) hk1)
  have hXI : X10I dC dI G ax T Y fa N B N1 B1 N2 B2 K S M E Z H1 := by rw [← ht1]; exact hB1
  refine W.widen (k := 129) (n := 4562) (by omega) (by omega) ?_
  refine lv_pop2_2 hx hb dL_law_663 rfl ?_
  refine lv_aload_n hx hb dL_law_664 rfl (lv_at hl 1 rfl) ?_
  refine lv_aload_n hx hb dL_law_665 rfl (lv_at hl 3 rfl) ?_
  refine lv_iload_n hx hb dL_law_666 rfl (lv_at hl 0 rfl) ?_
  refine lv_iconst (v := 1) hx hb dL_law_667 (by decide) ?_
  refine lv_iadd hx hb dL_law_668 ?_
  refine lv_cg (y := nI (5 * k + 1)) (by rw [show (1 : Int32) = nI 1 from rfl]; exact nI_add _ _) ?_
  refine va_sld hx hb hX hbl hbA hS (vp_in_nI (by omega) (by omega)) dL_law_669 ?_
  refine lv_cg (y := xs (5 * k + 1)) (by rw [nI_clamp (by omega)]) ?_
  refine lv_aload_n hx hb dL_law_670 rfl (lv_at hl 3 rfl) ?_
  refine lv_iload_n hx hb dL_law_671 rfl (lv_at hl 0 rfl) ?_
  refine lv_iconst (v := 2) hx hb dL_law_672 (by decide) ?_
  refine lv_iadd hx hb dL_law_673 ?_
  refine lv_cg (y := nI (5 * k + 2)) (by rw [show (2 : Int32) = nI 2 from rfl]; exact nI_add _ _) ?_
  refine va_sld hx hb hX hbl hbA hS (vp_in_nI (by omega) (by omega)) dL_law_674 ?_
  refine lv_cg (y := xs (5 * k + 2)) (by rw [nI_clamp (by omega)]) ?_
  refine va_calll (va_runV (As := [.int (xs (5 * k + 1)), .int (xs (5 * k + 2))]) (rest := []) ⟨hx, hb, hml, hown, hg⟩ (k_X11_awake l dC dI G _ ax hi T Y fa N B N1 B1 N2 B2 K S M E Z (xs (5 * k + 1)) (xs (5 * k + 2))) (kwV hg mfX11_awake wt_1137 ⟨Nat.le_of_ble_eq_true rfl, Nat.le_of_ble_eq_true rfl⟩) (preVI hK hMI (hMI.recv hK)) rfl rfl hl.1 rfl (lv_room (Nat.le_of_ble_eq_true rfl)) dL_law_675 ⟨Nat.le_of_ble_eq_true rfl, Nat.le_of_ble_eq_true rfl⟩) hS (fun q _ h => ad_A hAx hA (by decide) hS q h) (ad_A hAx hA (by decide) hS) (fun r2 u2 t2 H2 locs2 ht2 hv2 w2 hB2 hz2 hk2 hS => ?_)
  have hXI := hXI.kept (fr_ad (lo := 112) (hi := 129) hi (by decide) (by decide) (by decide) hk2)
  have hMI : X11I dC dI G ax T Y fa N B N1 B1 N2 B2 K S M E Z H2 := by rw [← ht2]; exact hB2
  refine W.widen (k := 129) (n := 4562) (by omega) (by omega) ?_
  refine lv_pop2_2 hx hb dL_law_678 rfl ?_
  refine lv_goto (tgt := 1381) hx hb dL_law_679 (by decide) ?_
  exact kk _ _ ⟨_, _, _, _, _, _, _, _, _, _, _, _, _, _, hXI, hMI⟩ hS

set_option maxHeartbeats 1000000 in
set_option maxRecDepth 100000 in
theorem lc_depth {p : Program} {l : Launch} {e : Env} {s : State} {m : MethodId} {below : List Frame} {meth : Method} {c : Code} {b L : Nat} {xs : Nat → Int32} {dC : Nat → ClassId} {dI : Nat → Nat → Nat} {G : Nat → ClassId} {ax adK adV : Nat → Nat} {A : Nat → Prop} {Q : State → Prop} (C1 : lw_C p s m c b L xs dC dI G ax adK adV A) {k : Nat} (hk : 5 * k + 5 ≤ L) (hL : L ≤ 2560) {H : Heap} {locs : List Loc} {ls : Array Slot} (hI : LI dC dI G ax H) (hS : va_S A s.heap H locs) (hl : lv_has ls 4 [(3, .int (nI (5 * k))), (2, .ref (ax 112)), (1, .ref (ax 0)), (0, .ref b)]) (kk : ∀ (H : Heap) (locs : List Loc), LI dC dI G ax H → va_S A s.heap H locs → W p l e room_1 s m #[Value.ref b] below meth c H locs 129 4562 Q (F0 m 1381 ls [])) : W p l e room_1 s m #[Value.ref b] below meth c H locs 129 4562 Q (F0 m 682 ls []) := by
  obtain ⟨hx, hb, hml, hown, hg, hX, hbl, hbA, hK, hi, hAx, hA, hSS⟩ := C1
  obtain ⟨T, Y, fa, N, B, N1, B1, N2, B2, K, S, M, E, Z, hXI, hMI⟩ := hI
  refine lv_aload_n hx hb dL_law_682 rfl (lv_at hl 2 rfl) ?_
  refine lv_aload_n hx hb dL_law_683 rfl (lv_at hl 3 rfl) ?_
  refine lv_iload_n hx hb dL_law_684 rfl (lv_at hl 0 rfl) ?_
  refine lv_iconst (v := 1) hx hb dL_law_685 (by decide) ?_
  refine lv_iadd hx hb dL_law_686 ?_
  refine lv_cg (y := nI (5 * k + 1)) (by rw [show (1 : Int32) = nI 1 from rfl]; exact nI_add _ _) ?_
  refine va_sld hx hb hX hbl hbA hS (vp_in_nI (by omega) (by omega)) dL_law_687 ?_
  refine lv_cg (y := xs (5 * k + 1)) (by rw [nI_clamp (by omega)]) ?_
  refine lv_aload_n hx hb dL_law_688 rfl (lv_at hl 3 rfl) ?_
  refine lv_iload_n hx hb dL_law_689 rfl (lv_at hl 0 rfl) ?_
  refine lv_iconst (v := 2) hx hb dL_law_690 (by decide) ?_
  refine lv_iadd hx hb dL_law_691 ?_
  refine lv_cg (y := nI (5 * k + 2)) (by rw [show (2 : Int32) = nI 2 from rfl]; exact nI_add _ _) ?_
  refine va_sld hx hb hX hbl hbA hS (vp_in_nI (by omega) (by omega)) dL_law_692 ?_
  refine lv_cg (y := xs (5 * k + 2)) (by rw [nI_clamp (by omega)]) ?_
  refine lv_aload_n hx hb dL_law_693 rfl (lv_at hl 3 rfl) ?_
  refine lv_iload_n hx hb dL_law_694 rfl (lv_at hl 0 rfl) ?_
  refine lv_iconst (v := 3) hx hb dL_law_695 (by decide) ?_
  refine lv_iadd hx hb dL_law_696 ?_
  refine lv_cg (y := nI (5 * k + 3)) (by rw [show (3 : Int32) = nI 3 from rfl]; exact nI_add _ _) ?_
  refine va_sld hx hb hX hbl hbA hS (vp_in_nI (by omega) (by omega)) dL_law_697 ?_
  refine lv_cg (y := xs (5 * k + 3)) (by rw [nI_clamp (by omega)]) ?_
  refine va_calll (va_runV (As := [.int (xs (5 * k + 1)), .int (xs (5 * k + 2)), .int (xs (5 * k + 3))]) (rest := []) ⟨hx, hb, hml, hown, hg⟩ (k_X10_depth l dC dI G _ ax hi T Y fa N B N1 B1 N2 B2 K S M E Z (xs (5 * k + 1)) (xs (5 * k + 2)) (xs (5 * k + 3))) (kwV hg mfX10_depth wt_652 ⟨Nat.le_of_ble_eq_true rfl, Nat.le_of_ble_eq_true rfl⟩) (preVI hK hXI (hXI.recv hK)) rfl rfl hl.1 rfl (lv_room (Nat.le_of_ble_eq_true rfl)) dL_law_698 ⟨Nat.le_of_ble_eq_true rfl, Nat.le_of_ble_eq_true rfl⟩) hS (fun q _ h => ad_A hAx hA (by decide) hS q h) (ad_A hAx hA (by decide) hS) (fun r1 u1 t1 H1 locs1 ht1 hv1 w1 hB1 hz1 hk1 hS => ?_)
  have hMI := hMI.kept (fr_ad (lo := 0) (hi := 112) hi (by decide) (by decide) (by decide) hk1)
  have hXI : X10I dC dI G ax T Y fa N B N1 B1 N2 B2 K S M E Z H1 := by rw [← ht1]; exact hB1
  refine W.widen (k := 129) (n := 4562) (by omega) (by omega) ?_
  refine lv_pop2_2 hx hb dL_law_701 rfl ?_
  refine lv_aload_n hx hb dL_law_702 rfl (lv_at hl 1 rfl) ?_
  refine lv_aload_n hx hb dL_law_703 rfl (lv_at hl 3 rfl) ?_
  refine lv_iload_n hx hb dL_law_704 rfl (lv_at hl 0 rfl) ?_
  refine lv_iconst (v := 1) hx hb dL_law_705 (by decide) ?_
  refine lv_iadd hx hb dL_law_706 ?_
  refine lv_cg (y := nI (5 * k + 1)) (by rw [show (1 : Int32) = nI 1 from rfl]; exact nI_add _ _) ?_
  refine va_sld hx hb hX hbl hbA hS (vp_in_nI (by omega) (by omega)) dL_law_707 ?_
  refine lv_cg (y := xs (5 * k + 1)) (by rw [nI_clamp (by omega)]) ?_
  refine lv_aload_n hx hb dL_law_708 rfl (lv_at hl 3 rfl) ?_
  refine lv_iload_n hx hb dL_law_709 rfl (lv_at hl 0 rfl) ?_
  refine lv_iconst (v := 2) hx hb dL_law_710 (by decide) ?_
  refine lv_iadd hx hb dL_law_711 ?_
  refine lv_cg (y := nI (5 * k + 2)) (by rw [show (2 : Int32) = nI 2 from rfl]; exact nI_add _ _) ?_
  refine va_sld hx hb hX hbl hbA hS (vp_in_nI (by omega) (by omega)) dL_law_712 ?_
  refine lv_cg (y := xs (5 * k + 2)) (by rw [nI_clamp (by omega)]) ?_
  refine lv_aload_n hx hb dL_law_713 rfl (lv_at hl 3 rfl) ?_
  refine lv_iload_n hx hb dL_law_714 rfl (lv_at hl 0 rfl) ?_
  refine lv_iconst (v := 3) hx hb dL_law_715 (by decide) ?_
  refine lv_iadd hx hb dL_law_716 ?_
  refine lv_cg (y := nI (5 * k + 3)) (by rw [show (3 : Int32) = nI 3 from rfl]; exact nI_add _ _) ?_
  refine va_sld hx hb hX hbl hbA hS (vp_in_nI (by omega) (by omega)) dL_law_717 ?_
  refine lv_cg (y := xs (5 * k + 3)) (by rw [nI_clamp (by omega)]) ?_
  refine va_calll (va_runV (As := [.int (xs (5 * k + 1)), .int (xs (5 * k + 2)), .int (xs (5 * k + 3))]) (rest := []) ⟨hx, hb, hml, hown, hg⟩ (k_X11_depth l dC dI G _ ax hi T Y fa N B N1 B1 N2 B2 K S M E Z (xs (5 * k + 1)) (xs (5 * k + 2)) (xs (5 * k + 3))) (kwV hg mfX11_depth wt_1145 ⟨Nat.le_of_ble_eq_true rfl, Nat.le_of_ble_eq_true rfl⟩) (preVI hK hMI (hMI.recv hK)) rfl rfl hl.1 rfl (lv_room (Nat.le_of_ble_eq_true rfl)) dL_law_718 ⟨Nat.le_of_ble_eq_true rfl, Nat.le_of_ble_eq_true rfl⟩) hS (fun q _ h => ad_A hAx hA (by decide) hS q h) (ad_A hAx hA (by decide) hS) (fun r2 u2 t2 H2 locs2 ht2 hv2 w2 hB2 hz2 hk2 hS => ?_)
  have hXI := hXI.kept (fr_ad (lo := 112) (hi := 129) hi (by decide) (by decide) (by decide) hk2)
  have hMI : X11I dC dI G ax T Y fa N B N1 B1 N2 B2 K S M E Z H2 := by rw [← ht2]; exact hB2
  refine W.widen (k := 129) (n := 4562) (by omega) (by omega) ?_
  refine lv_pop2_2 hx hb dL_law_721 rfl ?_
  refine lv_goto (tgt := 1381) hx hb dL_law_722 (by decide) ?_
  exact kk _ _ ⟨_, _, _, _, _, _, _, _, _, _, _, _, _, _, hXI, hMI⟩ hS

set_option maxHeartbeats 1000000 in
set_option maxRecDepth 100000 in
theorem lc_best {p : Program} {l : Launch} {e : Env} {s : State} {m : MethodId} {below : List Frame} {meth : Method} {c : Code} {b L : Nat} {xs : Nat → Int32} {dC : Nat → ClassId} {dI : Nat → Nat → Nat} {G : Nat → ClassId} {ax adK adV : Nat → Nat} {A : Nat → Prop} {Q : State → Prop} (C1 : lw_C p s m c b L xs dC dI G ax adK adV A) {k : Nat} (hk : 5 * k + 5 ≤ L) (hL : L ≤ 2560) {H : Heap} {locs : List Loc} {ls : Array Slot} (hI : LI dC dI G ax H) (hS : va_S A s.heap H locs) (hl : lv_has ls 4 [(3, .int (nI (5 * k))), (2, .ref (ax 112)), (1, .ref (ax 0)), (0, .ref b)]) (kk : ∀ (H : Heap) (locs : List Loc), LI dC dI G ax H → va_S A s.heap H locs → W p l e room_1 s m #[Value.ref b] below meth c H locs 129 4562 Q (F0 m 1381 ls [])) : W p l e room_1 s m #[Value.ref b] below meth c H locs 129 4562 Q (F0 m 725 ls []) := by
  obtain ⟨hx, hb, hml, hown, hg, hX, hbl, hbA, hK, hi, hAx, hA, hSS⟩ := C1
  obtain ⟨T, Y, fa, N, B, N1, B1, N2, B2, K, S, M, E, Z, hXI, hMI⟩ := hI
  refine lv_aload_n hx hb dL_law_725 rfl (lv_at hl 2 rfl) ?_
  refine lv_aload_n hx hb dL_law_726 rfl (lv_at hl 3 rfl) ?_
  refine lv_iload_n hx hb dL_law_727 rfl (lv_at hl 0 rfl) ?_
  refine lv_iconst (v := 1) hx hb dL_law_728 (by decide) ?_
  refine lv_iadd hx hb dL_law_729 ?_
  refine lv_cg (y := nI (5 * k + 1)) (by rw [show (1 : Int32) = nI 1 from rfl]; exact nI_add _ _) ?_
  refine va_sld hx hb hX hbl hbA hS (vp_in_nI (by omega) (by omega)) dL_law_730 ?_
  refine lv_cg (y := xs (5 * k + 1)) (by rw [nI_clamp (by omega)]) ?_
  refine va_calll (va_runV (As := [.int (xs (5 * k + 1))]) (rest := []) ⟨hx, hb, hml, hown, hg⟩ (k_X10_best l dC dI G _ ax hi T Y fa N B N1 B1 N2 B2 K S M E Z (xs (5 * k + 1))) (kwV hg mfX10_best wt_653 ⟨Nat.le_of_ble_eq_true rfl, Nat.le_of_ble_eq_true rfl⟩) (preVI hK hXI (hXI.recv hK)) rfl rfl hl.1 rfl (lv_room (Nat.le_of_ble_eq_true rfl)) dL_law_731 ⟨Nat.le_of_ble_eq_true rfl, Nat.le_of_ble_eq_true rfl⟩) hS (fun q _ h => ad_A hAx hA (by decide) hS q h) (ad_A hAx hA (by decide) hS) (fun r1 u1 t1 H1 locs1 ht1 hv1 w1 hB1 hz1 hk1 hS => ?_)
  have hMI := hMI.kept (fr_ad (lo := 0) (hi := 112) hi (by decide) (by decide) (by decide) hk1)
  have hXI : X10I dC dI G ax T Y fa N B N1 B1 N2 B2 K S M E Z H1 := by rw [← ht1]; exact hB1
  refine W.widen (k := 129) (n := 4562) (by omega) (by omega) ?_
  refine lv_pop2_2 hx hb dL_law_734 rfl ?_
  refine lv_aload_n hx hb dL_law_735 rfl (lv_at hl 1 rfl) ?_
  refine lv_aload_n hx hb dL_law_736 rfl (lv_at hl 3 rfl) ?_
  refine lv_iload_n hx hb dL_law_737 rfl (lv_at hl 0 rfl) ?_
  refine lv_iconst (v := 1) hx hb dL_law_738 (by decide) ?_
  refine lv_iadd hx hb dL_law_739 ?_
  refine lv_cg (y := nI (5 * k + 1)) (by rw [show (1 : Int32) = nI 1 from rfl]; exact nI_add _ _) ?_
  refine va_sld hx hb hX hbl hbA hS (vp_in_nI (by omega) (by omega)) dL_law_740 ?_
  refine lv_cg (y := xs (5 * k + 1)) (by rw [nI_clamp (by omega)]) ?_
  refine va_calll (va_runV (As := [.int (xs (5 * k + 1))]) (rest := []) ⟨hx, hb, hml, hown, hg⟩ (k_X11_best l dC dI G _ ax hi T Y fa N B N1 B1 N2 B2 K S M E Z (xs (5 * k + 1))) (kwV hg mfX11_best wt_1146 ⟨Nat.le_of_ble_eq_true rfl, Nat.le_of_ble_eq_true rfl⟩) (preVI hK hMI (hMI.recv hK)) rfl rfl hl.1 rfl (lv_room (Nat.le_of_ble_eq_true rfl)) dL_law_741 ⟨Nat.le_of_ble_eq_true rfl, Nat.le_of_ble_eq_true rfl⟩) hS (fun q _ h => ad_A hAx hA (by decide) hS q h) (ad_A hAx hA (by decide) hS) (fun r2 u2 t2 H2 locs2 ht2 hv2 w2 hB2 hz2 hk2 hS => ?_)
  have hXI := hXI.kept (fr_ad (lo := 112) (hi := 129) hi (by decide) (by decide) (by decide) hk2)
  have hMI : X11I dC dI G ax T Y fa N B N1 B1 N2 B2 K S M E Z H2 := by rw [← ht2]; exact hB2
  refine W.widen (k := 129) (n := 4562) (by omega) (by omega) ?_
  refine lv_pop2_2 hx hb dL_law_744 rfl ?_
  refine lv_goto (tgt := 1381) hx hb dL_law_745 (by decide) ?_
  exact kk _ _ ⟨_, _, _, _, _, _, _, _, _, _, _, _, _, _, hXI, hMI⟩ hS

set_option maxHeartbeats 1000000 in
set_option maxRecDepth 100000 in
theorem lc_next {p : Program} {l : Launch} {e : Env} {s : State} {m : MethodId} {below : List Frame} {meth : Method} {c : Code} {b L : Nat} {xs : Nat → Int32} {dC : Nat → ClassId} {dI : Nat → Nat → Nat} {G : Nat → ClassId} {ax adK adV : Nat → Nat} {A : Nat → Prop} {Q : State → Prop} (C1 : lw_C p s m c b L xs dC dI G ax adK adV A) {k : Nat} (hk : 5 * k + 5 ≤ L) (hL : L ≤ 2560) {H : Heap} {locs : List Loc} {ls : Array Slot} (hI : LI dC dI G ax H) (hS : va_S A s.heap H locs) (hl : lv_has ls 4 [(3, .int (nI (5 * k))), (2, .ref (ax 112)), (1, .ref (ax 0)), (0, .ref b)]) (kk : ∀ (H : Heap) (locs : List Loc), LI dC dI G ax H → va_S A s.heap H locs → W p l e room_1 s m #[Value.ref b] below meth c H locs 129 4562 Q (F0 m 1381 ls [])) : W p l e room_1 s m #[Value.ref b] below meth c H locs 129 4562 Q (F0 m 748 ls []) := by
  obtain ⟨hx, hb, hml, hown, hg, hX, hbl, hbA, hK, hi, hAx, hA, hSS⟩ := C1
  obtain ⟨T, Y, fa, N, B, N1, B1, N2, B2, K, S, M, E, Z, hXI, hMI⟩ := hI
  refine lv_aload_n hx hb dL_law_748 rfl (lv_at hl 2 rfl) ?_
  refine lv_aload_n hx hb dL_law_749 rfl (lv_at hl 3 rfl) ?_
  refine lv_iload_n hx hb dL_law_750 rfl (lv_at hl 0 rfl) ?_
  refine lv_iconst (v := 1) hx hb dL_law_751 (by decide) ?_
  refine lv_iadd hx hb dL_law_752 ?_
  refine lv_cg (y := nI (5 * k + 1)) (by rw [show (1 : Int32) = nI 1 from rfl]; exact nI_add _ _) ?_
  refine va_sld hx hb hX hbl hbA hS (vp_in_nI (by omega) (by omega)) dL_law_753 ?_
  refine lv_cg (y := xs (5 * k + 1)) (by rw [nI_clamp (by omega)]) ?_
  refine lv_aload_n hx hb dL_law_754 rfl (lv_at hl 3 rfl) ?_
  refine lv_iload_n hx hb dL_law_755 rfl (lv_at hl 0 rfl) ?_
  refine lv_iconst (v := 2) hx hb dL_law_756 (by decide) ?_
  refine lv_iadd hx hb dL_law_757 ?_
  refine lv_cg (y := nI (5 * k + 2)) (by rw [show (2 : Int32) = nI 2 from rfl]; exact nI_add _ _) ?_
  refine va_sld hx hb hX hbl hbA hS (vp_in_nI (by omega) (by omega)) dL_law_758 ?_
  refine lv_cg (y := xs (5 * k + 2)) (by rw [nI_clamp (by omega)]) ?_
  refine lv_aload_n hx hb dL_law_759 rfl (lv_at hl 3 rfl) ?_
  refine lv_iload_n hx hb dL_law_760 rfl (lv_at hl 0 rfl) ?_
  refine lv_iconst (v := 3) hx hb dL_law_761 (by decide) ?_
  refine lv_iadd hx hb dL_law_762 ?_
  refine lv_cg (y := nI (5 * k + 3)) (by rw [show (3 : Int32) = nI 3 from rfl]; exact nI_add _ _) ?_
  refine va_sld hx hb hX hbl hbA hS (vp_in_nI (by omega) (by omega)) dL_law_763 ?_
  refine lv_cg (y := xs (5 * k + 3)) (by rw [nI_clamp (by omega)]) ?_
  refine va_calli (va_runV (As := [.int (xs (5 * k + 1)), .int (xs (5 * k + 2)), .int (xs (5 * k + 3))]) (rest := []) ⟨hx, hb, hml, hown, hg⟩ (k_X10_next l dC dI G _ ax hi T Y fa N B N1 B1 N2 B2 K S M E Z (xs (5 * k + 1)) (xs (5 * k + 2)) (xs (5 * k + 3))) (kwV hg mfX10_next wt_680 ⟨Nat.le_of_ble_eq_true rfl, Nat.le_of_ble_eq_true rfl⟩) (preVI hK hXI (hXI.recv hK)) rfl rfl hl.1 rfl (lv_room (Nat.le_of_ble_eq_true rfl)) dL_law_764 ⟨Nat.le_of_ble_eq_true rfl, Nat.le_of_ble_eq_true rfl⟩) hS (fun q _ h => ad_A hAx hA (by decide) hS q h) (ad_A hAx hA (by decide) hS) (fun r1 u1 t1 H1 locs1 ht1 hv1 w1 hB1 hz1 hk1 hS => ?_)
  have hMI := hMI.kept (fr_ad (lo := 0) (hi := 112) hi (by decide) (by decide) (by decide) hk1)
  have hXI : X10I dC dI G ax T Y fa N B N1 B1 N2 B2 K S M E Z H1 := by rw [← ht1]; exact hB1
  refine W.widen (k := 129) (n := 4562) (by omega) (by omega) ?_
  refine lv_pop hx hb dL_law_767 rfl ?_
  refine lv_aload_n hx hb dL_law_768 rfl (lv_at hl 1 rfl) ?_
  refine lv_aload_n hx hb dL_law_769 rfl (lv_at hl 3 rfl) ?_
  refine lv_iload_n hx hb dL_law_770 rfl (lv_at hl 0 rfl) ?_
  refine lv_iconst (v := 1) hx hb dL_law_771 (by decide) ?_
  refine lv_iadd hx hb dL_law_772 ?_
  refine lv_cg (y := nI (5 * k + 1)) (by rw [show (1 : Int32) = nI 1 from rfl]; exact nI_add _ _) ?_
  refine va_sld hx hb hX hbl hbA hS (vp_in_nI (by omega) (by omega)) dL_law_773 ?_
  refine lv_cg (y := xs (5 * k + 1)) (by rw [nI_clamp (by omega)]) ?_
  refine lv_aload_n hx hb dL_law_774 rfl (lv_at hl 3 rfl) ?_
  refine lv_iload_n hx hb dL_law_775 rfl (lv_at hl 0 rfl) ?_
  refine lv_iconst (v := 2) hx hb dL_law_776 (by decide) ?_
  refine lv_iadd hx hb dL_law_777 ?_
  refine lv_cg (y := nI (5 * k + 2)) (by rw [show (2 : Int32) = nI 2 from rfl]; exact nI_add _ _) ?_
  refine va_sld hx hb hX hbl hbA hS (vp_in_nI (by omega) (by omega)) dL_law_778 ?_
  refine lv_cg (y := xs (5 * k + 2)) (by rw [nI_clamp (by omega)]) ?_
  refine lv_aload_n hx hb dL_law_779 rfl (lv_at hl 3 rfl) ?_
  refine lv_iload_n hx hb dL_law_780 rfl (lv_at hl 0 rfl) ?_
  refine lv_iconst (v := 3) hx hb dL_law_781 (by decide) ?_
  refine lv_iadd hx hb dL_law_782 ?_
  refine lv_cg (y := nI (5 * k + 3)) (by rw [show (3 : Int32) = nI 3 from rfl]; exact nI_add _ _) ?_
  refine va_sld hx hb hX hbl hbA hS (vp_in_nI (by omega) (by omega)) dL_law_783 ?_
  refine lv_cg (y := xs (5 * k + 3)) (by rw [nI_clamp (by omega)]) ?_
  refine va_calli (va_runV (As := [.int (xs (5 * k + 1)), .int (xs (5 * k + 2)), .int (xs (5 * k + 3))]) (rest := []) ⟨hx, hb, hml, hown, hg⟩ (k_X11_next l dC dI G _ ax hi T Y fa N B N1 B1 N2 B2 K S M E Z (xs (5 * k + 1)) (xs (5 * k + 2)) (xs (5 * k + 3))) (kwV hg mfX11_next wt_1162 ⟨Nat.le_of_ble_eq_true rfl, Nat.le_of_ble_eq_true rfl⟩) (preVI hK hMI (hMI.recv hK)) rfl rfl hl.1 rfl (lv_room (Nat.le_of_ble_eq_true rfl)) dL_law_784 ⟨Nat.le_of_ble_eq_true rfl, Nat.le_of_ble_eq_true rfl⟩) hS (fun q _ h => ad_A hAx hA (by decide) hS q h) (ad_A hAx hA (by decide) hS) (fun r2 u2 t2 H2 locs2 ht2 hv2 w2 hB2 hz2 hk2 hS => ?_)
  have hXI := hXI.kept (fr_ad (lo := 112) (hi := 129) hi (by decide) (by decide) (by decide) hk2)
  have hMI : X11I dC dI G ax T Y fa N B N1 B1 N2 B2 K S M E Z H2 := by rw [← ht2]; exact hB2
  refine W.widen (k := 129) (n := 4562) (by omega) (by omega) ?_
  refine lv_pop hx hb dL_law_787 rfl ?_
  refine lv_goto (tgt := 1381) hx hb dL_law_788 (by decide) ?_
  exact kk _ _ ⟨_, _, _, _, _, _, _, _, _, _, _, _, _, _, hXI, hMI⟩ hS

set_option maxHeartbeats 1000000 in
set_option maxRecDepth 100000 in
theorem lc_without {p : Program} {l : Launch} {e : Env} {s : State} {m : MethodId} {below : List Frame} {meth : Method} {c : Code} {b L : Nat} {xs : Nat → Int32} {dC : Nat → ClassId} {dI : Nat → Nat → Nat} {G : Nat → ClassId} {ax adK adV : Nat → Nat} {A : Nat → Prop} {Q : State → Prop} (C1 : lw_C p s m c b L xs dC dI G ax adK adV A) {k : Nat} (hk : 5 * k + 5 ≤ L) (hL : L ≤ 2560) {H : Heap} {locs : List Loc} {ls : Array Slot} (hI : LI dC dI G ax H) (hS : va_S A s.heap H locs) (hl : lv_has ls 4 [(3, .int (nI (5 * k))), (2, .ref (ax 112)), (1, .ref (ax 0)), (0, .ref b)]) (kk : ∀ (H : Heap) (locs : List Loc), LI dC dI G ax H → va_S A s.heap H locs → W p l e room_1 s m #[Value.ref b] below meth c H locs 129 4562 Q (F0 m 1381 ls [])) : W p l e room_1 s m #[Value.ref b] below meth c H locs 129 4562 Q (F0 m 791 ls []) := by
  obtain ⟨hx, hb, hml, hown, hg, hX, hbl, hbA, hK, hi, hAx, hA, hSS⟩ := C1
  obtain ⟨T, Y, fa, N, B, N1, B1, N2, B2, K, S, M, E, Z, hXI, hMI⟩ := hI
  refine lv_aload_n hx hb dL_law_791 rfl (lv_at hl 2 rfl) ?_
  refine lv_aload_n hx hb dL_law_792 rfl (lv_at hl 3 rfl) ?_
  refine lv_iload_n hx hb dL_law_793 rfl (lv_at hl 0 rfl) ?_
  refine lv_iconst (v := 1) hx hb dL_law_794 (by decide) ?_
  refine lv_iadd hx hb dL_law_795 ?_
  refine lv_cg (y := nI (5 * k + 1)) (by rw [show (1 : Int32) = nI 1 from rfl]; exact nI_add _ _) ?_
  refine va_sld hx hb hX hbl hbA hS (vp_in_nI (by omega) (by omega)) dL_law_796 ?_
  refine lv_cg (y := xs (5 * k + 1)) (by rw [nI_clamp (by omega)]) ?_
  refine lv_aload_n hx hb dL_law_797 rfl (lv_at hl 3 rfl) ?_
  refine lv_iload_n hx hb dL_law_798 rfl (lv_at hl 0 rfl) ?_
  refine lv_iconst (v := 2) hx hb dL_law_799 (by decide) ?_
  refine lv_iadd hx hb dL_law_800 ?_
  refine lv_cg (y := nI (5 * k + 2)) (by rw [show (2 : Int32) = nI 2 from rfl]; exact nI_add _ _) ?_
  refine va_sld hx hb hX hbl hbA hS (vp_in_nI (by omega) (by omega)) dL_law_801 ?_
  refine lv_cg (y := xs (5 * k + 2)) (by rw [nI_clamp (by omega)]) ?_
  refine va_calll (va_runV (As := [.int (xs (5 * k + 1)), .int (xs (5 * k + 2))]) (rest := []) ⟨hx, hb, hml, hown, hg⟩ (k_X10_without l dC dI G _ ax hi T Y fa N B N1 B1 N2 B2 K S M E Z (xs (5 * k + 1)) (xs (5 * k + 2))) (kwV hg mfX10_without wt_685 ⟨Nat.le_of_ble_eq_true rfl, Nat.le_of_ble_eq_true rfl⟩) (preVI hK hXI (hXI.recv hK)) rfl rfl hl.1 rfl (lv_room (Nat.le_of_ble_eq_true rfl)) dL_law_802 ⟨Nat.le_of_ble_eq_true rfl, Nat.le_of_ble_eq_true rfl⟩) hS (fun q _ h => ad_A hAx hA (by decide) hS q h) (ad_A hAx hA (by decide) hS) (fun r1 u1 t1 H1 locs1 ht1 hv1 w1 hB1 hz1 hk1 hS => ?_)
  have hMI := hMI.kept (fr_ad (lo := 0) (hi := 112) hi (by decide) (by decide) (by decide) hk1)
  have hXI : X10I dC dI G ax T Y fa N B N1 B1 N2 B2 K S M E Z H1 := by rw [← ht1]; exact hB1
  refine W.widen (k := 129) (n := 4562) (by omega) (by omega) ?_
  refine lv_pop2_2 hx hb dL_law_805 rfl ?_
  refine lv_aload_n hx hb dL_law_806 rfl (lv_at hl 1 rfl) ?_
  refine lv_aload_n hx hb dL_law_807 rfl (lv_at hl 3 rfl) ?_
  refine lv_iload_n hx hb dL_law_808 rfl (lv_at hl 0 rfl) ?_
  refine lv_iconst (v := 1) hx hb dL_law_809 (by decide) ?_
  refine lv_iadd hx hb dL_law_810 ?_
  refine lv_cg (y := nI (5 * k + 1)) (by rw [show (1 : Int32) = nI 1 from rfl]; exact nI_add _ _) ?_
  refine va_sld hx hb hX hbl hbA hS (vp_in_nI (by omega) (by omega)) dL_law_811 ?_
  refine lv_cg (y := xs (5 * k + 1)) (by rw [nI_clamp (by omega)]) ?_
  refine lv_aload_n hx hb dL_law_812 rfl (lv_at hl 3 rfl) ?_
  refine lv_iload_n hx hb dL_law_813 rfl (lv_at hl 0 rfl) ?_
  refine lv_iconst (v := 2) hx hb dL_law_814 (by decide) ?_
  refine lv_iadd hx hb dL_law_815 ?_
  refine lv_cg (y := nI (5 * k + 2)) (by rw [show (2 : Int32) = nI 2 from rfl]; exact nI_add _ _) ?_
  refine va_sld hx hb hX hbl hbA hS (vp_in_nI (by omega) (by omega)) dL_law_816 ?_
  refine lv_cg (y := xs (5 * k + 2)) (by rw [nI_clamp (by omega)]) ?_
  refine va_calll (va_runV (As := [.int (xs (5 * k + 1)), .int (xs (5 * k + 2))]) (rest := []) ⟨hx, hb, hml, hown, hg⟩ (k_X11_without l dC dI G _ ax hi T Y fa N B N1 B1 N2 B2 K S M E Z (xs (5 * k + 1)) (xs (5 * k + 2))) (kwV hg mfX11_without wt_1166 ⟨Nat.le_of_ble_eq_true rfl, Nat.le_of_ble_eq_true rfl⟩) (preVI hK hMI (hMI.recv hK)) rfl rfl hl.1 rfl (lv_room (Nat.le_of_ble_eq_true rfl)) dL_law_817 ⟨Nat.le_of_ble_eq_true rfl, Nat.le_of_ble_eq_true rfl⟩) hS (fun q _ h => ad_A hAx hA (by decide) hS q h) (ad_A hAx hA (by decide) hS) (fun r2 u2 t2 H2 locs2 ht2 hv2 w2 hB2 hz2 hk2 hS => ?_)
  have hXI := hXI.kept (fr_ad (lo := 112) (hi := 129) hi (by decide) (by decide) (by decide) hk2)
  have hMI : X11I dC dI G ax T Y fa N B N1 B1 N2 B2 K S M E Z H2 := by rw [← ht2]; exact hB2
  refine W.widen (k := 129) (n := 4562) (by omega) (by omega) ?_
  refine lv_pop2_2 hx hb dL_law_820 rfl ?_
  refine lv_goto (tgt := 1381) hx hb dL_law_821 (by decide) ?_
  exact kk _ _ ⟨_, _, _, _, _, _, _, _, _, _, _, _, _, _, hXI, hMI⟩ hS

set_option maxHeartbeats 1000000 in
set_option maxRecDepth 100000 in
theorem lc_quiet {p : Program} {l : Launch} {e : Env} {s : State} {m : MethodId} {below : List Frame} {meth : Method} {c : Code} {b L : Nat} {xs : Nat → Int32} {dC : Nat → ClassId} {dI : Nat → Nat → Nat} {G : Nat → ClassId} {ax adK adV : Nat → Nat} {A : Nat → Prop} {Q : State → Prop} (C1 : lw_C p s m c b L xs dC dI G ax adK adV A) {k : Nat} (hk : 5 * k + 5 ≤ L) (hL : L ≤ 2560) {H : Heap} {locs : List Loc} {ls : Array Slot} (hI : LI dC dI G ax H) (hS : va_S A s.heap H locs) (hl : lv_has ls 4 [(3, .int (nI (5 * k))), (2, .ref (ax 112)), (1, .ref (ax 0)), (0, .ref b)]) (kk : ∀ (H : Heap) (locs : List Loc), LI dC dI G ax H → va_S A s.heap H locs → W p l e room_1 s m #[Value.ref b] below meth c H locs 129 4562 Q (F0 m 1381 ls [])) : W p l e room_1 s m #[Value.ref b] below meth c H locs 129 4562 Q (F0 m 824 ls []) := by
  obtain ⟨hx, hb, hml, hown, hg, hX, hbl, hbA, hK, hi, hAx, hA, hSS⟩ := C1
  obtain ⟨T, Y, fa, N, B, N1, B1, N2, B2, K, S, M, E, Z, hXI, hMI⟩ := hI
  refine lv_aload_n hx hb dL_law_824 rfl (lv_at hl 2 rfl) ?_
  refine lv_aload_n hx hb dL_law_825 rfl (lv_at hl 3 rfl) ?_
  refine lv_iload_n hx hb dL_law_826 rfl (lv_at hl 0 rfl) ?_
  refine lv_iconst (v := 1) hx hb dL_law_827 (by decide) ?_
  refine lv_iadd hx hb dL_law_828 ?_
  refine lv_cg (y := nI (5 * k + 1)) (by rw [show (1 : Int32) = nI 1 from rfl]; exact nI_add _ _) ?_
  refine va_sld hx hb hX hbl hbA hS (vp_in_nI (by omega) (by omega)) dL_law_829 ?_
  refine lv_cg (y := xs (5 * k + 1)) (by rw [nI_clamp (by omega)]) ?_
  refine lv_aload_n hx hb dL_law_830 rfl (lv_at hl 3 rfl) ?_
  refine lv_iload_n hx hb dL_law_831 rfl (lv_at hl 0 rfl) ?_
  refine lv_iconst (v := 2) hx hb dL_law_832 (by decide) ?_
  refine lv_iadd hx hb dL_law_833 ?_
  refine lv_cg (y := nI (5 * k + 2)) (by rw [show (2 : Int32) = nI 2 from rfl]; exact nI_add _ _) ?_
  refine va_sld hx hb hX hbl hbA hS (vp_in_nI (by omega) (by omega)) dL_law_834 ?_
  refine lv_cg (y := xs (5 * k + 2)) (by rw [nI_clamp (by omega)]) ?_
  refine va_calll (va_runV (As := [.int (xs (5 * k + 1)), .int (xs (5 * k + 2))]) (rest := []) ⟨hx, hb, hml, hown, hg⟩ (k_X10_quiet l dC dI G _ ax hi T Y fa N B N1 B1 N2 B2 K S M E Z (xs (5 * k + 1)) (xs (5 * k + 2))) (kwV hg mfX10_quiet wt_690 ⟨Nat.le_of_ble_eq_true rfl, Nat.le_of_ble_eq_true rfl⟩) (preVI hK hXI (hXI.recv hK)) rfl rfl hl.1 rfl (lv_room (Nat.le_of_ble_eq_true rfl)) dL_law_835 ⟨Nat.le_of_ble_eq_true rfl, Nat.le_of_ble_eq_true rfl⟩) hS (fun q _ h => ad_A hAx hA (by decide) hS q h) (ad_A hAx hA (by decide) hS) (fun r1 u1 t1 H1 locs1 ht1 hv1 w1 hB1 hz1 hk1 hS => ?_)
  have hMI := hMI.kept (fr_ad (lo := 0) (hi := 112) hi (by decide) (by decide) (by decide) hk1)
  have hXI : X10I dC dI G ax T Y fa N B N1 B1 N2 B2 K S M E Z H1 := by rw [← ht1]; exact hB1
  refine W.widen (k := 129) (n := 4562) (by omega) (by omega) ?_
  refine lv_pop2_2 hx hb dL_law_838 rfl ?_
  refine lv_aload_n hx hb dL_law_839 rfl (lv_at hl 1 rfl) ?_
  refine lv_aload_n hx hb dL_law_840 rfl (lv_at hl 3 rfl) ?_
  refine lv_iload_n hx hb dL_law_841 rfl (lv_at hl 0 rfl) ?_
  refine lv_iconst (v := 1) hx hb dL_law_842 (by decide) ?_
  refine lv_iadd hx hb dL_law_843 ?_
  refine lv_cg (y := nI (5 * k + 1)) (by rw [show (1 : Int32) = nI 1 from rfl]; exact nI_add _ _) ?_
  refine va_sld hx hb hX hbl hbA hS (vp_in_nI (by omega) (by omega)) dL_law_844 ?_
  refine lv_cg (y := xs (5 * k + 1)) (by rw [nI_clamp (by omega)]) ?_
  refine lv_aload_n hx hb dL_law_845 rfl (lv_at hl 3 rfl) ?_
  refine lv_iload_n hx hb dL_law_846 rfl (lv_at hl 0 rfl) ?_
  refine lv_iconst (v := 2) hx hb dL_law_847 (by decide) ?_
  refine lv_iadd hx hb dL_law_848 ?_
  refine lv_cg (y := nI (5 * k + 2)) (by rw [show (2 : Int32) = nI 2 from rfl]; exact nI_add _ _) ?_
  refine va_sld hx hb hX hbl hbA hS (vp_in_nI (by omega) (by omega)) dL_law_849 ?_
  refine lv_cg (y := xs (5 * k + 2)) (by rw [nI_clamp (by omega)]) ?_
  refine va_calll (va_runV (As := [.int (xs (5 * k + 1)), .int (xs (5 * k + 2))]) (rest := []) ⟨hx, hb, hml, hown, hg⟩ (k_X11_quiet l dC dI G _ ax hi T Y fa N B N1 B1 N2 B2 K S M E Z (xs (5 * k + 1)) (xs (5 * k + 2))) (kwV hg mfX11_quiet wt_1171 ⟨Nat.le_of_ble_eq_true rfl, Nat.le_of_ble_eq_true rfl⟩) (preVI hK hMI (hMI.recv hK)) rfl rfl hl.1 rfl (lv_room (Nat.le_of_ble_eq_true rfl)) dL_law_850 ⟨Nat.le_of_ble_eq_true rfl, Nat.le_of_ble_eq_true rfl⟩) hS (fun q _ h => ad_A hAx hA (by decide) hS q h) (ad_A hAx hA (by decide) hS) (fun r2 u2 t2 H2 locs2 ht2 hv2 w2 hB2 hz2 hk2 hS => ?_)
  have hXI := hXI.kept (fr_ad (lo := 112) (hi := 129) hi (by decide) (by decide) (by decide) hk2)
  have hMI : X11I dC dI G ax T Y fa N B N1 B1 N2 B2 K S M E Z H2 := by rw [← ht2]; exact hB2
  refine W.widen (k := 129) (n := 4562) (by omega) (by omega) ?_
  refine lv_pop2_2 hx hb dL_law_853 rfl ?_
  refine lv_goto (tgt := 1381) hx hb dL_law_854 (by decide) ?_
  exact kk _ _ ⟨_, _, _, _, _, _, _, _, _, _, _, _, _, _, hXI, hMI⟩ hS

set_option maxHeartbeats 1000000 in
set_option maxRecDepth 100000 in
theorem lc_drop {p : Program} {l : Launch} {e : Env} {s : State} {m : MethodId} {below : List Frame} {meth : Method} {c : Code} {b L : Nat} {xs : Nat → Int32} {dC : Nat → ClassId} {dI : Nat → Nat → Nat} {G : Nat → ClassId} {ax adK adV : Nat → Nat} {A : Nat → Prop} {Q : State → Prop} (C1 : lw_C p s m c b L xs dC dI G ax adK adV A) {k : Nat} (hk : 5 * k + 5 ≤ L) (hL : L ≤ 2560) {H : Heap} {locs : List Loc} {ls : Array Slot} (hI : LI dC dI G ax H) (hS : va_S A s.heap H locs) (hl : lv_has ls 4 [(3, .int (nI (5 * k))), (2, .ref (ax 112)), (1, .ref (ax 0)), (0, .ref b)]) (kk : ∀ (H : Heap) (locs : List Loc), LI dC dI G ax H → va_S A s.heap H locs → W p l e room_1 s m #[Value.ref b] below meth c H locs 129 4562 Q (F0 m 1381 ls [])) : W p l e room_1 s m #[Value.ref b] below meth c H locs 129 4562 Q (F0 m 857 ls []) := by
  obtain ⟨hx, hb, hml, hown, hg, hX, hbl, hbA, hK, hi, hAx, hA, hSS⟩ := C1
  obtain ⟨T, Y, fa, N, B, N1, B1, N2, B2, K, S, M, E, Z, hXI, hMI⟩ := hI
  refine lv_aload_n hx hb dL_law_857 rfl (lv_at hl 2 rfl) ?_
  refine lv_aload_n hx hb dL_law_858 rfl (lv_at hl 3 rfl) ?_
  refine lv_iload_n hx hb dL_law_859 rfl (lv_at hl 0 rfl) ?_
  refine lv_iconst (v := 1) hx hb dL_law_860 (by decide) ?_
  refine lv_iadd hx hb dL_law_861 ?_
  refine lv_cg (y := nI (5 * k + 1)) (by rw [show (1 : Int32) = nI 1 from rfl]; exact nI_add _ _) ?_
  refine va_sld hx hb hX hbl hbA hS (vp_in_nI (by omega) (by omega)) dL_law_862 ?_
  refine lv_cg (y := xs (5 * k + 1)) (by rw [nI_clamp (by omega)]) ?_
  refine va_calll (va_runV (As := [.int (xs (5 * k + 1))]) (rest := []) ⟨hx, hb, hml, hown, hg⟩ (k_X10_drop l dC dI G _ ax hi T Y fa N B N1 B1 N2 B2 K S M E Z (xs (5 * k + 1))) (kwV hg mfX10_drop wt_707 ⟨Nat.le_of_ble_eq_true rfl, Nat.le_of_ble_eq_true rfl⟩) (preVI hK hXI (hXI.recv hK)) rfl rfl hl.1 rfl (lv_room (Nat.le_of_ble_eq_true rfl)) dL_law_863 ⟨Nat.le_of_ble_eq_true rfl, Nat.le_of_ble_eq_true rfl⟩) hS (fun q _ h => ad_A hAx hA (by decide) hS q h) (ad_A hAx hA (by decide) hS) (fun r1 u1 t1 H1 locs1 ht1 hv1 w1 hB1 hz1 hk1 hS => ?_)
  have hMI := hMI.kept (fr_ad (lo := 0) (hi := 112) hi (by decide) (by decide) (by decide) hk1)
  have hXI : X10I dC dI G ax T Y fa N B N1 B1 N2 B2 K S M E Z H1 := by rw [← ht1]; exact hB1
  refine W.widen (k := 129) (n := 4562) (by omega) (by omega) ?_
  refine lv_pop2_2 hx hb dL_law_866 rfl ?_
  refine lv_aload_n hx hb dL_law_867 rfl (lv_at hl 1 rfl) ?_
  refine lv_aload_n hx hb dL_law_868 rfl (lv_at hl 3 rfl) ?_
  refine lv_iload_n hx hb dL_law_869 rfl (lv_at hl 0 rfl) ?_
  refine lv_iconst (v := 1) hx hb dL_law_870 (by decide) ?_
  refine lv_iadd hx hb dL_law_871 ?_
  refine lv_cg (y := nI (5 * k + 1)) (by rw [show (1 : Int32) = nI 1 from rfl]; exact nI_add _ _) ?_
  refine va_sld hx hb hX hbl hbA hS (vp_in_nI (by omega) (by omega)) dL_law_872 ?_
  refine lv_cg (y := xs (5 * k + 1)) (by rw [nI_clamp (by omega)]) ?_
  refine va_calll (va_runV (As := [.int (xs (5 * k + 1))]) (rest := []) ⟨hx, hb, hml, hown, hg⟩ (k_X11_drop l dC dI G _ ax hi T Y fa N B N1 B1 N2 B2 K S M E Z (xs (5 * k + 1))) (kwV hg mfX11_drop wt_1179 ⟨Nat.le_of_ble_eq_true rfl, Nat.le_of_ble_eq_true rfl⟩) (preVI hK hMI (hMI.recv hK)) rfl rfl hl.1 rfl (lv_room (Nat.le_of_ble_eq_true rfl)) dL_law_873 ⟨Nat.le_of_ble_eq_true rfl, Nat.le_of_ble_eq_true rfl⟩) hS (fun q _ h => ad_A hAx hA (by decide) hS q h) (ad_A hAx hA (by decide) hS) (fun r2 u2 t2 H2 locs2 ht2 hv2 w2 hB2 hz2 hk2 hS => ?_)
  have hXI := hXI.kept (fr_ad (lo := 112) (hi := 129) hi (by decide) (by decide) (by decide) hk2)
  have hMI : X11I dC dI G ax T Y fa N B N1 B1 N2 B2 K S M E Z H2 := by rw [← ht2]; exact hB2
  refine W.widen (k := 129) (n := 4562) (by omega) (by omega) ?_
  refine lv_pop2_2 hx hb dL_law_876 rfl ?_
  refine lv_goto (tgt := 1381) hx hb dL_law_877 (by decide) ?_
  exact kk _ _ ⟨_, _, _, _, _, _, _, _, _, _, _, _, _, _, hXI, hMI⟩ hS

set_option maxHeartbeats 1000000 in
set_option maxRecDepth 100000 in
theorem lc_swap {p : Program} {l : Launch} {e : Env} {s : State} {m : MethodId} {below : List Frame} {meth : Method} {c : Code} {b L : Nat} {xs : Nat → Int32} {dC : Nat → ClassId} {dI : Nat → Nat → Nat} {G : Nat → ClassId} {ax adK adV : Nat → Nat} {A : Nat → Prop} {Q : State → Prop} (C1 : lw_C p s m c b L xs dC dI G ax adK adV A) {k : Nat} (hk : 5 * k + 5 ≤ L) (hL : L ≤ 2560) {H : Heap} {locs : List Loc} {ls : Array Slot} (hI : LI dC dI G ax H) (hS : va_S A s.heap H locs) (hl : lv_has ls 4 [(3, .int (nI (5 * k))), (2, .ref (ax 112)), (1, .ref (ax 0)), (0, .ref b)]) (kk : ∀ (H : Heap) (locs : List Loc), LI dC dI G ax H → va_S A s.heap H locs → W p l e room_1 s m #[Value.ref b] below meth c H locs 129 4562 Q (F0 m 1381 ls [])) : W p l e room_1 s m #[Value.ref b] below meth c H locs 129 4562 Q (F0 m 880 ls []) := by
  obtain ⟨hx, hb, hml, hown, hg, hX, hbl, hbA, hK, hi, hAx, hA, hSS⟩ := C1
  obtain ⟨T, Y, fa, N, B, N1, B1, N2, B2, K, S, M, E, Z, hXI, hMI⟩ := hI
  refine lv_aload_n hx hb dL_law_880 rfl (lv_at hl 2 rfl) ?_
  refine lv_aload_n hx hb dL_law_881 rfl (lv_at hl 3 rfl) ?_
  refine lv_iload_n hx hb dL_law_882 rfl (lv_at hl 0 rfl) ?_
  refine lv_iconst (v := 1) hx hb dL_law_883 (by decide) ?_
  refine lv_iadd hx hb dL_law_884 ?_
  refine lv_cg (y := nI (5 * k + 1)) (by rw [show (1 : Int32) = nI 1 from rfl]; exact nI_add _ _) ?_
  refine va_sld hx hb hX hbl hbA hS (vp_in_nI (by omega) (by omega)) dL_law_885 ?_
  refine lv_cg (y := xs (5 * k + 1)) (by rw [nI_clamp (by omega)]) ?_
  refine va_calll (va_runV (As := [.int (xs (5 * k + 1))]) (rest := []) ⟨hx, hb, hml, hown, hg⟩ (k_X10_swap l dC dI G _ ax hi T Y fa N B N1 B1 N2 B2 K S M E Z (xs (5 * k + 1))) (kwV hg mfX10_swap wt_711 ⟨Nat.le_of_ble_eq_true rfl, Nat.le_of_ble_eq_true rfl⟩) (preVI hK hXI (hXI.recv hK)) rfl rfl hl.1 rfl (lv_room (Nat.le_of_ble_eq_true rfl)) dL_law_886 ⟨Nat.le_of_ble_eq_true rfl, Nat.le_of_ble_eq_true rfl⟩) hS (fun q _ h => ad_A hAx hA (by decide) hS q h) (ad_A hAx hA (by decide) hS) (fun r1 u1 t1 H1 locs1 ht1 hv1 w1 hB1 hz1 hk1 hS => ?_)
  have hMI := hMI.kept (fr_ad (lo := 0) (hi := 112) hi (by decide) (by decide) (by decide) hk1)
  have hXI : X10I dC dI G ax T Y fa N B N1 B1 N2 B2 K S M E Z H1 := by rw [← ht1]; exact hB1
  refine W.widen (k := 129) (n := 4562) (by omega) (by omega) ?_
  refine lv_pop2_2 hx hb dL_law_889 rfl ?_
  refine lv_aload_n hx hb dL_law_890 rfl (lv_at hl 1 rfl) ?_
  refine lv_aload_n hx hb dL_law_891 rfl (lv_at hl 3 rfl) ?_
  refine lv_iload_n hx hb dL_law_892 rfl (lv_at hl 0 rfl) ?_
  refine lv_iconst (v := 1) hx hb dL_law_893 (by decide) ?_
  refine lv_iadd hx hb dL_law_894 ?_
  refine lv_cg (y := nI (5 * k + 1)) (by rw [show (1 : Int32) = nI 1 from rfl]; exact nI_add _ _) ?_
  refine va_sld hx hb hX hbl hbA hS (vp_in_nI (by omega) (by omega)) dL_law_895 ?_
  refine lv_cg (y := xs (5 * k + 1)) (by rw [nI_clamp (by omega)]) ?_
  refine va_calll (va_runV (As := [.int (xs (5 * k + 1))]) (rest := []) ⟨hx, hb, hml, hown, hg⟩ (k_X11_swap l dC dI G _ ax hi T Y fa N B N1 B1 N2 B2 K S M E Z (xs (5 * k + 1))) (kwV hg mfX11_swap wt_1183 ⟨Nat.le_of_ble_eq_true rfl, Nat.le_of_ble_eq_true rfl⟩) (preVI hK hMI (hMI.recv hK)) rfl rfl hl.1 rfl (lv_room (Nat.le_of_ble_eq_true rfl)) dL_law_896 ⟨Nat.le_of_ble_eq_true rfl, Nat.le_of_ble_eq_true rfl⟩) hS (fun q _ h => ad_A hAx hA (by decide) hS q h) (ad_A hAx hA (by decide) hS) (fun r2 u2 t2 H2 locs2 ht2 hv2 w2 hB2 hz2 hk2 hS => ?_)
  have hXI := hXI.kept (fr_ad (lo := 112) (hi := 129) hi (by decide) (by decide) (by decide) hk2)
  have hMI : X11I dC dI G ax T Y fa N B N1 B1 N2 B2 K S M E Z H2 := by rw [← ht2]; exact hB2
  refine W.widen (k := 129) (n := 4562) (by omega) (by omega) ?_
  refine lv_pop2_2 hx hb dL_law_899 rfl ?_
  refine lv_goto (tgt := 1381) hx hb dL_law_900 (by decide) ?_
  exact kk _ _ ⟨_, _, _, _, _, _, _, _, _, _, _, _, _, _, hXI, hMI⟩ hS

set_option maxHeartbeats 1000000 in
set_option maxRecDepth 100000 in
theorem lc_carry {p : Program} {l : Launch} {e : Env} {s : State} {m : MethodId} {below : List Frame} {meth : Method} {c : Code} {b L : Nat} {xs : Nat → Int32} {dC : Nat → ClassId} {dI : Nat → Nat → Nat} {G : Nat → ClassId} {ax adK adV : Nat → Nat} {A : Nat → Prop} {Q : State → Prop} (C1 : lw_C p s m c b L xs dC dI G ax adK adV A) {k : Nat} (hk : 5 * k + 5 ≤ L) (hL : L ≤ 2560) {H : Heap} {locs : List Loc} {ls : Array Slot} (hI : LI dC dI G ax H) (hS : va_S A s.heap H locs) (hl : lv_has ls 4 [(3, .int (nI (5 * k))), (2, .ref (ax 112)), (1, .ref (ax 0)), (0, .ref b)]) (kk : ∀ (H : Heap) (locs : List Loc), LI dC dI G ax H → va_S A s.heap H locs → W p l e room_1 s m #[Value.ref b] below meth c H locs 129 4562 Q (F0 m 1381 ls [])) : W p l e room_1 s m #[Value.ref b] below meth c H locs 129 4562 Q (F0 m 903 ls []) := by
  obtain ⟨hx, hb, hml, hown, hg, hX, hbl, hbA, hK, hi, hAx, hA, hSS⟩ := C1
  obtain ⟨T, Y, fa, N, B, N1, B1, N2, B2, K, S, M, E, Z, hXI, hMI⟩ := hI
  refine lv_aload_n hx hb dL_law_903 rfl (lv_at hl 2 rfl) ?_
  refine lv_aload_n hx hb dL_law_904 rfl (lv_at hl 3 rfl) ?_
  refine lv_iload_n hx hb dL_law_905 rfl (lv_at hl 0 rfl) ?_
  refine lv_iconst (v := 1) hx hb dL_law_906 (by decide) ?_
  refine lv_iadd hx hb dL_law_907 ?_
  refine lv_cg (y := nI (5 * k + 1)) (by rw [show (1 : Int32) = nI 1 from rfl]; exact nI_add _ _) ?_
  refine va_sld hx hb hX hbl hbA hS (vp_in_nI (by omega) (by omega)) dL_law_908 ?_
  refine lv_cg (y := xs (5 * k + 1)) (by rw [nI_clamp (by omega)]) ?_
  refine lv_aload_n hx hb dL_law_909 rfl (lv_at hl 3 rfl) ?_
  refine lv_iload_n hx hb dL_law_910 rfl (lv_at hl 0 rfl) ?_
  refine lv_iconst (v := 2) hx hb dL_law_911 (by decide) ?_
  refine lv_iadd hx hb dL_law_912 ?_
  refine lv_cg (y := nI (5 * k + 2)) (by rw [show (2 : Int32) = nI 2 from rfl]; exact nI_add _ _) ?_
  refine va_sld hx hb hX hbl hbA hS (vp_in_nI (by omega) (by omega)) dL_law_913 ?_
  refine lv_cg (y := xs (5 * k + 2)) (by rw [nI_clamp (by omega)]) ?_
  refine va_calli (va_runV (As := [.int (xs (5 * k + 1)), .int (xs (5 * k + 2))]) (rest := []) ⟨hx, hb, hml, hown, hg⟩ (k_X10_carry l dC dI G _ ax hi T Y fa N B N1 B1 N2 B2 K S M E Z (xs (5 * k + 1)) (xs (5 * k + 2))) (kwV hg mfX10_carry wt_719 ⟨Nat.le_of_ble_eq_true rfl, Nat.le_of_ble_eq_true rfl⟩) (preVI hK hXI (hXI.recv hK)) rfl rfl hl.1 rfl (lv_room (Nat.le_of_ble_eq_true rfl)) dL_law_914 ⟨Nat.le_of_ble_eq_true rfl, Nat.le_of_ble_eq_true rfl⟩) hS (fun q _ h => ad_A hAx hA (by decide) hS q h) (ad_A hAx hA (by decide) hS) (fun r1 u1 t1 H1 locs1 ht1 hv1 w1 hB1 hz1 hk1 hS => ?_)
  have hMI := hMI.kept (fr_ad (lo := 0) (hi := 112) hi (by decide) (by decide) (by decide) hk1)
  have hXI : X10I dC dI G ax T Y fa N B N1 B1 N2 B2 K S M E Z H1 := by rw [← ht1]; exact hB1
  refine W.widen (k := 129) (n := 4562) (by omega) (by omega) ?_
  refine lv_pop hx hb dL_law_917 rfl ?_
  refine lv_aload_n hx hb dL_law_918 rfl (lv_at hl 1 rfl) ?_
  refine lv_aload_n hx hb dL_law_919 rfl (lv_at hl 3 rfl) ?_
  refine lv_iload_n hx hb dL_law_920 rfl (lv_at hl 0 rfl) ?_
  refine lv_iconst (v := 1) hx hb dL_law_921 (by decide) ?_
  refine lv_iadd hx hb dL_law_922 ?_
  refine lv_cg (y := nI (5 * k + 1)) (by rw [show (1 : Int32) = nI 1 from rfl]; exact nI_add _ _) ?_
  refine va_sld hx hb hX hbl hbA hS (vp_in_nI (by omega) (by omega)) dL_law_923 ?_
  refine lv_cg (y := xs (5 * k + 1)) (by rw [nI_clamp (by omega)]) ?_
  refine lv_aload_n hx hb dL_law_924 rfl (lv_at hl 3 rfl) ?_
  refine lv_iload_n hx hb dL_law_925 rfl (lv_at hl 0 rfl) ?_
  refine lv_iconst (v := 2) hx hb dL_law_926 (by decide) ?_
  refine lv_iadd hx hb dL_law_927 ?_
  refine lv_cg (y := nI (5 * k + 2)) (by rw [show (2 : Int32) = nI 2 from rfl]; exact nI_add _ _) ?_
  refine va_sld hx hb hX hbl hbA hS (vp_in_nI (by omega) (by omega)) dL_law_928 ?_
  refine lv_cg (y := xs (5 * k + 2)) (by rw [nI_clamp (by omega)]) ?_
  refine va_calli (va_runV (As := [.int (xs (5 * k + 1)), .int (xs (5 * k + 2))]) (rest := []) ⟨hx, hb, hml, hown, hg⟩ (k_X11_carry l dC dI G _ ax hi T Y fa N B N1 B1 N2 B2 K S M E Z (xs (5 * k + 1)) (xs (5 * k + 2))) (kwV hg mfX11_carry wt_1191 ⟨Nat.le_of_ble_eq_true rfl, Nat.le_of_ble_eq_true rfl⟩) (preVI hK hMI (hMI.recv hK)) rfl rfl hl.1 rfl (lv_room (Nat.le_of_ble_eq_true rfl)) dL_law_929 ⟨Nat.le_of_ble_eq_true rfl, Nat.le_of_ble_eq_true rfl⟩) hS (fun q _ h => ad_A hAx hA (by decide) hS q h) (ad_A hAx hA (by decide) hS) (fun r2 u2 t2 H2 locs2 ht2 hv2 w2 hB2 hz2 hk2 hS => ?_)
  have hXI := hXI.kept (fr_ad (lo := 112) (hi := 129) hi (by decide) (by decide) (by decide) hk2)
  have hMI : X11I dC dI G ax T Y fa N B N1 B1 N2 B2 K S M E Z H2 := by rw [← ht2]; exact hB2
  refine W.widen (k := 129) (n := 4562) (by omega) (by omega) ?_
  refine lv_pop hx hb dL_law_932 rfl ?_
  refine lv_goto (tgt := 1381) hx hb dL_law_933 (by decide) ?_
  exact kk _ _ ⟨_, _, _, _, _, _, _, _, _, _, _, _, _, _, hXI, hMI⟩ hS

set_option maxHeartbeats 1000000 in
set_option maxRecDepth 100000 in
theorem lc_learn {p : Program} {l : Launch} {e : Env} {s : State} {m : MethodId} {below : List Frame} {meth : Method} {c : Code} {b L : Nat} {xs : Nat → Int32} {dC : Nat → ClassId} {dI : Nat → Nat → Nat} {G : Nat → ClassId} {ax adK adV : Nat → Nat} {A : Nat → Prop} {Q : State → Prop} (C1 : lw_C p s m c b L xs dC dI G ax adK adV A) {k : Nat} (hk : 5 * k + 5 ≤ L) (hL : L ≤ 2560) {H : Heap} {locs : List Loc} {ls : Array Slot} (hI : LI dC dI G ax H) (hS : va_S A s.heap H locs) (hl : lv_has ls 4 [(3, .int (nI (5 * k))), (2, .ref (ax 112)), (1, .ref (ax 0)), (0, .ref b)]) (kk : ∀ (H : Heap) (locs : List Loc), LI dC dI G ax H → va_S A s.heap H locs → W p l e room_1 s m #[Value.ref b] below meth c H locs 129 4562 Q (F0 m 1381 ls [])) : W p l e room_1 s m #[Value.ref b] below meth c H locs 129 4562 Q (F0 m 936 ls []) := by
  obtain ⟨hx, hb, hml, hown, hg, hX, hbl, hbA, hK, hi, hAx, hA, hSS⟩ := C1
  obtain ⟨T, Y, fa, N, B, N1, B1, N2, B2, K, S, M, E, Z, hXI, hMI⟩ := hI
  refine lv_aload_n hx hb dL_law_936 rfl (lv_at hl 2 rfl) ?_
  refine lv_aload_n hx hb dL_law_937 rfl (lv_at hl 3 rfl) ?_
  refine lv_iload_n hx hb dL_law_938 rfl (lv_at hl 0 rfl) ?_
  refine lv_iconst (v := 1) hx hb dL_law_939 (by decide) ?_
  refine lv_iadd hx hb dL_law_940 ?_
  refine lv_cg (y := nI (5 * k + 1)) (by rw [show (1 : Int32) = nI 1 from rfl]; exact nI_add _ _) ?_
  refine va_sld hx hb hX hbl hbA hS (vp_in_nI (by omega) (by omega)) dL_law_941 ?_
  refine lv_cg (y := xs (5 * k + 1)) (by rw [nI_clamp (by omega)]) ?_
  refine lv_aload_n hx hb dL_law_942 rfl (lv_at hl 3 rfl) ?_
  refine lv_iload_n hx hb dL_law_943 rfl (lv_at hl 0 rfl) ?_
  refine lv_iconst (v := 2) hx hb dL_law_944 (by decide) ?_
  refine lv_iadd hx hb dL_law_945 ?_
  refine lv_cg (y := nI (5 * k + 2)) (by rw [show (2 : Int32) = nI 2 from rfl]; exact nI_add _ _) ?_
  refine va_sld hx hb hX hbl hbA hS (vp_in_nI (by omega) (by omega)) dL_law_946 ?_
  refine lv_cg (y := xs (5 * k + 2)) (by rw [nI_clamp (by omega)]) ?_
  refine lv_aload_n hx hb dL_law_947 rfl (lv_at hl 3 rfl) ?_
  refine lv_iload_n hx hb dL_law_948 rfl (lv_at hl 0 rfl) ?_
  refine lv_iconst (v := 3) hx hb dL_law_949 (by decide) ?_
  refine lv_iadd hx hb dL_law_950 ?_
  refine lv_cg (y := nI (5 * k + 3)) (by rw [show (3 : Int32) = nI 3 from rfl]; exact nI_add _ _) ?_
  refine va_sld hx hb hX hbl hbA hS (vp_in_nI (by omega) (by omega)) dL_law_951 ?_
  refine lv_cg (y := xs (5 * k + 3)) (by rw [nI_clamp (by omega)]) ?_
  refine lv_aload_n hx hb dL_law_952 rfl (lv_at hl 3 rfl) ?_
  refine lv_iload_n hx hb dL_law_953 rfl (lv_at hl 0 rfl) ?_
  refine lv_iconst (v := 4) hx hb dL_law_954 (by decide) ?_
  refine lv_iadd hx hb dL_law_955 ?_
  refine lv_cg (y := nI (5 * k + 4)) (by rw [show (4 : Int32) = nI 4 from rfl]; exact nI_add _ _) ?_
  refine va_sld hx hb hX hbl hbA hS (vp_in_nI (by omega) (by omega)) dL_law_956 ?_
  refine lv_cg (y := xs (5 * k + 4)) (by rw [nI_clamp (by omega)]) ?_
  refine va_calli (va_runV (As := [.int (xs (5 * k + 1)), .int (xs (5 * k + 2)), .int (xs (5 * k + 3)), .int (xs (5 * k + 4))]) (rest := []) ⟨hx, hb, hml, hown, hg⟩ (k_X10_learnE l dC dI G _ ax hi T Y fa N B N1 B1 N2 B2 K S M E Z (xs (5 * k + 1)) (xs (5 * k + 2)) (xs (5 * k + 3)) (xs (5 * k + 4))) (kwV hg mfX10_learn wt_730 ⟨Nat.le_of_ble_eq_true rfl, Nat.le_of_ble_eq_true rfl⟩) (preVI hK hXI (hXI.recv hK)) rfl rfl hl.1 rfl (lv_room (Nat.le_of_ble_eq_true rfl)) dL_law_957 ⟨Nat.le_of_ble_eq_true rfl, Nat.le_of_ble_eq_true rfl⟩) hS (fun q _ h => ad_A hAx hA (by decide) hS q h) (ad_A hAx hA (by decide) hS) (fun r1 u1 t1 H1 locs1 ht1 hv1 w1 hB1 hz1 hk1 hS => ?_)
  have hMI := hMI.kept (fr_ad (lo := 0) (hi := 112) hi (by decide) (by decide) (by decide) hk1)
  have hXI : X10I dC dI G ax T Y fa N B N1 B1 N2 B2 K (if ((0 ≤ (xs (5 * k + 1)).toInt ∧ (xs (5 * k + 1)).toInt < ((N : Nat) : Int)) ∧ ((xs (5 * k + 2)).toInt = -4 ∨ (0 ≤ (xs (5 * k + 2)).toInt ∧ (xs (5 * k + 2)).toInt < ((B : Nat) : Int))) ∧ (0 ≤ (xs (5 * k + 3)).toInt ∧ (xs (5 * k + 3)).toInt < ((B : Nat) : Int)) ∧ 0 ≤ (xs (5 * k + 4)).toInt ∧ (xs (5 * k + 4)).toInt ≤ 20) ∧ S < 8 then S + 1 else S) M E Z H1 := by rw [← ht1]; exact hB1
  refine W.widen (k := 129) (n := 4562) (by omega) (by omega) ?_
  refine lv_pop hx hb dL_law_960 rfl ?_
  refine lv_aload_n hx hb dL_law_961 rfl (lv_at hl 1 rfl) ?_
  refine lv_aload_n hx hb dL_law_962 rfl (lv_at hl 3 rfl) ?_
  refine lv_iload_n hx hb dL_law_963 rfl (lv_at hl 0 rfl) ?_
  refine lv_iconst (v := 1) hx hb dL_law_964 (by decide) ?_
  refine lv_iadd hx hb dL_law_965 ?_
  refine lv_cg (y := nI (5 * k + 1)) (by rw [show (1 : Int32) = nI 1 from rfl]; exact nI_add _ _) ?_
  refine va_sld hx hb hX hbl hbA hS (vp_in_nI (by omega) (by omega)) dL_law_966 ?_
  refine lv_cg (y := xs (5 * k + 1)) (by rw [nI_clamp (by omega)]) ?_
  refine lv_aload_n hx hb dL_law_967 rfl (lv_at hl 3 rfl) ?_
  refine lv_iload_n hx hb dL_law_968 rfl (lv_at hl 0 rfl) ?_
  refine lv_iconst (v := 2) hx hb dL_law_969 (by decide) ?_
  refine lv_iadd hx hb dL_law_970 ?_
  refine lv_cg (y := nI (5 * k + 2)) (by rw [show (2 : Int32) = nI 2 from rfl]; exact nI_add _ _) ?_
  refine va_sld hx hb hX hbl hbA hS (vp_in_nI (by omega) (by omega)) dL_law_971 ?_
  refine lv_cg (y := xs (5 * k + 2)) (by rw [nI_clamp (by omega)]) ?_
  refine lv_aload_n hx hb dL_law_972 rfl (lv_at hl 3 rfl) ?_
  refine lv_iload_n hx hb dL_law_973 rfl (lv_at hl 0 rfl) ?_
  refine lv_iconst (v := 3) hx hb dL_law_974 (by decide) ?_
  refine lv_iadd hx hb dL_law_975 ?_
  refine lv_cg (y := nI (5 * k + 3)) (by rw [show (3 : Int32) = nI 3 from rfl]; exact nI_add _ _) ?_
  refine va_sld hx hb hX hbl hbA hS (vp_in_nI (by omega) (by omega)) dL_law_976 ?_
  refine lv_cg (y := xs (5 * k + 3)) (by rw [nI_clamp (by omega)]) ?_
  refine lv_aload_n hx hb dL_law_977 rfl (lv_at hl 3 rfl) ?_
  refine lv_iload_n hx hb dL_law_978 rfl (lv_at hl 0 rfl) ?_
  refine lv_iconst (v := 4) hx hb dL_law_979 (by decide) ?_
  refine lv_iadd hx hb dL_law_980 ?_
  refine lv_cg (y := nI (5 * k + 4)) (by rw [show (4 : Int32) = nI 4 from rfl]; exact nI_add _ _) ?_
  refine va_sld hx hb hX hbl hbA hS (vp_in_nI (by omega) (by omega)) dL_law_981 ?_
  refine lv_cg (y := xs (5 * k + 4)) (by rw [nI_clamp (by omega)]) ?_
  refine va_calli (va_runV (As := [.int (xs (5 * k + 1)), .int (xs (5 * k + 2)), .int (xs (5 * k + 3)), .int (xs (5 * k + 4))]) (rest := []) ⟨hx, hb, hml, hown, hg⟩ (k_X11_learnE l dC dI G _ ax hi T Y fa N B N1 B1 N2 B2 K S M E Z (xs (5 * k + 1)) (xs (5 * k + 2)) (xs (5 * k + 3)) (xs (5 * k + 4))) (kwV hg mfX11_learn wt_1196 ⟨Nat.le_of_ble_eq_true rfl, Nat.le_of_ble_eq_true rfl⟩) (preVI hK hMI (hMI.recv hK)) rfl rfl hl.1 rfl (lv_room (Nat.le_of_ble_eq_true rfl)) dL_law_982 ⟨Nat.le_of_ble_eq_true rfl, Nat.le_of_ble_eq_true rfl⟩) hS (fun q _ h => ad_A hAx hA (by decide) hS q h) (ad_A hAx hA (by decide) hS) (fun r2 u2 t2 H2 locs2 ht2 hv2 w2 hB2 hz2 hk2 hS => ?_)
  have hXI := hXI.kept (fr_ad (lo := 112) (hi := 129) hi (by decide) (by decide) (by decide) hk2)
  have hMI : X11I dC dI G ax T Y fa N B N1 B1 N2 B2 K (if ((0 ≤ (xs (5 * k + 1)).toInt ∧ (xs (5 * k + 1)).toInt < ((N : Nat) : Int)) ∧ ((xs (5 * k + 2)).toInt = -4 ∨ (0 ≤ (xs (5 * k + 2)).toInt ∧ (xs (5 * k + 2)).toInt < ((B : Nat) : Int))) ∧ (0 ≤ (xs (5 * k + 3)).toInt ∧ (xs (5 * k + 3)).toInt < ((B : Nat) : Int)) ∧ 0 ≤ (xs (5 * k + 4)).toInt ∧ (xs (5 * k + 4)).toInt ≤ 20) ∧ S < 8 then S + 1 else S) M E Z H2 := by rw [← ht2]; exact hB2
  refine W.widen (k := 129) (n := 4562) (by omega) (by omega) ?_
  refine lv_pop hx hb dL_law_985 rfl ?_
  refine lv_goto (tgt := 1381) hx hb dL_law_986 (by decide) ?_
  exact kk _ _ ⟨_, _, _, _, _, _, _, _, _, _, _, _, _, _, hXI, hMI⟩ hS

set_option maxHeartbeats 1000000 in
set_option maxRecDepth 100000 in
theorem lc_forget {p : Program} {l : Launch} {e : Env} {s : State} {m : MethodId} {below : List Frame} {meth : Method} {c : Code} {b L : Nat} {xs : Nat → Int32} {dC : Nat → ClassId} {dI : Nat → Nat → Nat} {G : Nat → ClassId} {ax adK adV : Nat → Nat} {A : Nat → Prop} {Q : State → Prop} (C1 : lw_C p s m c b L xs dC dI G ax adK adV A) {k : Nat} (hk : 5 * k + 5 ≤ L) (hL : L ≤ 2560) {H : Heap} {locs : List Loc} {ls : Array Slot} (hI : LI dC dI G ax H) (hS : va_S A s.heap H locs) (hl : lv_has ls 4 [(3, .int (nI (5 * k))), (2, .ref (ax 112)), (1, .ref (ax 0)), (0, .ref b)]) (kk : ∀ (H : Heap) (locs : List Loc), LI dC dI G ax H → va_S A s.heap H locs → W p l e room_1 s m #[Value.ref b] below meth c H locs 129 4562 Q (F0 m 1381 ls [])) : W p l e room_1 s m #[Value.ref b] below meth c H locs 129 4562 Q (F0 m 989 ls []) := by
  obtain ⟨hx, hb, hml, hown, hg, hX, hbl, hbA, hK, hi, hAx, hA, hSS⟩ := C1
  obtain ⟨T, Y, fa, N, B, N1, B1, N2, B2, K, S, M, E, Z, hXI, hMI⟩ := hI
  refine lv_aload_n hx hb dL_law_989 rfl (lv_at hl 2 rfl) ?_
  refine lv_aload_n hx hb dL_law_990 rfl (lv_at hl 3 rfl) ?_
  refine lv_iload_n hx hb dL_law_991 rfl (lv_at hl 0 rfl) ?_
  refine lv_iconst (v := 1) hx hb dL_law_992 (by decide) ?_
  refine lv_iadd hx hb dL_law_993 ?_
  refine lv_cg (y := nI (5 * k + 1)) (by rw [show (1 : Int32) = nI 1 from rfl]; exact nI_add _ _) ?_
  refine va_sld hx hb hX hbl hbA hS (vp_in_nI (by omega) (by omega)) dL_law_994 ?_
  refine lv_cg (y := xs (5 * k + 1)) (by rw [nI_clamp (by omega)]) ?_
  refine va_calli (va_runV (As := [.int (xs (5 * k + 1))]) (rest := []) ⟨hx, hb, hml, hown, hg⟩ (k_X10_forgetE l dC dI G _ ax hi T Y fa N B N1 B1 N2 B2 K S M E Z (xs (5 * k + 1))) (kwV hg mfX10_forget wt_738 ⟨Nat.le_of_ble_eq_true rfl, Nat.le_of_ble_eq_true rfl⟩) (preVI hK hXI (hXI.recv hK)) rfl rfl hl.1 rfl (lv_room (Nat.le_of_ble_eq_true rfl)) dL_law_995 ⟨Nat.le_of_ble_eq_true rfl, Nat.le_of_ble_eq_true rfl⟩) hS (fun q _ h => ad_A hAx hA (by decide) hS q h) (ad_A hAx hA (by decide) hS) (fun r1 u1 t1 H1 locs1 ht1 hv1 w1 hB1 hz1 hk1 hS => ?_)
  have hMI := hMI.kept (fr_ad (lo := 0) (hi := 112) hi (by decide) (by decide) (by decide) hk1)
  have hXI : X10I dC dI G ax T Y fa N B N1 B1 N2 B2 K (if 0 ≤ (xs (5 * k + 1)).toInt ∧ (xs (5 * k + 1)).toInt ≤ ((S : Nat) : Int) then (xs (5 * k + 1)).toNatClampNeg else S) M E Z H1 := by rw [← ht1]; exact hB1
  refine W.widen (k := 129) (n := 4562) (by omega) (by omega) ?_
  refine lv_pop hx hb dL_law_998 rfl ?_
  refine lv_aload_n hx hb dL_law_999 rfl (lv_at hl 1 rfl) ?_
  refine lv_aload_n hx hb dL_law_1000 rfl (lv_at hl 3 rfl) ?_
  refine lv_iload_n hx hb dL_law_1001 rfl (lv_at hl 0 rfl) ?_
  refine lv_iconst (v := 1) hx hb dL_law_1002 (by decide) ?_
  refine lv_iadd hx hb dL_law_1003 ?_
  refine lv_cg (y := nI (5 * k + 1)) (by rw [show (1 : Int32) = nI 1 from rfl]; exact nI_add _ _) ?_
  refine va_sld hx hb hX hbl hbA hS (vp_in_nI (by omega) (by omega)) dL_law_1004 ?_
  refine lv_cg (y := xs (5 * k + 1)) (by rw [nI_clamp (by omega)]) ?_
  refine va_calli (va_runV (As := [.int (xs (5 * k + 1))]) (rest := []) ⟨hx, hb, hml, hown, hg⟩ (k_X11_forgetE l dC dI G _ ax hi T Y fa N B N1 B1 N2 B2 K S M E Z (xs (5 * k + 1))) (kwV hg mfX11_forget wt_1200 ⟨Nat.le_of_ble_eq_true rfl, Nat.le_of_ble_eq_true rfl⟩) (preVI hK hMI (hMI.recv hK)) rfl rfl hl.1 rfl (lv_room (Nat.le_of_ble_eq_true rfl)) dL_law_1005 ⟨Nat.le_of_ble_eq_true rfl, Nat.le_of_ble_eq_true rfl⟩) hS (fun q _ h => ad_A hAx hA (by decide) hS q h) (ad_A hAx hA (by decide) hS) (fun r2 u2 t2 H2 locs2 ht2 hv2 w2 hB2 hz2 hk2 hS => ?_)
  have hXI := hXI.kept (fr_ad (lo := 112) (hi := 129) hi (by decide) (by decide) (by decide) hk2)
  have hMI : X11I dC dI G ax T Y fa N B N1 B1 N2 B2 K (if 0 ≤ (xs (5 * k + 1)).toInt ∧ (xs (5 * k + 1)).toInt ≤ ((S : Nat) : Int) then (xs (5 * k + 1)).toNatClampNeg else S) M E Z H2 := by rw [← ht2]; exact hB2
  refine W.widen (k := 129) (n := 4562) (by omega) (by omega) ?_
  refine lv_pop hx hb dL_law_1008 rfl ?_
  refine lv_goto (tgt := 1381) hx hb dL_law_1009 (by decide) ?_
  exact kk _ _ ⟨_, _, _, _, _, _, _, _, _, _, _, _, _, _, hXI, hMI⟩ hS

set_option maxHeartbeats 1000000 in
set_option maxRecDepth 100000 in
theorem lc_steps {p : Program} {l : Launch} {e : Env} {s : State} {m : MethodId} {below : List Frame} {meth : Method} {c : Code} {b L : Nat} {xs : Nat → Int32} {dC : Nat → ClassId} {dI : Nat → Nat → Nat} {G : Nat → ClassId} {ax adK adV : Nat → Nat} {A : Nat → Prop} {Q : State → Prop} (C1 : lw_C p s m c b L xs dC dI G ax adK adV A) {k : Nat} (hk : 5 * k + 5 ≤ L) (hL : L ≤ 2560) {H : Heap} {locs : List Loc} {ls : Array Slot} (hI : LI dC dI G ax H) (hS : va_S A s.heap H locs) (hl : lv_has ls 4 [(3, .int (nI (5 * k))), (2, .ref (ax 112)), (1, .ref (ax 0)), (0, .ref b)]) (kk : ∀ (H : Heap) (locs : List Loc), LI dC dI G ax H → va_S A s.heap H locs → W p l e room_1 s m #[Value.ref b] below meth c H locs 129 4562 Q (F0 m 1381 ls [])) : W p l e room_1 s m #[Value.ref b] below meth c H locs 129 4562 Q (F0 m 1012 ls []) := by
  obtain ⟨hx, hb, hml, hown, hg, hX, hbl, hbA, hK, hi, hAx, hA, hSS⟩ := C1
  obtain ⟨T, Y, fa, N, B, N1, B1, N2, B2, K, S, M, E, Z, hXI, hMI⟩ := hI
  refine lv_aload_n hx hb dL_law_1012 rfl (lv_at hl 2 rfl) ?_
  refine lv_aload_n hx hb dL_law_1013 rfl (lv_at hl 3 rfl) ?_
  refine lv_iload_n hx hb dL_law_1014 rfl (lv_at hl 0 rfl) ?_
  refine lv_iconst (v := 1) hx hb dL_law_1015 (by decide) ?_
  refine lv_iadd hx hb dL_law_1016 ?_
  refine lv_cg (y := nI (5 * k + 1)) (by rw [show (1 : Int32) = nI 1 from rfl]; exact nI_add _ _) ?_
  refine va_sld hx hb hX hbl hbA hS (vp_in_nI (by omega) (by omega)) dL_law_1017 ?_
  refine lv_cg (y := xs (5 * k + 1)) (by rw [nI_clamp (by omega)]) ?_
  refine lv_aload_n hx hb dL_law_1018 rfl (lv_at hl 3 rfl) ?_
  refine lv_iload_n hx hb dL_law_1019 rfl (lv_at hl 0 rfl) ?_
  refine lv_iconst (v := 2) hx hb dL_law_1020 (by decide) ?_
  refine lv_iadd hx hb dL_law_1021 ?_
  refine lv_cg (y := nI (5 * k + 2)) (by rw [show (2 : Int32) = nI 2 from rfl]; exact nI_add _ _) ?_
  refine va_sld hx hb hX hbl hbA hS (vp_in_nI (by omega) (by omega)) dL_law_1022 ?_
  refine lv_cg (y := xs (5 * k + 2)) (by rw [nI_clamp (by omega)]) ?_
  refine va_calli (va_runV (As := [.int (xs (5 * k + 1)), .int (xs (5 * k + 2))]) (rest := []) ⟨hx, hb, hml, hown, hg⟩ (k_X10_steps l dC dI G _ ax hi T Y fa N B N1 B1 N2 B2 K S M E Z (xs (5 * k + 1)) (xs (5 * k + 2))) (kwV hg mfX10_steps wt_742 ⟨Nat.le_of_ble_eq_true rfl, Nat.le_of_ble_eq_true rfl⟩) (preVI hK hXI (hXI.recv hK)) rfl rfl hl.1 rfl (lv_room (Nat.le_of_ble_eq_true rfl)) dL_law_1023 ⟨Nat.le_of_ble_eq_true rfl, Nat.le_of_ble_eq_true rfl⟩) hS (fun q _ h => ad_A hAx hA (by decide) hS q h) (ad_A hAx hA (by decide) hS) (fun r1 u1 t1 H1 locs1 ht1 hv1 w1 hB1 hz1 hk1 hS => ?_)
  have hMI := hMI.kept (fr_ad (lo := 0) (hi := 112) hi (by decide) (by decide) (by decide) hk1)
  have hXI : X10I dC dI G ax T Y fa N B N1 B1 N2 B2 K S M E Z H1 := by rw [← ht1]; exact hB1
  refine W.widen (k := 129) (n := 4562) (by omega) (by omega) ?_
  refine lv_pop hx hb dL_law_1026 rfl ?_
  refine lv_aload_n hx hb dL_law_1027 rfl (lv_at hl 1 rfl) ?_
  refine lv_aload_n hx hb dL_law_1028 rfl (lv_at hl 3 rfl) ?_
  refine lv_iload_n hx hb dL_law_1029 rfl (lv_at hl 0 rfl) ?_
  refine lv_iconst (v := 1) hx hb dL_law_1030 (by decide) ?_
  refine lv_iadd hx hb dL_law_1031 ?_
  refine lv_cg (y := nI (5 * k + 1)) (by rw [show (1 : Int32) = nI 1 from rfl]; exact nI_add _ _) ?_
  refine va_sld hx hb hX hbl hbA hS (vp_in_nI (by omega) (by omega)) dL_law_1032 ?_
  refine lv_cg (y := xs (5 * k + 1)) (by rw [nI_clamp (by omega)]) ?_
  refine lv_aload_n hx hb dL_law_1033 rfl (lv_at hl 3 rfl) ?_
  refine lv_iload_n hx hb dL_law_1034 rfl (lv_at hl 0 rfl) ?_
  refine lv_iconst (v := 2) hx hb dL_law_1035 (by decide) ?_
  refine lv_iadd hx hb dL_law_1036 ?_
  refine lv_cg (y := nI (5 * k + 2)) (by rw [show (2 : Int32) = nI 2 from rfl]; exact nI_add _ _) ?_
  refine va_sld hx hb hX hbl hbA hS (vp_in_nI (by omega) (by omega)) dL_law_1037 ?_
  refine lv_cg (y := xs (5 * k + 2)) (by rw [nI_clamp (by omega)]) ?_
  refine va_calli (va_runV (As := [.int (xs (5 * k + 1)), .int (xs (5 * k + 2))]) (rest := []) ⟨hx, hb, hml, hown, hg⟩ (k_X11_steps l dC dI G _ ax hi T Y fa N B N1 B1 N2 B2 K S M E Z (xs (5 * k + 1)) (xs (5 * k + 2))) (kwV hg mfX11_steps wt_1204 ⟨Nat.le_of_ble_eq_true rfl, Nat.le_of_ble_eq_true rfl⟩) (preVI hK hMI (hMI.recv hK)) rfl rfl hl.1 rfl (lv_room (Nat.le_of_ble_eq_true rfl)) dL_law_1038 ⟨Nat.le_of_ble_eq_true rfl, Nat.le_of_ble_eq_true rfl⟩) hS (fun q _ h => ad_A hAx hA (by decide) hS q h) (ad_A hAx hA (by decide) hS) (fun r2 u2 t2 H2 locs2 ht2 hv2 w2 hB2 hz2 hk2 hS => ?_)
  have hXI := hXI.kept (fr_ad (lo := 112) (hi := 129) hi (by decide) (by decide) (by decide) hk2)
  have hMI : X11I dC dI G ax T Y fa N B N1 B1 N2 B2 K S M E Z H2 := by rw [← ht2]; exact hB2
  refine W.widen (k := 129) (n := 4562) (by omega) (by omega) ?_
  refine lv_pop hx hb dL_law_1041 rfl ?_
  refine lv_goto (tgt := 1381) hx hb dL_law_1042 (by decide) ?_
  exact kk _ _ ⟨_, _, _, _, _, _, _, _, _, _, _, _, _, _, hXI, hMI⟩ hS

set_option maxHeartbeats 1000000 in
set_option maxRecDepth 100000 in
theorem lc_mark {p : Program} {l : Launch} {e : Env} {s : State} {m : MethodId} {below : List Frame} {meth : Method} {c : Code} {b L : Nat} {xs : Nat → Int32} {dC : Nat → ClassId} {dI : Nat → Nat → Nat} {G : Nat → ClassId} {ax adK adV : Nat → Nat} {A : Nat → Prop} {Q : State → Prop} (C1 : lw_C p s m c b L xs dC dI G ax adK adV A) {k : Nat} (hk : 5 * k + 5 ≤ L) (hL : L ≤ 2560) {H : Heap} {locs : List Loc} {ls : Array Slot} (hI : LI dC dI G ax H) (hS : va_S A s.heap H locs) (hl : lv_has ls 4 [(3, .int (nI (5 * k))), (2, .ref (ax 112)), (1, .ref (ax 0)), (0, .ref b)]) (kk : ∀ (H : Heap) (locs : List Loc), LI dC dI G ax H → va_S A s.heap H locs → W p l e room_1 s m #[Value.ref b] below meth c H locs 129 4562 Q (F0 m 1381 ls [])) : W p l e room_1 s m #[Value.ref b] below meth c H locs 129 4562 Q (F0 m 1045 ls []) := by
  obtain ⟨hx, hb, hml, hown, hg, hX, hbl, hbA, hK, hi, hAx, hA, hSS⟩ := C1
  obtain ⟨T, Y, fa, N, B, N1, B1, N2, B2, K, S, M, E, Z, hXI, hMI⟩ := hI
  refine lv_aload_n hx hb dL_law_1045 rfl (lv_at hl 2 rfl) ?_
  refine lv_aload_n hx hb dL_law_1046 rfl (lv_at hl 3 rfl) ?_
  refine lv_iload_n hx hb dL_law_1047 rfl (lv_at hl 0 rfl) ?_
  refine lv_iconst (v := 1) hx hb dL_law_1048 (by decide) ?_
  refine lv_iadd hx hb dL_law_1049 ?_
  refine lv_cg (y := nI (5 * k + 1)) (by rw [show (1 : Int32) = nI 1 from rfl]; exact nI_add _ _) ?_
  refine va_sld hx hb hX hbl hbA hS (vp_in_nI (by omega) (by omega)) dL_law_1050 ?_
  refine lv_cg (y := xs (5 * k + 1)) (by rw [nI_clamp (by omega)]) ?_
  refine lv_aload_n hx hb dL_law_1051 rfl (lv_at hl 3 rfl) ?_
  refine lv_iload_n hx hb dL_law_1052 rfl (lv_at hl 0 rfl) ?_
  refine lv_iconst (v := 2) hx hb dL_law_1053 (by decide) ?_
  refine lv_iadd hx hb dL_law_1054 ?_
  refine lv_cg (y := nI (5 * k + 2)) (by rw [show (2 : Int32) = nI 2 from rfl]; exact nI_add _ _) ?_
  refine va_sld hx hb hX hbl hbA hS (vp_in_nI (by omega) (by omega)) dL_law_1055 ?_
  refine lv_cg (y := xs (5 * k + 2)) (by rw [nI_clamp (by omega)]) ?_
  refine va_calli (va_runV (As := [.int (xs (5 * k + 1)), .int (xs (5 * k + 2))]) (rest := []) ⟨hx, hb, hml, hown, hg⟩ (k_X10_markE l dC dI G _ ax hi T Y fa N B N1 B1 N2 B2 K S M E Z (xs (5 * k + 1)) (xs (5 * k + 2))) (kwV hg mfX10_mark wt_751 ⟨Nat.le_of_ble_eq_true rfl, Nat.le_of_ble_eq_true rfl⟩) (preVI hK hXI (hXI.recv hK)) rfl rfl hl.1 rfl (lv_room (Nat.le_of_ble_eq_true rfl)) dL_law_1056 ⟨Nat.le_of_ble_eq_true rfl, Nat.le_of_ble_eq_true rfl⟩) hS (fun q _ h => ad_A hAx hA (by decide) hS q h) (ad_A hAx hA (by decide) hS) (fun r1 u1 t1 H1 locs1 ht1 hv1 w1 hB1 hz1 hk1 hS => ?_)
  have hMI := hMI.kept (fr_ad (lo := 0) (hi := 112) hi (by decide) (by decide) (by decide) hk1)
  have hXI : X10I dC dI G ax T Y fa N B N1 B1 N2 B2 K S (if ((0 ≤ (xs (5 * k + 1)).toInt ∧ (xs (5 * k + 1)).toInt < ((N : Nat) : Int)) ∧ 0 ≤ (xs (5 * k + 2)).toInt ∧ (xs (5 * k + 2)).toInt ≤ 9) ∧ M < 6 then M + 1 else M) E Z H1 := by rw [← ht1]; exact hB1
  refine W.widen (k := 129) (n := 4562) (by omega) (by omega) ?_
  refine lv_pop hx hb dL_law_1059 rfl ?_
  refine lv_aload_n hx hb dL_law_1060 rfl (lv_at hl 1 rfl) ?_
  refine lv_aload_n hx hb dL_law_1061 rfl (lv_at hl 3 rfl) ?_
  refine lv_iload_n hx hb dL_law_1062 rfl (lv_at hl 0 rfl) ?_
  refine lv_iconst (v := 1) hx hb dL_law_1063 (by decide) ?_
  refine lv_iadd hx hb dL_law_1064 ?_
  refine lv_cg (y := nI (5 * k + 1)) (by rw [show (1 : Int32) = nI 1 from rfl]; exact nI_add _ _) ?_
  refine va_sld hx hb hX hbl hbA hS (vp_in_nI (by omega) (by omega)) dL_law_1065 ?_
  refine lv_cg (y := xs (5 * k + 1)) (by rw [nI_clamp (by omega)]) ?_
  refine lv_aload_n hx hb dL_law_1066 rfl (lv_at hl 3 rfl) ?_
  refine lv_iload_n hx hb dL_law_1067 rfl (lv_at hl 0 rfl) ?_
  refine lv_iconst (v := 2) hx hb dL_law_1068 (by decide) ?_
  refine lv_iadd hx hb dL_law_1069 ?_
  refine lv_cg (y := nI (5 * k + 2)) (by rw [show (2 : Int32) = nI 2 from rfl]; exact nI_add _ _) ?_
  refine va_sld hx hb hX hbl hbA hS (vp_in_nI (by omega) (by omega)) dL_law_1070 ?_
  refine lv_cg (y := xs (5 * k + 2)) (by rw [nI_clamp (by omega)]) ?_
  refine va_calli (va_runV (As := [.int (xs (5 * k + 1)), .int (xs (5 * k + 2))]) (rest := []) ⟨hx, hb, hml, hown, hg⟩ (k_X11_markE l dC dI G _ ax hi T Y fa N B N1 B1 N2 B2 K S M E Z (xs (5 * k + 1)) (xs (5 * k + 2))) (kwV hg mfX11_mark wt_1208 ⟨Nat.le_of_ble_eq_true rfl, Nat.le_of_ble_eq_true rfl⟩) (preVI hK hMI (hMI.recv hK)) rfl rfl hl.1 rfl (lv_room (Nat.le_of_ble_eq_true rfl)) dL_law_1071 ⟨Nat.le_of_ble_eq_true rfl, Nat.le_of_ble_eq_true rfl⟩) hS (fun q _ h => ad_A hAx hA (by decide) hS q h) (ad_A hAx hA (by decide) hS) (fun r2 u2 t2 H2 locs2 ht2 hv2 w2 hB2 hz2 hk2 hS => ?_)
  have hXI := hXI.kept (fr_ad (lo := 112) (hi := 129) hi (by decide) (by decide) (by decide) hk2)
  have hMI : X11I dC dI G ax T Y fa N B N1 B1 N2 B2 K S (if ((0 ≤ (xs (5 * k + 1)).toInt ∧ (xs (5 * k + 1)).toInt < ((N : Nat) : Int)) ∧ 0 ≤ (xs (5 * k + 2)).toInt ∧ (xs (5 * k + 2)).toInt ≤ 9) ∧ M < 6 then M + 1 else M) E Z H2 := by rw [← ht2]; exact hB2
  refine W.widen (k := 129) (n := 4562) (by omega) (by omega) ?_
  refine lv_pop hx hb dL_law_1074 rfl ?_
  refine lv_goto (tgt := 1381) hx hb dL_law_1075 (by decide) ?_
  exact kk _ _ ⟨_, _, _, _, _, _, _, _, _, _, _, _, _, _, hXI, hMI⟩ hS

set_option maxHeartbeats 1000000 in
set_option maxRecDepth 100000 in
theorem lc_wipe {p : Program} {l : Launch} {e : Env} {s : State} {m : MethodId} {below : List Frame} {meth : Method} {c : Code} {b L : Nat} {xs : Nat → Int32} {dC : Nat → ClassId} {dI : Nat → Nat → Nat} {G : Nat → ClassId} {ax adK adV : Nat → Nat} {A : Nat → Prop} {Q : State → Prop} (C1 : lw_C p s m c b L xs dC dI G ax adK adV A) {k : Nat} (hk : 5 * k + 5 ≤ L) (hL : L ≤ 2560) {H : Heap} {locs : List Loc} {ls : Array Slot} (hI : LI dC dI G ax H) (hS : va_S A s.heap H locs) (hl : lv_has ls 4 [(3, .int (nI (5 * k))), (2, .ref (ax 112)), (1, .ref (ax 0)), (0, .ref b)]) (kk : ∀ (H : Heap) (locs : List Loc), LI dC dI G ax H → va_S A s.heap H locs → W p l e room_1 s m #[Value.ref b] below meth c H locs 129 4562 Q (F0 m 1381 ls [])) : W p l e room_1 s m #[Value.ref b] below meth c H locs 129 4562 Q (F0 m 1078 ls []) := by
  obtain ⟨hx, hb, hml, hown, hg, hX, hbl, hbA, hK, hi, hAx, hA, hSS⟩ := C1
  obtain ⟨T, Y, fa, N, B, N1, B1, N2, B2, K, S, M, E, Z, hXI, hMI⟩ := hI
  refine lv_aload_n hx hb dL_law_1078 rfl (lv_at hl 2 rfl) ?_
  refine lv_aload_n hx hb dL_law_1079 rfl (lv_at hl 3 rfl) ?_
  refine lv_iload_n hx hb dL_law_1080 rfl (lv_at hl 0 rfl) ?_
  refine lv_iconst (v := 1) hx hb dL_law_1081 (by decide) ?_
  refine lv_iadd hx hb dL_law_1082 ?_
  refine lv_cg (y := nI (5 * k + 1)) (by rw [show (1 : Int32) = nI 1 from rfl]; exact nI_add _ _) ?_
  refine va_sld hx hb hX hbl hbA hS (vp_in_nI (by omega) (by omega)) dL_law_1083 ?_
  refine lv_cg (y := xs (5 * k + 1)) (by rw [nI_clamp (by omega)]) ?_
  refine va_calli (va_runV (As := [.int (xs (5 * k + 1))]) (rest := []) ⟨hx, hb, hml, hown, hg⟩ (k_X10_wipeE l dC dI G _ ax hi T Y fa N B N1 B1 N2 B2 K S M E Z (xs (5 * k + 1))) (kwV hg mfX10_wipe wt_759 ⟨Nat.le_of_ble_eq_true rfl, Nat.le_of_ble_eq_true rfl⟩) (preVI hK hXI (hXI.recv hK)) rfl rfl hl.1 rfl (lv_room (Nat.le_of_ble_eq_true rfl)) dL_law_1084 ⟨Nat.le_of_ble_eq_true rfl, Nat.le_of_ble_eq_true rfl⟩) hS (fun q _ h => ad_A hAx hA (by decide) hS q h) (ad_A hAx hA (by decide) hS) (fun r1 u1 t1 H1 locs1 ht1 hv1 w1 hB1 hz1 hk1 hS => ?_)
  have hMI := hMI.kept (fr_ad (lo := 0) (hi := 112) hi (by decide) (by decide) (by decide) hk1)
  have hXI : X10I dC dI G ax T Y fa N B N1 B1 N2 B2 K S (if 0 ≤ (xs (5 * k + 1)).toInt ∧ (xs (5 * k + 1)).toInt ≤ ((M : Nat) : Int) then (xs (5 * k + 1)).toNatClampNeg else M) E Z H1 := by rw [← ht1]; exact hB1
  refine W.widen (k := 129) (n := 4562) (by omega) (by omega) ?_
  refine lv_pop hx hb dL_law_1087 rfl ?_
  refine lv_aload_n hx hb dL_law_1088 rfl (lv_at hl 1 rfl) ?_
  refine lv_aload_n hx hb dL_law_1089 rfl (lv_at hl 3 rfl) ?_
  refine lv_iload_n hx hb dL_law_1090 rfl (lv_at hl 0 rfl) ?_
  refine lv_iconst (v := 1) hx hb dL_law_1091 (by decide) ?_
  refine lv_iadd hx hb dL_law_1092 ?_
  refine lv_cg (y := nI (5 * k + 1)) (by rw [show (1 : Int32) = nI 1 from rfl]; exact nI_add _ _) ?_
  refine va_sld hx hb hX hbl hbA hS (vp_in_nI (by omega) (by omega)) dL_law_1093 ?_
  refine lv_cg (y := xs (5 * k + 1)) (by rw [nI_clamp (by omega)]) ?_
  refine va_calli (va_runV (As := [.int (xs (5 * k + 1))]) (rest := []) ⟨hx, hb, hml, hown, hg⟩ (k_X11_wipeE l dC dI G _ ax hi T Y fa N B N1 B1 N2 B2 K S M E Z (xs (5 * k + 1))) (kwV hg mfX11_wipe wt_1212 ⟨Nat.le_of_ble_eq_true rfl, Nat.le_of_ble_eq_true rfl⟩) (preVI hK hMI (hMI.recv hK)) rfl rfl hl.1 rfl (lv_room (Nat.le_of_ble_eq_true rfl)) dL_law_1094 ⟨Nat.le_of_ble_eq_true rfl, Nat.le_of_ble_eq_true rfl⟩) hS (fun q _ h => ad_A hAx hA (by decide) hS q h) (ad_A hAx hA (by decide) hS) (fun r2 u2 t2 H2 locs2 ht2 hv2 w2 hB2 hz2 hk2 hS => ?_)
  have hXI := hXI.kept (fr_ad (lo := 112) (hi := 129) hi (by decide) (by decide) (by decide) hk2)
  have hMI : X11I dC dI G ax T Y fa N B N1 B1 N2 B2 K S (if 0 ≤ (xs (5 * k + 1)).toInt ∧ (xs (5 * k + 1)).toInt ≤ ((M : Nat) : Int) then (xs (5 * k + 1)).toNatClampNeg else M) E Z H2 := by rw [← ht2]; exact hB2
  refine W.widen (k := 129) (n := 4562) (by omega) (by omega) ?_
  refine lv_pop hx hb dL_law_1097 rfl ?_
  refine lv_goto (tgt := 1381) hx hb dL_law_1098 (by decide) ?_
  exact kk _ _ ⟨_, _, _, _, _, _, _, _, _, _, _, _, _, _, hXI, hMI⟩ hS

set_option maxHeartbeats 1000000 in
set_option maxRecDepth 100000 in
theorem lc_paths {p : Program} {l : Launch} {e : Env} {s : State} {m : MethodId} {below : List Frame} {meth : Method} {c : Code} {b L : Nat} {xs : Nat → Int32} {dC : Nat → ClassId} {dI : Nat → Nat → Nat} {G : Nat → ClassId} {ax adK adV : Nat → Nat} {A : Nat → Prop} {Q : State → Prop} (C1 : lw_C p s m c b L xs dC dI G ax adK adV A) {k : Nat} (hk : 5 * k + 5 ≤ L) (hL : L ≤ 2560) {H : Heap} {locs : List Loc} {ls : Array Slot} (hI : LI dC dI G ax H) (hS : va_S A s.heap H locs) (hl : lv_has ls 4 [(3, .int (nI (5 * k))), (2, .ref (ax 112)), (1, .ref (ax 0)), (0, .ref b)]) (kk : ∀ (H : Heap) (locs : List Loc), LI dC dI G ax H → va_S A s.heap H locs → W p l e room_1 s m #[Value.ref b] below meth c H locs 129 4562 Q (F0 m 1381 ls [])) : W p l e room_1 s m #[Value.ref b] below meth c H locs 129 4562 Q (F0 m 1101 ls []) := by
  obtain ⟨hx, hb, hml, hown, hg, hX, hbl, hbA, hK, hi, hAx, hA, hSS⟩ := C1
  obtain ⟨T, Y, fa, N, B, N1, B1, N2, B2, K, S, M, E, Z, hXI, hMI⟩ := hI
  refine lv_aload_n hx hb dL_law_1101 rfl (lv_at hl 2 rfl) ?_
  refine va_calli (va_runV (As := []) (rest := []) ⟨hx, hb, hml, hown, hg⟩ (k_X10_paths l dC dI G _ ax hi T Y fa N B N1 B1 N2 B2 K S M E Z) (kwV hg mfX10_paths wt_763 ⟨Nat.le_of_ble_eq_true rfl, Nat.le_of_ble_eq_true rfl⟩) (preVI hK hXI (hXI.recv hK)) rfl rfl hl.1 rfl (lv_room (Nat.le_of_ble_eq_true rfl)) dL_law_1102 ⟨Nat.le_of_ble_eq_true rfl, Nat.le_of_ble_eq_true rfl⟩) hS (fun q _ h => ad_A hAx hA (by decide) hS q h) (ad_A hAx hA (by decide) hS) (fun r1 u1 t1 H1 locs1 ht1 hv1 w1 hB1 hz1 hk1 hS => ?_)
  have hMI := hMI.kept (fr_ad (lo := 0) (hi := 112) hi (by decide) (by decide) (by decide) hk1)
  have hXI : X10I dC dI G ax T Y fa N B N1 B1 N2 B2 K S M E Z H1 := by rw [← ht1]; exact hB1
  refine W.widen (k := 129) (n := 4562) (by omega) (by omega) ?_
  refine lv_pop hx hb dL_law_1105 rfl ?_
  refine lv_aload_n hx hb dL_law_1106 rfl (lv_at hl 1 rfl) ?_
  refine va_calli (va_runV (As := []) (rest := []) ⟨hx, hb, hml, hown, hg⟩ (k_X11_paths l dC dI G _ ax hi T Y fa N B N1 B1 N2 B2 K S M E Z) (kwV hg mfX11_paths wt_1216 ⟨Nat.le_of_ble_eq_true rfl, Nat.le_of_ble_eq_true rfl⟩) (preVI hK hMI (hMI.recv hK)) rfl rfl hl.1 rfl (lv_room (Nat.le_of_ble_eq_true rfl)) dL_law_1107 ⟨Nat.le_of_ble_eq_true rfl, Nat.le_of_ble_eq_true rfl⟩) hS (fun q _ h => ad_A hAx hA (by decide) hS q h) (ad_A hAx hA (by decide) hS) (fun r2 u2 t2 H2 locs2 ht2 hv2 w2 hB2 hz2 hk2 hS => ?_)
  have hXI := hXI.kept (fr_ad (lo := 112) (hi := 129) hi (by decide) (by decide) (by decide) hk2)
  have hMI : X11I dC dI G ax T Y fa N B N1 B1 N2 B2 K S M E Z H2 := by rw [← ht2]; exact hB2
  refine W.widen (k := 129) (n := 4562) (by omega) (by omega) ?_
  refine lv_pop hx hb dL_law_1110 rfl ?_
  refine lv_goto (tgt := 1381) hx hb dL_law_1111 (by decide) ?_
  exact kk _ _ ⟨_, _, _, _, _, _, _, _, _, _, _, _, _, _, hXI, hMI⟩ hS

set_option maxHeartbeats 1000000 in
set_option maxRecDepth 100000 in
theorem lc_eye {p : Program} {l : Launch} {e : Env} {s : State} {m : MethodId} {below : List Frame} {meth : Method} {c : Code} {b L : Nat} {xs : Nat → Int32} {dC : Nat → ClassId} {dI : Nat → Nat → Nat} {G : Nat → ClassId} {ax adK adV : Nat → Nat} {A : Nat → Prop} {Q : State → Prop} (C1 : lw_C p s m c b L xs dC dI G ax adK adV A) {k : Nat} (hk : 5 * k + 5 ≤ L) (hL : L ≤ 2560) {H : Heap} {locs : List Loc} {ls : Array Slot} (hI : LI dC dI G ax H) (hS : va_S A s.heap H locs) (hl : lv_has ls 4 [(3, .int (nI (5 * k))), (2, .ref (ax 112)), (1, .ref (ax 0)), (0, .ref b)]) (kk : ∀ (H : Heap) (locs : List Loc), LI dC dI G ax H → va_S A s.heap H locs → W p l e room_1 s m #[Value.ref b] below meth c H locs 129 4562 Q (F0 m 1381 ls [])) : W p l e room_1 s m #[Value.ref b] below meth c H locs 129 4562 Q (F0 m 1114 ls []) := by
  obtain ⟨hx, hb, hml, hown, hg, hX, hbl, hbA, hK, hi, hAx, hA, hSS⟩ := C1
  obtain ⟨T, Y, fa, N, B, N1, B1, N2, B2, K, S, M, E, Z, hXI, hMI⟩ := hI
  refine lv_aload_n hx hb dL_law_1114 rfl (lv_at hl 2 rfl) ?_
  refine lv_aload_n hx hb dL_law_1115 rfl (lv_at hl 3 rfl) ?_
  refine lv_iload_n hx hb dL_law_1116 rfl (lv_at hl 0 rfl) ?_
  refine lv_iconst (v := 1) hx hb dL_law_1117 (by decide) ?_
  refine lv_iadd hx hb dL_law_1118 ?_
  refine lv_cg (y := nI (5 * k + 1)) (by rw [show (1 : Int32) = nI 1 from rfl]; exact nI_add _ _) ?_
  refine va_sld hx hb hX hbl hbA hS (vp_in_nI (by omega) (by omega)) dL_law_1119 ?_
  refine lv_cg (y := xs (5 * k + 1)) (by rw [nI_clamp (by omega)]) ?_
  refine va_calli (va_runV (As := [.int (xs (5 * k + 1))]) (rest := []) ⟨hx, hb, hml, hown, hg⟩ (k_X10_eye l dC dI G _ ax hi T Y fa N B N1 B1 N2 B2 K S M E Z (xs (5 * k + 1))) (kwV hg mfX10_eye wt_788 ⟨Nat.le_of_ble_eq_true rfl, Nat.le_of_ble_eq_true rfl⟩) (preVI hK hXI (hXI.recv hK)) rfl rfl hl.1 rfl (lv_room (Nat.le_of_ble_eq_true rfl)) dL_law_1120 ⟨Nat.le_of_ble_eq_true rfl, Nat.le_of_ble_eq_true rfl⟩) hS (fun q _ h => ad_A hAx hA (by decide) hS q h) (ad_A hAx hA (by decide) hS) (fun r1 u1 t1 H1 locs1 ht1 hv1 w1 hB1 hz1 hk1 hS => ?_)
  have hMI := hMI.kept (fr_ad (lo := 0) (hi := 112) hi (by decide) (by decide) (by decide) hk1)
  have hXI : X10I dC dI G ax T Y fa N B N1 B1 N2 B2 K S M E Z H1 := by rw [← ht1]; exact hB1
  refine W.widen (k := 129) (n := 4562) (by omega) (by omega) ?_
  refine lv_pop hx hb dL_law_1123 rfl ?_
  refine lv_aload_n hx hb dL_law_1124 rfl (lv_at hl 1 rfl) ?_
  refine lv_aload_n hx hb dL_law_1125 rfl (lv_at hl 3 rfl) ?_
  refine lv_iload_n hx hb dL_law_1126 rfl (lv_at hl 0 rfl) ?_
  refine lv_iconst (v := 1) hx hb dL_law_1127 (by decide) ?_
  refine lv_iadd hx hb dL_law_1128 ?_
  refine lv_cg (y := nI (5 * k + 1)) (by rw [show (1 : Int32) = nI 1 from rfl]; exact nI_add _ _) ?_
  refine va_sld hx hb hX hbl hbA hS (vp_in_nI (by omega) (by omega)) dL_law_1129 ?_
  refine lv_cg (y := xs (5 * k + 1)) (by rw [nI_clamp (by omega)]) ?_
  refine va_calli (va_runV (As := [.int (xs (5 * k + 1))]) (rest := []) ⟨hx, hb, hml, hown, hg⟩ (k_X11_eye l dC dI G _ ax hi T Y fa N B N1 B1 N2 B2 K S M E Z (xs (5 * k + 1))) (kwV hg mfX11_eye wt_1236 ⟨Nat.le_of_ble_eq_true rfl, Nat.le_of_ble_eq_true rfl⟩) (preVI hK hMI (hMI.recv hK)) rfl rfl hl.1 rfl (lv_room (Nat.le_of_ble_eq_true rfl)) dL_law_1130 ⟨Nat.le_of_ble_eq_true rfl, Nat.le_of_ble_eq_true rfl⟩) hS (fun q _ h => ad_A hAx hA (by decide) hS q h) (ad_A hAx hA (by decide) hS) (fun r2 u2 t2 H2 locs2 ht2 hv2 w2 hB2 hz2 hk2 hS => ?_)
  have hXI := hXI.kept (fr_ad (lo := 112) (hi := 129) hi (by decide) (by decide) (by decide) hk2)
  have hMI : X11I dC dI G ax T Y fa N B N1 B1 N2 B2 K S M E Z H2 := by rw [← ht2]; exact hB2
  refine W.widen (k := 129) (n := 4562) (by omega) (by omega) ?_
  refine lv_pop hx hb dL_law_1133 rfl ?_
  refine lv_goto (tgt := 1381) hx hb dL_law_1134 (by decide) ?_
  exact kk _ _ ⟨_, _, _, _, _, _, _, _, _, _, _, _, _, _, hXI, hMI⟩ hS

set_option maxHeartbeats 1000000 in
set_option maxRecDepth 100000 in
theorem lc_sure {p : Program} {l : Launch} {e : Env} {s : State} {m : MethodId} {below : List Frame} {meth : Method} {c : Code} {b L : Nat} {xs : Nat → Int32} {dC : Nat → ClassId} {dI : Nat → Nat → Nat} {G : Nat → ClassId} {ax adK adV : Nat → Nat} {A : Nat → Prop} {Q : State → Prop} (C1 : lw_C p s m c b L xs dC dI G ax adK adV A) {k : Nat} (hk : 5 * k + 5 ≤ L) (hL : L ≤ 2560) {H : Heap} {locs : List Loc} {ls : Array Slot} (hI : LI dC dI G ax H) (hS : va_S A s.heap H locs) (hl : lv_has ls 4 [(3, .int (nI (5 * k))), (2, .ref (ax 112)), (1, .ref (ax 0)), (0, .ref b)]) (kk : ∀ (H : Heap) (locs : List Loc), LI dC dI G ax H → va_S A s.heap H locs → W p l e room_1 s m #[Value.ref b] below meth c H locs 129 4562 Q (F0 m 1381 ls [])) : W p l e room_1 s m #[Value.ref b] below meth c H locs 129 4562 Q (F0 m 1137 ls []) := by
  obtain ⟨hx, hb, hml, hown, hg, hX, hbl, hbA, hK, hi, hAx, hA, hSS⟩ := C1
  obtain ⟨T, Y, fa, N, B, N1, B1, N2, B2, K, S, M, E, Z, hXI, hMI⟩ := hI
  refine lv_aload_n hx hb dL_law_1137 rfl (lv_at hl 2 rfl) ?_
  refine lv_aload_n hx hb dL_law_1138 rfl (lv_at hl 3 rfl) ?_
  refine lv_iload_n hx hb dL_law_1139 rfl (lv_at hl 0 rfl) ?_
  refine lv_iconst (v := 1) hx hb dL_law_1140 (by decide) ?_
  refine lv_iadd hx hb dL_law_1141 ?_
  refine lv_cg (y := nI (5 * k + 1)) (by rw [show (1 : Int32) = nI 1 from rfl]; exact nI_add _ _) ?_
  refine va_sld hx hb hX hbl hbA hS (vp_in_nI (by omega) (by omega)) dL_law_1142 ?_
  refine lv_cg (y := xs (5 * k + 1)) (by rw [nI_clamp (by omega)]) ?_
  refine va_calli (va_runV (As := [.int (xs (5 * k + 1))]) (rest := []) ⟨hx, hb, hml, hown, hg⟩ (k_X10_sure l dC dI G _ ax hi T Y fa N B N1 B1 N2 B2 K S M E Z (xs (5 * k + 1))) (kwV hg mfX10_sure wt_796 ⟨Nat.le_of_ble_eq_true rfl, Nat.le_of_ble_eq_true rfl⟩) (preVI hK hXI (hXI.recv hK)) rfl rfl hl.1 rfl (lv_room (Nat.le_of_ble_eq_true rfl)) dL_law_1143 ⟨Nat.le_of_ble_eq_true rfl, Nat.le_of_ble_eq_true rfl⟩) hS (fun q _ h => ad_A hAx hA (by decide) hS q h) (ad_A hAx hA (by decide) hS) (fun r1 u1 t1 H1 locs1 ht1 hv1 w1 hB1 hz1 hk1 hS => ?_)
  have hMI := hMI.kept (fr_ad (lo := 0) (hi := 112) hi (by decide) (by decide) (by decide) hk1)
  have hXI : X10I dC dI G ax T Y fa N B N1 B1 N2 B2 K S M E Z H1 := by rw [← ht1]; exact hB1
  refine W.widen (k := 129) (n := 4562) (by omega) (by omega) ?_
  refine lv_pop hx hb dL_law_1146 rfl ?_
  refine lv_aload_n hx hb dL_law_1147 rfl (lv_at hl 1 rfl) ?_
  refine lv_aload_n hx hb dL_law_1148 rfl (lv_at hl 3 rfl) ?_
  refine lv_iload_n hx hb dL_law_1149 rfl (lv_at hl 0 rfl) ?_
  refine lv_iconst (v := 1) hx hb dL_law_1150 (by decide) ?_
  refine lv_iadd hx hb dL_law_1151 ?_
  refine lv_cg (y := nI (5 * k + 1)) (by rw [show (1 : Int32) = nI 1 from rfl]; exact nI_add _ _) ?_
  refine va_sld hx hb hX hbl hbA hS (vp_in_nI (by omega) (by omega)) dL_law_1152 ?_
  refine lv_cg (y := xs (5 * k + 1)) (by rw [nI_clamp (by omega)]) ?_
  refine va_calli (va_runV (As := [.int (xs (5 * k + 1))]) (rest := []) ⟨hx, hb, hml, hown, hg⟩ (k_X11_sure l dC dI G _ ax hi T Y fa N B N1 B1 N2 B2 K S M E Z (xs (5 * k + 1))) (kwV hg mfX11_sure wt_1240 ⟨Nat.le_of_ble_eq_true rfl, Nat.le_of_ble_eq_true rfl⟩) (preVI hK hMI (hMI.recv hK)) rfl rfl hl.1 rfl (lv_room (Nat.le_of_ble_eq_true rfl)) dL_law_1153 ⟨Nat.le_of_ble_eq_true rfl, Nat.le_of_ble_eq_true rfl⟩) hS (fun q _ h => ad_A hAx hA (by decide) hS q h) (ad_A hAx hA (by decide) hS) (fun r2 u2 t2 H2 locs2 ht2 hv2 w2 hB2 hz2 hk2 hS => ?_)
  have hXI := hXI.kept (fr_ad (lo := 112) (hi := 129) hi (by decide) (by decide) (by decide) hk2)
  have hMI : X11I dC dI G ax T Y fa N B N1 B1 N2 B2 K S M E Z H2 := by rw [← ht2]; exact hB2
  refine W.widen (k := 129) (n := 4562) (by omega) (by omega) ?_
  refine lv_pop hx hb dL_law_1156 rfl ?_
  refine lv_goto (tgt := 1381) hx hb dL_law_1157 (by decide) ?_
  exact kk _ _ ⟨_, _, _, _, _, _, _, _, _, _, _, _, _, _, hXI, hMI⟩ hS

set_option maxHeartbeats 1000000 in
set_option maxRecDepth 100000 in
theorem lc_keep {p : Program} {l : Launch} {e : Env} {s : State} {m : MethodId} {below : List Frame} {meth : Method} {c : Code} {b L : Nat} {xs : Nat → Int32} {dC : Nat → ClassId} {dI : Nat → Nat → Nat} {G : Nat → ClassId} {ax adK adV : Nat → Nat} {A : Nat → Prop} {Q : State → Prop} (C1 : lw_C p s m c b L xs dC dI G ax adK adV A) {k : Nat} (hk : 5 * k + 5 ≤ L) (hL : L ≤ 2560) {H : Heap} {locs : List Loc} {ls : Array Slot} (hI : LI dC dI G ax H) (hS : va_S A s.heap H locs) (hl : lv_has ls 4 [(3, .int (nI (5 * k))), (2, .ref (ax 112)), (1, .ref (ax 0)), (0, .ref b)]) (kk : ∀ (H : Heap) (locs : List Loc), LI dC dI G ax H → va_S A s.heap H locs → W p l e room_1 s m #[Value.ref b] below meth c H locs 129 4562 Q (F0 m 1381 ls [])) : W p l e room_1 s m #[Value.ref b] below meth c H locs 129 4562 Q (F0 m 1160 ls []) := by
  obtain ⟨hx, hb, hml, hown, hg, hX, hbl, hbA, hK, hi, hAx, hA, hSS⟩ := C1
  obtain ⟨T, Y, fa, N, B, N1, B1, N2, B2, K, S, M, E, Z, hXI, hMI⟩ := hI
  refine lv_aload_n hx hb dL_law_1160 rfl (lv_at hl 2 rfl) ?_
  refine lv_aload_n hx hb dL_law_1161 rfl (lv_at hl 3 rfl) ?_
  refine lv_iload_n hx hb dL_law_1162 rfl (lv_at hl 0 rfl) ?_
  refine lv_iconst (v := 1) hx hb dL_law_1163 (by decide) ?_
  refine lv_iadd hx hb dL_law_1164 ?_
  refine lv_cg (y := nI (5 * k + 1)) (by rw [show (1 : Int32) = nI 1 from rfl]; exact nI_add _ _) ?_
  refine va_sld hx hb hX hbl hbA hS (vp_in_nI (by omega) (by omega)) dL_law_1165 ?_
  refine lv_cg (y := xs (5 * k + 1)) (by rw [nI_clamp (by omega)]) ?_
  refine va_calli (va_runV (As := [.int (xs (5 * k + 1))]) (rest := []) ⟨hx, hb, hml, hown, hg⟩ (k_X10_keepE l dC dI G _ ax hi T Y fa N B N1 B1 N2 B2 K S M E Z (xs (5 * k + 1))) (kwV hg mfX10_keep wt_808 ⟨Nat.le_of_ble_eq_true rfl, Nat.le_of_ble_eq_true rfl⟩) (preVI hK hXI (hXI.recv hK)) rfl rfl hl.1 rfl (lv_room (Nat.le_of_ble_eq_true rfl)) dL_law_1166 ⟨Nat.le_of_ble_eq_true rfl, Nat.le_of_ble_eq_true rfl⟩) hS (fun q _ h => ad_A hAx hA (by decide) hS q h) (ad_A hAx hA (by decide) hS) (fun r1 u1 t1 H1 locs1 ht1 hv1 w1 hB1 hz1 hk1 hS => ?_)
  have hMI := hMI.kept (fr_ad (lo := 0) (hi := 112) hi (by decide) (by decide) (by decide) hk1)
  have hXI : X10I dC dI G ax T Y fa N B (if (xs (5 * k + 1)) = 0 then N else N1) (if (xs (5 * k + 1)) = 0 then B else B1) (if (xs (5 * k + 1)) = 1 then N else N2) (if (xs (5 * k + 1)) = 1 then B else B2) (if (0 ≤ (xs (5 * k + 1)).toInt ∧ (xs (5 * k + 1)).toInt < 2) then upd K (xs (5 * k + 1)).toNatClampNeg 1 else K) S M E Z H1 := by rw [← ht1]; exact hB1
  refine W.widen (k := 129) (n := 4562) (by omega) (by omega) ?_
  refine lv_pop hx hb dL_law_1169 rfl ?_
  refine lv_aload_n hx hb dL_law_1170 rfl (lv_at hl 1 rfl) ?_
  refine lv_aload_n hx hb dL_law_1171 rfl (lv_at hl 3 rfl) ?_
  refine lv_iload_n hx hb dL_law_1172 rfl (lv_at hl 0 rfl) ?_
  refine lv_iconst (v := 1) hx hb dL_law_1173 (by decide) ?_
  refine lv_iadd hx hb dL_law_1174 ?_
  refine lv_cg (y := nI (5 * k + 1)) (by rw [show (1 : Int32) = nI 1 from rfl]; exact nI_add _ _) ?_
  refine va_sld hx hb hX hbl hbA hS (vp_in_nI (by omega) (by omega)) dL_law_1175 ?_
  refine lv_cg (y := xs (5 * k + 1)) (by rw [nI_clamp (by omega)]) ?_
  refine va_calli (va_runV (As := [.int (xs (5 * k + 1))]) (rest := []) ⟨hx, hb, hml, hown, hg⟩ (k_X11_keepE l dC dI G _ ax hi T Y fa N B N1 B1 N2 B2 K S M E Z (xs (5 * k + 1))) (kwV hg mfX11_keep wt_1244 ⟨Nat.le_of_ble_eq_true rfl, Nat.le_of_ble_eq_true rfl⟩) (preVI hK hMI (hMI.recv hK)) rfl rfl hl.1 rfl (lv_room (Nat.le_of_ble_eq_true rfl)) dL_law_1176 ⟨Nat.le_of_ble_eq_true rfl, Nat.le_of_ble_eq_true rfl⟩) hS (fun q _ h => ad_A hAx hA (by decide) hS q h) (ad_A hAx hA (by decide) hS) (fun r2 u2 t2 H2 locs2 ht2 hv2 w2 hB2 hz2 hk2 hS => ?_)
  have hXI := hXI.kept (fr_ad (lo := 112) (hi := 129) hi (by decide) (by decide) (by decide) hk2)
  have hMI : X11I dC dI G ax T Y fa N B (if (xs (5 * k + 1)) = 0 then N else N1) (if (xs (5 * k + 1)) = 0 then B else B1) (if (xs (5 * k + 1)) = 1 then N else N2) (if (xs (5 * k + 1)) = 1 then B else B2) (if (0 ≤ (xs (5 * k + 1)).toInt ∧ (xs (5 * k + 1)).toInt < 2) then upd K (xs (5 * k + 1)).toNatClampNeg 1 else K) S M E Z H2 := by rw [← ht2]; exact hB2
  refine W.widen (k := 129) (n := 4562) (by omega) (by omega) ?_
  refine lv_pop hx hb dL_law_1179 rfl ?_
  refine lv_goto (tgt := 1381) hx hb dL_law_1180 (by decide) ?_
  exact kk _ _ ⟨_, _, _, _, _, _, _, _, _, _, _, _, _, _, hXI, hMI⟩ hS

set_option maxHeartbeats 1000000 in
set_option maxRecDepth 100000 in
theorem lc_back {p : Program} {l : Launch} {e : Env} {s : State} {m : MethodId} {below : List Frame} {meth : Method} {c : Code} {b L : Nat} {xs : Nat → Int32} {dC : Nat → ClassId} {dI : Nat → Nat → Nat} {G : Nat → ClassId} {ax adK adV : Nat → Nat} {A : Nat → Prop} {Q : State → Prop} (C1 : lw_C p s m c b L xs dC dI G ax adK adV A) {k : Nat} (hk : 5 * k + 5 ≤ L) (hL : L ≤ 2560) {H : Heap} {locs : List Loc} {ls : Array Slot} (hI : LI dC dI G ax H) (hS : va_S A s.heap H locs) (hl : lv_has ls 4 [(3, .int (nI (5 * k))), (2, .ref (ax 112)), (1, .ref (ax 0)), (0, .ref b)]) (kk : ∀ (H : Heap) (locs : List Loc), LI dC dI G ax H → va_S A s.heap H locs → W p l e room_1 s m #[Value.ref b] below meth c H locs 129 4562 Q (F0 m 1381 ls [])) : W p l e room_1 s m #[Value.ref b] below meth c H locs 129 4562 Q (F0 m 1183 ls []) := by
  obtain ⟨hx, hb, hml, hown, hg, hX, hbl, hbA, hK, hi, hAx, hA, hSS⟩ := C1
  obtain ⟨T, Y, fa, N, B, N1, B1, N2, B2, K, S, M, E, Z, hXI, hMI⟩ := hI
  refine lv_aload_n hx hb dL_law_1183 rfl (lv_at hl 2 rfl) ?_
  refine lv_aload_n hx hb dL_law_1184 rfl (lv_at hl 3 rfl) ?_
  refine lv_iload_n hx hb dL_law_1185 rfl (lv_at hl 0 rfl) ?_
  refine lv_iconst (v := 1) hx hb dL_law_1186 (by decide) ?_
  refine lv_iadd hx hb dL_law_1187 ?_
  refine lv_cg (y := nI (5 * k + 1)) (by rw [show (1 : Int32) = nI 1 from rfl]; exact nI_add _ _) ?_
  refine va_sld hx hb hX hbl hbA hS (vp_in_nI (by omega) (by omega)) dL_law_1188 ?_
  refine lv_cg (y := xs (5 * k + 1)) (by rw [nI_clamp (by omega)]) ?_
  refine va_calli (va_runV (As := [.int (xs (5 * k + 1))]) (rest := []) ⟨hx, hb, hml, hown, hg⟩ (k_X10_backE l dC dI G _ ax hi T Y fa N B N1 B1 N2 B2 K S M E Z (xs (5 * k + 1))) (kwV hg mfX10_back wt_815 ⟨Nat.le_of_ble_eq_true rfl, Nat.le_of_ble_eq_true rfl⟩) (preVI hK hXI (hXI.recv hK)) rfl rfl hl.1 rfl (lv_room (Nat.le_of_ble_eq_true rfl)) dL_law_1189 ⟨Nat.le_of_ble_eq_true rfl, Nat.le_of_ble_eq_true rfl⟩) hS (fun q _ h => ad_A hAx hA (by decide) hS q h) (ad_A hAx hA (by decide) hS) (fun r1 u1 t1 H1 locs1 ht1 hv1 w1 hB1 hz1 hk1 hS => ?_)
  have hMI := hMI.kept (fr_ad (lo := 0) (hi := 112) hi (by decide) (by decide) (by decide) hk1)
  have hXI : X10I dC dI G ax T Y fa N B N1 B1 N2 B2 K S M E Z H1 := by rw [← ht1]; exact hB1
  refine W.widen (k := 129) (n := 4562) (by omega) (by omega) ?_
  refine lv_pop hx hb dL_law_1192 rfl ?_
  refine lv_aload_n hx hb dL_law_1193 rfl (lv_at hl 1 rfl) ?_
  refine lv_aload_n hx hb dL_law_1194 rfl (lv_at hl 3 rfl) ?_
  refine lv_iload_n hx hb dL_law_1195 rfl (lv_at hl 0 rfl) ?_
  refine lv_iconst (v := 1) hx hb dL_law_1196 (by decide) ?_
  refine lv_iadd hx hb dL_law_1197 ?_
  refine lv_cg (y := nI (5 * k + 1)) (by rw [show (1 : Int32) = nI 1 from rfl]; exact nI_add _ _) ?_
  refine va_sld hx hb hX hbl hbA hS (vp_in_nI (by omega) (by omega)) dL_law_1198 ?_
  refine lv_cg (y := xs (5 * k + 1)) (by rw [nI_clamp (by omega)]) ?_
  refine va_calli (va_runV (As := [.int (xs (5 * k + 1))]) (rest := []) ⟨hx, hb, hml, hown, hg⟩ (k_X11_backE l dC dI G _ ax hi T Y fa N B N1 B1 N2 B2 K S M E Z (xs (5 * k + 1))) (kwV hg mfX11_back wt_1252 ⟨Nat.le_of_ble_eq_true rfl, Nat.le_of_ble_eq_true rfl⟩) (preVI hK hMI (hMI.recv hK)) rfl rfl hl.1 rfl (lv_room (Nat.le_of_ble_eq_true rfl)) dL_law_1199 ⟨Nat.le_of_ble_eq_true rfl, Nat.le_of_ble_eq_true rfl⟩) hS (fun q _ h => ad_A hAx hA (by decide) hS q h) (ad_A hAx hA (by decide) hS) (fun r2 u2 t2 H2 locs2 ht2 hv2 w2 hB2 hz2 hk2 hS => ?_)
  have hXI := hXI.kept (fr_ad (lo := 112) (hi := 129) hi (by decide) (by decide) (by decide) hk2)
  have hMI : X11I dC dI G ax T Y fa N B N1 B1 N2 B2 K S M E Z H2 := by rw [← ht2]; exact hB2
  refine W.widen (k := 129) (n := 4562) (by omega) (by omega) ?_
  refine lv_pop hx hb dL_law_1202 rfl ?_
  refine lv_goto (tgt := 1381) hx hb dL_law_1203 (by decide) ?_
  exact kk _ _ ⟨_, _, _, _, _, _, _, _, _, _, _, _, _, _, hXI, hMI⟩ hS

set_option maxHeartbeats 1000000 in
set_option maxRecDepth 100000 in
theorem lc_sheet {p : Program} {l : Launch} {e : Env} {s : State} {m : MethodId} {below : List Frame} {meth : Method} {c : Code} {b L : Nat} {xs : Nat → Int32} {dC : Nat → ClassId} {dI : Nat → Nat → Nat} {G : Nat → ClassId} {ax adK adV : Nat → Nat} {A : Nat → Prop} {Q : State → Prop} (C1 : lw_C p s m c b L xs dC dI G ax adK adV A) {k : Nat} (hk : 5 * k + 5 ≤ L) (hL : L ≤ 2560) {H : Heap} {locs : List Loc} {ls : Array Slot} (hI : LI dC dI G ax H) (hS : va_S A s.heap H locs) (hl : lv_has ls 4 [(3, .int (nI (5 * k))), (2, .ref (ax 112)), (1, .ref (ax 0)), (0, .ref b)]) (kk : ∀ (H : Heap) (locs : List Loc), LI dC dI G ax H → va_S A s.heap H locs → W p l e room_1 s m #[Value.ref b] below meth c H locs 129 4562 Q (F0 m 1381 ls [])) : W p l e room_1 s m #[Value.ref b] below meth c H locs 129 4562 Q (F0 m 1206 ls []) := by
  obtain ⟨hx, hb, hml, hown, hg, hX, hbl, hbA, hK, hi, hAx, hA, hSS⟩ := C1
  obtain ⟨T, Y, fa, N, B, N1, B1, N2, B2, K, S, M, E, Z, hXI, hMI⟩ := hI
  refine lv_aload_n hx hb dL_law_1206 rfl (lv_at hl 2 rfl) ?_
  refine lv_aload_n hx hb dL_law_1207 rfl (lv_at hl 3 rfl) ?_
  refine lv_iload_n hx hb dL_law_1208 rfl (lv_at hl 0 rfl) ?_
  refine lv_iconst (v := 1) hx hb dL_law_1209 (by decide) ?_
  refine lv_iadd hx hb dL_law_1210 ?_
  refine lv_cg (y := nI (5 * k + 1)) (by rw [show (1 : Int32) = nI 1 from rfl]; exact nI_add _ _) ?_
  refine va_sld hx hb hX hbl hbA hS (vp_in_nI (by omega) (by omega)) dL_law_1211 ?_
  refine lv_cg (y := xs (5 * k + 1)) (by rw [nI_clamp (by omega)]) ?_
  refine lv_aload_n hx hb dL_law_1212 rfl (lv_at hl 3 rfl) ?_
  refine lv_iload_n hx hb dL_law_1213 rfl (lv_at hl 0 rfl) ?_
  refine lv_iconst (v := 2) hx hb dL_law_1214 (by decide) ?_
  refine lv_iadd hx hb dL_law_1215 ?_
  refine lv_cg (y := nI (5 * k + 2)) (by rw [show (2 : Int32) = nI 2 from rfl]; exact nI_add _ _) ?_
  refine va_sld hx hb hX hbl hbA hS (vp_in_nI (by omega) (by omega)) dL_law_1216 ?_
  refine lv_cg (y := xs (5 * k + 2)) (by rw [nI_clamp (by omega)]) ?_
  refine lv_aload_n hx hb dL_law_1217 rfl (lv_at hl 3 rfl) ?_
  refine lv_iload_n hx hb dL_law_1218 rfl (lv_at hl 0 rfl) ?_
  refine lv_iconst (v := 3) hx hb dL_law_1219 (by decide) ?_
  refine lv_iadd hx hb dL_law_1220 ?_
  refine lv_cg (y := nI (5 * k + 3)) (by rw [show (3 : Int32) = nI 3 from rfl]; exact nI_add _ _) ?_
  refine va_sld hx hb hX hbl hbA hS (vp_in_nI (by omega) (by omega)) dL_law_1221 ?_
  refine lv_cg (y := xs (5 * k + 3)) (by rw [nI_clamp (by omega)]) ?_
  refine va_calli (va_runV (As := [.int (xs (5 * k + 1)), .int (xs (5 * k + 2)), .int (xs (5 * k + 3))]) (rest := []) ⟨hx, hb, hml, hown, hg⟩ (k_X10_sheet l dC dI G _ ax hi T Y fa N B N1 B1 N2 B2 K S M E Z (xs (5 * k + 1)) (xs (5 * k + 2)) (xs (5 * k + 3))) (kwV hg mfX10_sheet wt_819 ⟨Nat.le_of_ble_eq_true rfl, Nat.le_of_ble_eq_true rfl⟩) (preVI hK hXI (hXI.recv hK)) rfl rfl hl.1 rfl (lv_room (Nat.le_of_ble_eq_true rfl)) dL_law_1222 ⟨Nat.le_of_ble_eq_true rfl, Nat.le_of_ble_eq_true rfl⟩) hS (fun q _ h => ad_A hAx hA (by decide) hS q h) (ad_A hAx hA (by decide) hS) (fun r1 u1 t1 H1 locs1 ht1 hv1 w1 hB1 hz1 hk1 hS => ?_)
  have hMI := hMI.kept (fr_ad (lo := 0) (hi := 112) hi (by decide) (by decide) (by decide) hk1)
  have hXI : X10I dC dI G ax T Y fa N B N1 B1 N2 B2 K S M (if ((0 ≤ (xs (5 * k + 1)).toInt ∧ (xs (5 * k + 1)).toInt < 4) ∧ (0 ≤ (xs (5 * k + 2)).toInt ∧ (xs (5 * k + 2)).toInt ≤ 2) ∧ (xs (5 * k + 3)).toInt ≤ 40 ∧ 0 ≤ (xs (5 * k + 3)).toInt) then upd E (xs (5 * k + 1)).toNatClampNeg (xs (5 * k + 2)) else E) (if ((0 ≤ (xs (5 * k + 1)).toInt ∧ (xs (5 * k + 1)).toInt < 4) ∧ (0 ≤ (xs (5 * k + 2)).toInt ∧ (xs (5 * k + 2)).toInt ≤ 2) ∧ (xs (5 * k + 3)).toInt ≤ 40 ∧ 0 ≤ (xs (5 * k + 3)).toInt) then upd Z (xs (5 * k + 1)).toNatClampNeg (xs (5 * k + 3)) else Z) H1 := by rw [← ht1]; exact hB1
  refine W.widen (k := 129) (n := 4562) (by omega) (by omega) ?_
  refine lv_pop hx hb dL_law_1225 rfl ?_
  refine lv_aload_n hx hb dL_law_1226 rfl (lv_at hl 1 rfl) ?_
  refine lv_aload_n hx hb dL_law_1227 rfl (lv_at hl 3 rfl) ?_
  refine lv_iload_n hx hb dL_law_1228 rfl (lv_at hl 0 rfl) ?_
  refine lv_iconst (v := 1) hx hb dL_law_1229 (by decide) ?_
  refine lv_iadd hx hb dL_law_1230 ?_
  refine lv_cg (y := nI (5 * k + 1)) (by rw [show (1 : Int32) = nI 1 from rfl]; exact nI_add _ _) ?_
  refine va_sld hx hb hX hbl hbA hS (vp_in_nI (by omega) (by omega)) dL_law_1231 ?_
  refine lv_cg (y := xs (5 * k + 1)) (by rw [nI_clamp (by omega)]) ?_
  refine lv_aload_n hx hb dL_law_1232 rfl (lv_at hl 3 rfl) ?_
  refine lv_iload_n hx hb dL_law_1233 rfl (lv_at hl 0 rfl) ?_
  refine lv_iconst (v := 2) hx hb dL_law_1234 (by decide) ?_
  refine lv_iadd hx hb dL_law_1235 ?_
  refine lv_cg (y := nI (5 * k + 2)) (by rw [show (2 : Int32) = nI 2 from rfl]; exact nI_add _ _) ?_
  refine va_sld hx hb hX hbl hbA hS (vp_in_nI (by omega) (by omega)) dL_law_1236 ?_
  refine lv_cg (y := xs (5 * k + 2)) (by rw [nI_clamp (by omega)]) ?_
  refine lv_aload_n hx hb dL_law_1237 rfl (lv_at hl 3 rfl) ?_
  refine lv_iload_n hx hb dL_law_1238 rfl (lv_at hl 0 rfl) ?_
  refine lv_iconst (v := 3) hx hb dL_law_1239 (by decide) ?_
  refine lv_iadd hx hb dL_law_1240 ?_
  refine lv_cg (y := nI (5 * k + 3)) (by rw [show (3 : Int32) = nI 3 from rfl]; exact nI_add _ _) ?_
  refine va_sld hx hb hX hbl hbA hS (vp_in_nI (by omega) (by omega)) dL_law_1241 ?_
  refine lv_cg (y := xs (5 * k + 3)) (by rw [nI_clamp (by omega)]) ?_
  refine va_calli (va_runV (As := [.int (xs (5 * k + 1)), .int (xs (5 * k + 2)), .int (xs (5 * k + 3))]) (rest := []) ⟨hx, hb, hml, hown, hg⟩ (k_X11_sheet l dC dI G _ ax hi T Y fa N B N1 B1 N2 B2 K S M E Z (xs (5 * k + 1)) (xs (5 * k + 2)) (xs (5 * k + 3))) (kwV hg mfX11_sheet wt_1256 ⟨Nat.le_of_ble_eq_true rfl, Nat.le_of_ble_eq_true rfl⟩) (preVI hK hMI (hMI.recv hK)) rfl rfl hl.1 rfl (lv_room (Nat.le_of_ble_eq_true rfl)) dL_law_1242 ⟨Nat.le_of_ble_eq_true rfl, Nat.le_of_ble_eq_true rfl⟩) hS (fun q _ h => ad_A hAx hA (by decide) hS q h) (ad_A hAx hA (by decide) hS) (fun r2 u2 t2 H2 locs2 ht2 hv2 w2 hB2 hz2 hk2 hS => ?_)
  have hXI := hXI.kept (fr_ad (lo := 112) (hi := 129) hi (by decide) (by decide) (by decide) hk2)
  have hMI : X11I dC dI G ax T Y fa N B N1 B1 N2 B2 K S M (if ((0 ≤ (xs (5 * k + 1)).toInt ∧ (xs (5 * k + 1)).toInt < 4) ∧ (0 ≤ (xs (5 * k + 2)).toInt ∧ (xs (5 * k + 2)).toInt ≤ 2) ∧ (xs (5 * k + 3)).toInt ≤ 40 ∧ 0 ≤ (xs (5 * k + 3)).toInt) then upd E (xs (5 * k + 1)).toNatClampNeg (xs (5 * k + 2)) else E) (if ((0 ≤ (xs (5 * k + 1)).toInt ∧ (xs (5 * k + 1)).toInt < 4) ∧ (0 ≤ (xs (5 * k + 2)).toInt ∧ (xs (5 * k + 2)).toInt ≤ 2) ∧ (xs (5 * k + 3)).toInt ≤ 40 ∧ 0 ≤ (xs (5 * k + 3)).toInt) then upd Z (xs (5 * k + 1)).toNatClampNeg (xs (5 * k + 3)) else Z) H2 := by rw [← ht2]; exact hB2
  refine W.widen (k := 129) (n := 4562) (by omega) (by omega) ?_
  refine lv_pop hx hb dL_law_1245 rfl ?_
  refine lv_goto (tgt := 1381) hx hb dL_law_1246 (by decide) ?_
  exact kk _ _ ⟨_, _, _, _, _, _, _, _, _, _, _, _, _, _, hXI, hMI⟩ hS

set_option maxHeartbeats 1000000 in
set_option maxRecDepth 100000 in
theorem lc_lay {p : Program} {l : Launch} {e : Env} {s : State} {m : MethodId} {below : List Frame} {meth : Method} {c : Code} {b L : Nat} {xs : Nat → Int32} {dC : Nat → ClassId} {dI : Nat → Nat → Nat} {G : Nat → ClassId} {ax adK adV : Nat → Nat} {A : Nat → Prop} {Q : State → Prop} (C1 : lw_C p s m c b L xs dC dI G ax adK adV A) {k : Nat} (hk : 5 * k + 5 ≤ L) (hL : L ≤ 2560) {H : Heap} {locs : List Loc} {ls : Array Slot} (hI : LI dC dI G ax H) (hS : va_S A s.heap H locs) (hl : lv_has ls 4 [(3, .int (nI (5 * k))), (2, .ref (ax 112)), (1, .ref (ax 0)), (0, .ref b)]) (kk : ∀ (H : Heap) (locs : List Loc), LI dC dI G ax H → va_S A s.heap H locs → W p l e room_1 s m #[Value.ref b] below meth c H locs 129 4562 Q (F0 m 1381 ls [])) : W p l e room_1 s m #[Value.ref b] below meth c H locs 129 4562 Q (F0 m 1249 ls []) := by
  obtain ⟨hx, hb, hml, hown, hg, hX, hbl, hbA, hK, hi, hAx, hA, hSS⟩ := C1
  obtain ⟨T, Y, fa, N, B, N1, B1, N2, B2, K, S, M, E, Z, hXI, hMI⟩ := hI
  refine lv_aload_n hx hb dL_law_1249 rfl (lv_at hl 2 rfl) ?_
  refine lv_aload_n hx hb dL_law_1250 rfl (lv_at hl 3 rfl) ?_
  refine lv_iload_n hx hb dL_law_1251 rfl (lv_at hl 0 rfl) ?_
  refine lv_iconst (v := 1) hx hb dL_law_1252 (by decide) ?_
  refine lv_iadd hx hb dL_law_1253 ?_
  refine lv_cg (y := nI (5 * k + 1)) (by rw [show (1 : Int32) = nI 1 from rfl]; exact nI_add _ _) ?_
  refine va_sld hx hb hX hbl hbA hS (vp_in_nI (by omega) (by omega)) dL_law_1254 ?_
  refine lv_cg (y := xs (5 * k + 1)) (by rw [nI_clamp (by omega)]) ?_
  refine lv_aload_n hx hb dL_law_1255 rfl (lv_at hl 3 rfl) ?_
  refine lv_iload_n hx hb dL_law_1256 rfl (lv_at hl 0 rfl) ?_
  refine lv_iconst (v := 2) hx hb dL_law_1257 (by decide) ?_
  refine lv_iadd hx hb dL_law_1258 ?_
  refine lv_cg (y := nI (5 * k + 2)) (by rw [show (2 : Int32) = nI 2 from rfl]; exact nI_add _ _) ?_
  refine va_sld hx hb hX hbl hbA hS (vp_in_nI (by omega) (by omega)) dL_law_1259 ?_
  refine lv_cg (y := xs (5 * k + 2)) (by rw [nI_clamp (by omega)]) ?_
  refine lv_aload_n hx hb dL_law_1260 rfl (lv_at hl 3 rfl) ?_
  refine lv_iload_n hx hb dL_law_1261 rfl (lv_at hl 0 rfl) ?_
  refine lv_iconst (v := 3) hx hb dL_law_1262 (by decide) ?_
  refine lv_iadd hx hb dL_law_1263 ?_
  refine lv_cg (y := nI (5 * k + 3)) (by rw [show (3 : Int32) = nI 3 from rfl]; exact nI_add _ _) ?_
  refine va_sld hx hb hX hbl hbA hS (vp_in_nI (by omega) (by omega)) dL_law_1264 ?_
  refine lv_cg (y := xs (5 * k + 3)) (by rw [nI_clamp (by omega)]) ?_
  refine va_calli (va_runV (As := [.int (xs (5 * k + 1)), .int (xs (5 * k + 2)), .int (xs (5 * k + 3))]) (rest := []) ⟨hx, hb, hml, hown, hg⟩ (k_X10_lay l dC dI G _ ax hi T Y fa N B N1 B1 N2 B2 K S M E Z (xs (5 * k + 1)) (xs (5 * k + 2)) (xs (5 * k + 3))) (kwV hg mfX10_lay wt_834 ⟨Nat.le_of_ble_eq_true rfl, Nat.le_of_ble_eq_true rfl⟩) (preVI hK hXI (hXI.recv hK)) rfl rfl hl.1 rfl (lv_room (Nat.le_of_ble_eq_true rfl)) dL_law_1265 ⟨Nat.le_of_ble_eq_true rfl, Nat.le_of_ble_eq_true rfl⟩) hS (fun q _ h => ad_A hAx hA (by decide) hS q h) (ad_A hAx hA (by decide) hS) (fun r1 u1 t1 H1 locs1 ht1 hv1 w1 hB1 hz1 hk1 hS => ?_)
  have hMI := hMI.kept (fr_ad (lo := 0) (hi := 112) hi (by decide) (by decide) (by decide) hk1)
  have hXI : X10I dC dI G ax T Y fa N B N1 B1 N2 B2 K S M E Z H1 := by rw [← ht1]; exact hB1
  refine W.widen (k := 129) (n := 4562) (by omega) (by omega) ?_
  refine lv_pop hx hb dL_law_1268 rfl ?_
  refine lv_aload_n hx hb dL_law_1269 rfl (lv_at hl 1 rfl) ?_
  refine lv_aload_n hx hb dL_law_1270 rfl (lv_at hl 3 rfl) ?_
  refine lv_iload_n hx hb dL_law_1271 rfl (lv_at hl 0 rfl) ?_
  refine lv_iconst (v := 1) hx hb dL_law_1272 (by decide) ?_
  refine lv_iadd hx hb dL_law_1273 ?_
  refine lv_cg (y := nI (5 * k + 1)) (by rw [show (1 : Int32) = nI 1 from rfl]; exact nI_add _ _) ?_
  refine va_sld hx hb hX hbl hbA hS (vp_in_nI (by omega) (by omega)) dL_law_1274 ?_
  refine lv_cg (y := xs (5 * k + 1)) (by rw [nI_clamp (by omega)]) ?_
  refine lv_aload_n hx hb dL_law_1275 rfl (lv_at hl 3 rfl) ?_
  refine lv_iload_n hx hb dL_law_1276 rfl (lv_at hl 0 rfl) ?_
  refine lv_iconst (v := 2) hx hb dL_law_1277 (by decide) ?_
  refine lv_iadd hx hb dL_law_1278 ?_
  refine lv_cg (y := nI (5 * k + 2)) (by rw [show (2 : Int32) = nI 2 from rfl]; exact nI_add _ _) ?_
  refine va_sld hx hb hX hbl hbA hS (vp_in_nI (by omega) (by omega)) dL_law_1279 ?_
  refine lv_cg (y := xs (5 * k + 2)) (by rw [nI_clamp (by omega)]) ?_
  refine lv_aload_n hx hb dL_law_1280 rfl (lv_at hl 3 rfl) ?_
  refine lv_iload_n hx hb dL_law_1281 rfl (lv_at hl 0 rfl) ?_
  refine lv_iconst (v := 3) hx hb dL_law_1282 (by decide) ?_
  refine lv_iadd hx hb dL_law_1283 ?_
  refine lv_cg (y := nI (5 * k + 3)) (by rw [show (3 : Int32) = nI 3 from rfl]; exact nI_add _ _) ?_
  refine va_sld hx hb hX hbl hbA hS (vp_in_nI (by omega) (by omega)) dL_law_1284 ?_
  refine lv_cg (y := xs (5 * k + 3)) (by rw [nI_clamp (by omega)]) ?_
  refine va_calli (va_runV (As := [.int (xs (5 * k + 1)), .int (xs (5 * k + 2)), .int (xs (5 * k + 3))]) (rest := []) ⟨hx, hb, hml, hown, hg⟩ (k_X11_lay l dC dI G _ ax hi T Y fa N B N1 B1 N2 B2 K S M E Z (xs (5 * k + 1)) (xs (5 * k + 2)) (xs (5 * k + 3))) (kwV hg mfX11_lay wt_1260 ⟨Nat.le_of_ble_eq_true rfl, Nat.le_of_ble_eq_true rfl⟩) (preVI hK hMI (hMI.recv hK)) rfl rfl hl.1 rfl (lv_room (Nat.le_of_ble_eq_true rfl)) dL_law_1285 ⟨Nat.le_of_ble_eq_true rfl, Nat.le_of_ble_eq_true rfl⟩) hS (fun q _ h => ad_A hAx hA (by decide) hS q h) (ad_A hAx hA (by decide) hS) (fun r2 u2 t2 H2 locs2 ht2 hv2 w2 hB2 hz2 hk2 hS => ?_)
  have hXI := hXI.kept (fr_ad (lo := 112) (hi := 129) hi (by decide) (by decide) (by decide) hk2)
  have hMI : X11I dC dI G ax T Y fa N B N1 B1 N2 B2 K S M E Z H2 := by rw [← ht2]; exact hB2
  refine W.widen (k := 129) (n := 4562) (by omega) (by omega) ?_
  refine lv_pop hx hb dL_law_1288 rfl ?_
  refine lv_goto (tgt := 1381) hx hb dL_law_1289 (by decide) ?_
  exact kk _ _ ⟨_, _, _, _, _, _, _, _, _, _, _, _, _, _, hXI, hMI⟩ hS

set_option maxHeartbeats 1000000 in
set_option maxRecDepth 100000 in
theorem lc_read {p : Program} {l : Launch} {e : Env} {s : State} {m : MethodId} {below : List Frame} {meth : Method} {c : Code} {b L : Nat} {xs : Nat → Int32} {dC : Nat → ClassId} {dI : Nat → Nat → Nat} {G : Nat → ClassId} {ax adK adV : Nat → Nat} {A : Nat → Prop} {Q : State → Prop} (C1 : lw_C p s m c b L xs dC dI G ax adK adV A) {k : Nat} (hk : 5 * k + 5 ≤ L) (hL : L ≤ 2560) {H : Heap} {locs : List Loc} {ls : Array Slot} (hI : LI dC dI G ax H) (hS : va_S A s.heap H locs) (hl : lv_has ls 4 [(3, .int (nI (5 * k))), (2, .ref (ax 112)), (1, .ref (ax 0)), (0, .ref b)]) (kk : ∀ (H : Heap) (locs : List Loc), LI dC dI G ax H → va_S A s.heap H locs → W p l e room_1 s m #[Value.ref b] below meth c H locs 129 4562 Q (F0 m 1381 ls [])) : W p l e room_1 s m #[Value.ref b] below meth c H locs 129 4562 Q (F0 m 1292 ls []) := by
  obtain ⟨hx, hb, hml, hown, hg, hX, hbl, hbA, hK, hi, hAx, hA, hSS⟩ := C1
  obtain ⟨T, Y, fa, N, B, N1, B1, N2, B2, K, S, M, E, Z, hXI, hMI⟩ := hI
  refine lv_aload_n hx hb dL_law_1292 rfl (lv_at hl 2 rfl) ?_
  refine lv_aload_n hx hb dL_law_1293 rfl (lv_at hl 3 rfl) ?_
  refine lv_iload_n hx hb dL_law_1294 rfl (lv_at hl 0 rfl) ?_
  refine lv_iconst (v := 1) hx hb dL_law_1295 (by decide) ?_
  refine lv_iadd hx hb dL_law_1296 ?_
  refine lv_cg (y := nI (5 * k + 1)) (by rw [show (1 : Int32) = nI 1 from rfl]; exact nI_add _ _) ?_
  refine va_sld hx hb hX hbl hbA hS (vp_in_nI (by omega) (by omega)) dL_law_1297 ?_
  refine lv_cg (y := xs (5 * k + 1)) (by rw [nI_clamp (by omega)]) ?_
  refine lv_aload_n hx hb dL_law_1298 rfl (lv_at hl 3 rfl) ?_
  refine lv_iload_n hx hb dL_law_1299 rfl (lv_at hl 0 rfl) ?_
  refine lv_iconst (v := 2) hx hb dL_law_1300 (by decide) ?_
  refine lv_iadd hx hb dL_law_1301 ?_
  refine lv_cg (y := nI (5 * k + 2)) (by rw [show (2 : Int32) = nI 2 from rfl]; exact nI_add _ _) ?_
  refine va_sld hx hb hX hbl hbA hS (vp_in_nI (by omega) (by omega)) dL_law_1302 ?_
  refine lv_cg (y := xs (5 * k + 2)) (by rw [nI_clamp (by omega)]) ?_
  refine lv_aload_n hx hb dL_law_1303 rfl (lv_at hl 3 rfl) ?_
  refine lv_iload_n hx hb dL_law_1304 rfl (lv_at hl 0 rfl) ?_
  refine lv_iconst (v := 3) hx hb dL_law_1305 (by decide) ?_
  refine lv_iadd hx hb dL_law_1306 ?_
  refine lv_cg (y := nI (5 * k + 3)) (by rw [show (3 : Int32) = nI 3 from rfl]; exact nI_add _ _) ?_
  refine va_sld hx hb hX hbl hbA hS (vp_in_nI (by omega) (by omega)) dL_law_1307 ?_
  refine lv_cg (y := xs (5 * k + 3)) (by rw [nI_clamp (by omega)]) ?_
  refine lv_aload_n hx hb dL_law_1308 rfl (lv_at hl 3 rfl) ?_
  refine lv_iload_n hx hb dL_law_1309 rfl (lv_at hl 0 rfl) ?_
  refine lv_iconst (v := 4) hx hb dL_law_1310 (by decide) ?_
  refine lv_iadd hx hb dL_law_1311 ?_
  refine lv_cg (y := nI (5 * k + 4)) (by rw [show (4 : Int32) = nI 4 from rfl]; exact nI_add _ _) ?_
  refine va_sld hx hb hX hbl hbA hS (vp_in_nI (by omega) (by omega)) dL_law_1312 ?_
  refine lv_cg (y := xs (5 * k + 4)) (by rw [nI_clamp (by omega)]) ?_
  refine va_calli (va_runV (As := [.int (xs (5 * k + 1)), .int (xs (5 * k + 2)), .int (xs (5 * k + 3)), .int (xs (5 * k + 4))]) (rest := []) ⟨hx, hb, hml, hown, hg⟩ (k_X10_read l dC dI G _ ax hi T Y fa N B N1 B1 N2 B2 K S M E Z (xs (5 * k + 1)) (xs (5 * k + 2)) (xs (5 * k + 3)) (xs (5 * k + 4))) (kwV hg mfX10_read wt_847 ⟨Nat.le_of_ble_eq_true rfl, Nat.le_of_ble_eq_true rfl⟩) (preVI hK hXI (hXI.recv hK)) rfl rfl hl.1 rfl (lv_room (Nat.le_of_ble_eq_true rfl)) dL_law_1313 ⟨Nat.le_of_ble_eq_true rfl, Nat.le_of_ble_eq_true rfl⟩) hS (fun q _ h => ad_A hAx hA (by decide) hS q h) (ad_A hAx hA (by decide) hS) (fun r1 u1 t1 H1 locs1 ht1 hv1 w1 hB1 hz1 hk1 hS => ?_)
  have hMI := hMI.kept (fr_ad (lo := 0) (hi := 112) hi (by decide) (by decide) (by decide) hk1)
  have hXI : X10I dC dI G ax T Y fa N B N1 B1 N2 B2 K S M E Z H1 := by rw [← ht1]; exact hB1
  refine W.widen (k := 129) (n := 4562) (by omega) (by omega) ?_
  refine lv_pop hx hb dL_law_1316 rfl ?_
  refine lv_aload_n hx hb dL_law_1317 rfl (lv_at hl 1 rfl) ?_
  refine lv_aload_n hx hb dL_law_1318 rfl (lv_at hl 3 rfl) ?_
  refine lv_iload_n hx hb dL_law_1319 rfl (lv_at hl 0 rfl) ?_
  refine lv_iconst (v := 1) hx hb dL_law_1320 (by decide) ?_
  refine lv_iadd hx hb dL_law_1321 ?_
  refine lv_cg (y := nI (5 * k + 1)) (by rw [show (1 : Int32) = nI 1 from rfl]; exact nI_add _ _) ?_
  refine va_sld hx hb hX hbl hbA hS (vp_in_nI (by omega) (by omega)) dL_law_1322 ?_
  refine lv_cg (y := xs (5 * k + 1)) (by rw [nI_clamp (by omega)]) ?_
  refine lv_aload_n hx hb dL_law_1323 rfl (lv_at hl 3 rfl) ?_
  refine lv_iload_n hx hb dL_law_1324 rfl (lv_at hl 0 rfl) ?_
  refine lv_iconst (v := 2) hx hb dL_law_1325 (by decide) ?_
  refine lv_iadd hx hb dL_law_1326 ?_
  refine lv_cg (y := nI (5 * k + 2)) (by rw [show (2 : Int32) = nI 2 from rfl]; exact nI_add _ _) ?_
  refine va_sld hx hb hX hbl hbA hS (vp_in_nI (by omega) (by omega)) dL_law_1327 ?_
  refine lv_cg (y := xs (5 * k + 2)) (by rw [nI_clamp (by omega)]) ?_
  refine lv_aload_n hx hb dL_law_1328 rfl (lv_at hl 3 rfl) ?_
  refine lv_iload_n hx hb dL_law_1329 rfl (lv_at hl 0 rfl) ?_
  refine lv_iconst (v := 3) hx hb dL_law_1330 (by decide) ?_
  refine lv_iadd hx hb dL_law_1331 ?_
  refine lv_cg (y := nI (5 * k + 3)) (by rw [show (3 : Int32) = nI 3 from rfl]; exact nI_add _ _) ?_
  refine va_sld hx hb hX hbl hbA hS (vp_in_nI (by omega) (by omega)) dL_law_1332 ?_
  refine lv_cg (y := xs (5 * k + 3)) (by rw [nI_clamp (by omega)]) ?_
  refine lv_aload_n hx hb dL_law_1333 rfl (lv_at hl 3 rfl) ?_
  refine lv_iload_n hx hb dL_law_1334 rfl (lv_at hl 0 rfl) ?_
  refine lv_iconst (v := 4) hx hb dL_law_1335 (by decide) ?_
  refine lv_iadd hx hb dL_law_1336 ?_
  refine lv_cg (y := nI (5 * k + 4)) (by rw [show (4 : Int32) = nI 4 from rfl]; exact nI_add _ _) ?_
  refine va_sld hx hb hX hbl hbA hS (vp_in_nI (by omega) (by omega)) dL_law_1337 ?_
  refine lv_cg (y := xs (5 * k + 4)) (by rw [nI_clamp (by omega)]) ?_
  refine va_calli (va_runV (As := [.int (xs (5 * k + 1)), .int (xs (5 * k + 2)), .int (xs (5 * k + 3)), .int (xs (5 * k + 4))]) (rest := []) ⟨hx, hb, hml, hown, hg⟩ (k_X11_read l dC dI G _ ax hi T Y fa N B N1 B1 N2 B2 K S M E Z (xs (5 * k + 1)) (xs (5 * k + 2)) (xs (5 * k + 3)) (xs (5 * k + 4))) (kwV hg mfX11_read wt_1264 ⟨Nat.le_of_ble_eq_true rfl, Nat.le_of_ble_eq_true rfl⟩) (preVI hK hMI (hMI.recv hK)) rfl rfl hl.1 rfl (lv_room (Nat.le_of_ble_eq_true rfl)) dL_law_1338 ⟨Nat.le_of_ble_eq_true rfl, Nat.le_of_ble_eq_true rfl⟩) hS (fun q _ h => ad_A hAx hA (by decide) hS q h) (ad_A hAx hA (by decide) hS) (fun r2 u2 t2 H2 locs2 ht2 hv2 w2 hB2 hz2 hk2 hS => ?_)
  have hXI := hXI.kept (fr_ad (lo := 112) (hi := 129) hi (by decide) (by decide) (by decide) hk2)
  have hMI : X11I dC dI G ax T Y fa N B N1 B1 N2 B2 K S M E Z H2 := by rw [← ht2]; exact hB2
  refine W.widen (k := 129) (n := 4562) (by omega) (by omega) ?_
  refine lv_pop hx hb dL_law_1341 rfl ?_
  refine lv_goto (tgt := 1381) hx hb dL_law_1342 (by decide) ?_
  exact kk _ _ ⟨_, _, _, _, _, _, _, _, _, _, _, _, _, _, hXI, hMI⟩ hS

set_option maxHeartbeats 1000000 in
set_option maxRecDepth 100000 in
theorem lc_torn {p : Program} {l : Launch} {e : Env} {s : State} {m : MethodId} {below : List Frame} {meth : Method} {c : Code} {b L : Nat} {xs : Nat → Int32} {dC : Nat → ClassId} {dI : Nat → Nat → Nat} {G : Nat → ClassId} {ax adK adV : Nat → Nat} {A : Nat → Prop} {Q : State → Prop} (C1 : lw_C p s m c b L xs dC dI G ax adK adV A) {k : Nat} (hk : 5 * k + 5 ≤ L) (hL : L ≤ 2560) {H : Heap} {locs : List Loc} {ls : Array Slot} (hI : LI dC dI G ax H) (hS : va_S A s.heap H locs) (hl : lv_has ls 4 [(3, .int (nI (5 * k))), (2, .ref (ax 112)), (1, .ref (ax 0)), (0, .ref b)]) (kk : ∀ (H : Heap) (locs : List Loc), LI dC dI G ax H → va_S A s.heap H locs → W p l e room_1 s m #[Value.ref b] below meth c H locs 129 4562 Q (F0 m 1381 ls [])) : W p l e room_1 s m #[Value.ref b] below meth c H locs 129 4562 Q (F0 m 1345 ls []) := by
  obtain ⟨hx, hb, hml, hown, hg, hX, hbl, hbA, hK, hi, hAx, hA, hSS⟩ := C1
  obtain ⟨T, Y, fa, N, B, N1, B1, N2, B2, K, S, M, E, Z, hXI, hMI⟩ := hI
  refine lv_aload_n hx hb dL_law_1345 rfl (lv_at hl 2 rfl) ?_
  refine va_calli (va_runV (As := []) (rest := []) ⟨hx, hb, hml, hown, hg⟩ (k_X10_torn l dC dI G _ ax hi T Y fa N B N1 B1 N2 B2 K S M E Z) (kwV hg mfX10_torn wt_856 ⟨Nat.le_of_ble_eq_true rfl, Nat.le_of_ble_eq_true rfl⟩) (preVI hK hXI (hXI.recv hK)) rfl rfl hl.1 rfl (lv_room (Nat.le_of_ble_eq_true rfl)) dL_law_1346 ⟨Nat.le_of_ble_eq_true rfl, Nat.le_of_ble_eq_true rfl⟩) hS (fun q _ h => ad_A hAx hA (by decide) hS q h) (ad_A hAx hA (by decide) hS) (fun r1 u1 t1 H1 locs1 ht1 hv1 w1 hB1 hz1 hk1 hS => ?_)
  have hMI := hMI.kept (fr_ad (lo := 0) (hi := 112) hi (by decide) (by decide) (by decide) hk1)
  have hXI : X10I dC dI G ax T Y fa N B N1 B1 N2 B2 K S M E Z H1 := by rw [← ht1]; exact hB1
  refine W.widen (k := 129) (n := 4562) (by omega) (by omega) ?_
  refine lv_pop hx hb dL_law_1349 rfl ?_
  refine lv_aload_n hx hb dL_law_1350 rfl (lv_at hl 1 rfl) ?_
  refine va_calli (va_runV (As := []) (rest := []) ⟨hx, hb, hml, hown, hg⟩ (k_X11_torn l dC dI G _ ax hi T Y fa N B N1 B1 N2 B2 K S M E Z) (kwV hg mfX11_torn wt_1268 ⟨Nat.le_of_ble_eq_true rfl, Nat.le_of_ble_eq_true rfl⟩) (preVI hK hMI (hMI.recv hK)) rfl rfl hl.1 rfl (lv_room (Nat.le_of_ble_eq_true rfl)) dL_law_1351 ⟨Nat.le_of_ble_eq_true rfl, Nat.le_of_ble_eq_true rfl⟩) hS (fun q _ h => ad_A hAx hA (by decide) hS q h) (ad_A hAx hA (by decide) hS) (fun r2 u2 t2 H2 locs2 ht2 hv2 w2 hB2 hz2 hk2 hS => ?_)
  have hXI := hXI.kept (fr_ad (lo := 112) (hi := 129) hi (by decide) (by decide) (by decide) hk2)
  have hMI : X11I dC dI G ax T Y fa N B N1 B1 N2 B2 K S M E Z H2 := by rw [← ht2]; exact hB2
  refine W.widen (k := 129) (n := 4562) (by omega) (by omega) ?_
  refine lv_pop hx hb dL_law_1354 rfl ?_
  refine lv_goto (tgt := 1381) hx hb dL_law_1355 (by decide) ?_
  exact kk _ _ ⟨_, _, _, _, _, _, _, _, _, _, _, _, _, _, hXI, hMI⟩ hS

set_option maxHeartbeats 1000000 in
set_option maxRecDepth 100000 in
theorem lc_count {p : Program} {l : Launch} {e : Env} {s : State} {m : MethodId} {below : List Frame} {meth : Method} {c : Code} {b L : Nat} {xs : Nat → Int32} {dC : Nat → ClassId} {dI : Nat → Nat → Nat} {G : Nat → ClassId} {ax adK adV : Nat → Nat} {A : Nat → Prop} {Q : State → Prop} (C1 : lw_C p s m c b L xs dC dI G ax adK adV A) {k : Nat} (hk : 5 * k + 5 ≤ L) (hL : L ≤ 2560) {H : Heap} {locs : List Loc} {ls : Array Slot} (hI : LI dC dI G ax H) (hS : va_S A s.heap H locs) (hl : lv_has ls 4 [(3, .int (nI (5 * k))), (2, .ref (ax 112)), (1, .ref (ax 0)), (0, .ref b)]) (kk : ∀ (H : Heap) (locs : List Loc), LI dC dI G ax H → va_S A s.heap H locs → W p l e room_1 s m #[Value.ref b] below meth c H locs 129 4562 Q (F0 m 1381 ls [])) : W p l e room_1 s m #[Value.ref b] below meth c H locs 129 4562 Q (F0 m 1358 ls []) := by
  obtain ⟨hx, hb, hml, hown, hg, hX, hbl, hbA, hK, hi, hAx, hA, hSS⟩ := C1
  obtain ⟨T, Y, fa, N, B, N1, B1, N2, B2, K, S, M, E, Z, hXI, hMI⟩ := hI
  refine lv_aload_n hx hb dL_law_1358 rfl (lv_at hl 2 rfl) ?_
  refine lv_aload_n hx hb dL_law_1359 rfl (lv_at hl 3 rfl) ?_
  refine lv_iload_n hx hb dL_law_1360 rfl (lv_at hl 0 rfl) ?_
  refine lv_iconst (v := 1) hx hb dL_law_1361 (by decide) ?_
  refine lv_iadd hx hb dL_law_1362 ?_
  refine lv_cg (y := nI (5 * k + 1)) (by rw [show (1 : Int32) = nI 1 from rfl]; exact nI_add _ _) ?_
  refine va_sld hx hb hX hbl hbA hS (vp_in_nI (by omega) (by omega)) dL_law_1363 ?_
  refine lv_cg (y := xs (5 * k + 1)) (by rw [nI_clamp (by omega)]) ?_
  refine va_calli (va_runV (As := [.int (xs (5 * k + 1))]) (rest := []) ⟨hx, hb, hml, hown, hg⟩ (k_X10_count l dC dI G _ ax hi T Y fa N B N1 B1 N2 B2 K S M E Z (xs (5 * k + 1))) (kwV hg mfX10_count wt_860 ⟨Nat.le_of_ble_eq_true rfl, Nat.le_of_ble_eq_true rfl⟩) (preVI hK hXI (hXI.recv hK)) rfl rfl hl.1 rfl (lv_room (Nat.le_of_ble_eq_true rfl)) dL_law_1364 ⟨Nat.le_of_ble_eq_true rfl, Nat.le_of_ble_eq_true rfl⟩) hS (fun q _ h => ad_A hAx hA (by decide) hS q h) (ad_A hAx hA (by decide) hS) (fun r1 u1 t1 H1 locs1 ht1 hv1 w1 hB1 hz1 hk1 hS => ?_)
  have hMI := hMI.kept (fr_ad (lo := 0) (hi := 112) hi (by decide) (by decide) (by decide) hk1)
  have hXI : X10I dC dI G ax T Y fa N B N1 B1 N2 B2 K S M E Z H1 := by rw [← ht1]; exact hB1
  refine W.widen (k := 129) (n := 4562) (by omega) (by omega) ?_
  refine lv_pop hx hb dL_law_1367 rfl ?_
  refine lv_aload_n hx hb dL_law_1368 rfl (lv_at hl 1 rfl) ?_
  refine lv_aload_n hx hb dL_law_1369 rfl (lv_at hl 3 rfl) ?_
  refine lv_iload_n hx hb dL_law_1370 rfl (lv_at hl 0 rfl) ?_
  refine lv_iconst (v := 1) hx hb dL_law_1371 (by decide) ?_
  refine lv_iadd hx hb dL_law_1372 ?_
  refine lv_cg (y := nI (5 * k + 1)) (by rw [show (1 : Int32) = nI 1 from rfl]; exact nI_add _ _) ?_
  refine va_sld hx hb hX hbl hbA hS (vp_in_nI (by omega) (by omega)) dL_law_1373 ?_
  refine lv_cg (y := xs (5 * k + 1)) (by rw [nI_clamp (by omega)]) ?_
  refine va_calli (va_runV (As := [.int (xs (5 * k + 1))]) (rest := []) ⟨hx, hb, hml, hown, hg⟩ (k_X11_count l dC dI G _ ax hi T Y fa N B N1 B1 N2 B2 K S M E Z (xs (5 * k + 1))) (kwV hg mfX11_count wt_1272 ⟨Nat.le_of_ble_eq_true rfl, Nat.le_of_ble_eq_true rfl⟩) (preVI hK hMI (hMI.recv hK)) rfl rfl hl.1 rfl (lv_room (Nat.le_of_ble_eq_true rfl)) dL_law_1374 ⟨Nat.le_of_ble_eq_true rfl, Nat.le_of_ble_eq_true rfl⟩) hS (fun q _ h => ad_A hAx hA (by decide) hS q h) (ad_A hAx hA (by decide) hS) (fun r2 u2 t2 H2 locs2 ht2 hv2 w2 hB2 hz2 hk2 hS => ?_)
  have hXI := hXI.kept (fr_ad (lo := 112) (hi := 129) hi (by decide) (by decide) (by decide) hk2)
  have hMI : X11I dC dI G ax T Y fa N B N1 B1 N2 B2 K S M E Z H2 := by rw [← ht2]; exact hB2
  refine W.widen (k := 129) (n := 4562) (by omega) (by omega) ?_
  refine lv_pop hx hb dL_law_1377 rfl ?_
  refine lv_goto (tgt := 1381) hx hb dL_law_1378 (by decide) ?_
  exact kk _ _ ⟨_, _, _, _, _, _, _, _, _, _, _, _, _, _, hXI, hMI⟩ hS
