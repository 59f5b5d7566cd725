set_option maxHeartbeats 1000000 in
set_option maxRecDepth 100000 in
theorem c_X5_refuse (l : Launch) (dC : Nat → ClassId) (dI : Nat → Nat → Nat) (G : Nat → ClassId) (sz : Nat) (h0 tp td : Nat) (x0 x1 x2 x3 x4 x5 x6 x7 x8 x9 xlo xhi : Int32)  : Met l yX5_refuse (Cond.code yX5_refuse cX5_refuse 3 (some .boolean) :: GT) ({ frames := 0, cells := 0, slots := 0, locals := 0 } : Room) (PcW [.ref h0, .int xlo, .int xhi] dC dI G [(h0, .inr (5, [.ref tp, .ref td, .int x0, .int x1, .int x2, .int x3, .int x4, .int x5, .int x6, .int x7, .int x8, .int x9]))] sz) (va_Qi (fun (r : Int32) (u : Int32 × Int32) => match u with | (u0, u1) => (r = 0) ∧ True) (fun (u : Int32 × Int32) (t : State) => match u with | (u0, u1) => va_P (dC, dI) vwCl [(h0, .inr (5, [.ref tp, .ref td, .int u0, .int u1, .int x2, .int x3, .int x4, .int x5, .int x6, .int x7, .int x8, .int x9]))] t.heap ∧ va_D (va_A [(h0, .inr (5, [.ref tp, .ref td, .int x0, .int x1, .int x2, .int x3, .int x4, .int x5, .int x6, .int x7, .int x8, .int x9]))] sz) [(h0, .inr (5, [.ref tp, .ref td, .int u0, .int u1, .int x2, .int x3, .int x4, .int x5, .int x6, .int x7, .int x8, .int x9]))]) (va_A [(h0, .inr (5, [.ref tp, .ref td, .int x0, .int x1, .int x2, .int x3, .int x4, .int x5, .int x6, .int x7, .int x8, .int x9]))] sz)) 0 0 (va_A [(h0, .inr (5, [.ref tp, .ref td, .int x0, .int x1, .int x2, .int x3, .int x4, .int x5, .int x6, .int x7, .int x8, .int x9]))] sz) := by
  refine Met.ofW (cc := cX5_refuse) (maxL := 3) (ret := (some .boolean)) (by decide) rfl ?_
  intro p e s m args below meth c s₁ Bd hml hv
  obtain ⟨rfl, hsz, hP, hK, hD0⟩ := hv
  have hx := Bd.exec
  have hb := Bd.bytes
  have hr := Bd.returns
  have hg : ∀ w ∈ GT, w.before ([.ref h0, .int xlo, .int xhi] : List Value).toArray s = true := fun w h => atoms_spec (ws := Cond.code yX5_refuse cX5_refuse 3 (some .boolean) :: GT) Bd.pre w (List.mem_cons_of_mem _ h)
  have hown : s.vm.findClass RX5 = some m.cls := findClass_of_methodNamed Bd.named
  have hlocks := Bd.notSynchronized
  subst hsz
  have hD := hD0.self (sz := s.heap.size)
  generalize hAe : va_A [(h0, .inr (5, [.ref tp, .ref td, .int x0, .int x1, .int x2, .int x3, .int x4, .int x5, .int x6, .int x7, .int x8, .int x9]))] s.heap.size = A at hD ⊢
  have hA : ∀ q : Nat, s.heap.size ≤ q → A q := fun q h => by rw [← hAe]; exact Or.inr h
  have hS : va_S A s.heap s.heap [] := va_S.rf
  have hl := lv_entry ([.ref h0, .int xlo, .int xhi]) (n := 3) (Nat.le_of_ble_eq_true rfl)
  rw [lg_entry_eq]
  generalize (lg_sl ([.ref h0, .int xlo, .int xhi]) ++ List.replicate (3 - (lg_sl ([.ref h0, .int xlo, .int xhi])).length) Slot.unset).toArray = ls at hl ⊢
  have hl : lv_has ls 3 [(0, .ref h0), (1, .int xlo), (2, .int xhi)] := hl
  refine lv_aload_n hx hb dX5_refuse_0 rfl (lv_at hl 0 rfl) ?_
  refine va_get (D := (dC, dI)) (ci := 5) (v := .int x0) (C := RX5) (T := TX5) (N := 12) hx hb hg inG5 hown hK.1 hP 0 rfl rfl 2 (by decide) (hg _ wt_109) (fun _ h9 => h9) rfl dX5_refuse_1 ?_
  refine lv_if_ne (tgt := 17) hx hb dX5_refuse_4 (by decide) (fun c1 => ?_) (fun c1 => ?_)
  · skip
    refine lv_iconst (v := 0) hx hb dX5_refuse_17 (by decide) ?_
    have hpost : (0 : Int32) = 0 := by
      have t_c1 := neI c1
      have : (0 : Int32).toInt = 0 := (by decide)
      first | rfl | ((repeat' split) <;> first | rfl | omega)
    have hP9 := hP.sub (ws' := [(h0, .inr (5, [.ref tp, .ref td, .int x0, .int x1, .int x2, .int x3, .int x4, .int x5, .int x6, .int x7, .int x8, .int x9]))]) [0] rfl
    have hD9 := hD.sub (ws' := [(h0, .inr (5, [.ref tp, .ref td, .int x0, .int x1, .int x2, .int x3, .int x4, .int x5, .int x6, .int x7, .int x8, .int x9]))]) [0] (by decide) rfl
    refine W.widen (k := 0) (n := 0) (by omega) (by omega) ?_
    exact W.zret (v := 0) hx hb hr (by first | rfl | decide | exact rfl) (fun t ht hW => ⟨⟨0, (x0, x1), rfl, ⟨hpost, trivial⟩, ⟨by rw [ht]; exact hP9, hD9⟩⟩, hS.F ht⟩) hS.2.2 dX5_refuse_18
  · skip
    refine lv_aload_n hx hb dX5_refuse_7 rfl (lv_at hl 0 rfl) ?_
    refine lv_iload_n hx hb dX5_refuse_8 rfl (lv_at hl 1 rfl) ?_
    refine va_put (D := (dC, dI)) (ci := 5) (v := .int xlo) (ty := .int) (C := RX5) (T := TX5) (N := 12) hx hb hg inG5 tyX5 tyX5_ok nmX5 hown hK.1 hP hD hS 0 rfl rfl 2 (by decide) (hg _ wt_109) (fun _ h9 => h9) rfl (by decide +kernel) rfl rfl (Nat.le_of_ble_eq_true rfl) dX5_refuse_9 (fun H locs hP hD hS => ?_)
    have hP : va_P (dC, dI) vwCl [(h0, .inr (5, [.ref tp, .ref td, .int xlo, .int x1, .int x2, .int x3, .int x4, .int x5, .int x6, .int x7, .int x8, .int x9]))] H := hP
    have hD : va_D A [(h0, .inr (5, [.ref tp, .ref td, .int xlo, .int x1, .int x2, .int x3, .int x4, .int x5, .int x6, .int x7, .int x8, .int x9]))] := hD
    refine lv_aload_n hx hb dX5_refuse_12 rfl (lv_at hl 0 rfl) ?_
    refine lv_iload_n hx hb dX5_refuse_13 rfl (lv_at hl 2 rfl) ?_
    refine va_put (D := (dC, dI)) (ci := 5) (v := .int xhi) (ty := .int) (C := RX5) (T := TX5) (N := 12) hx hb hg inG5 tyX5 tyX5_ok nmX5 hown hK.1 hP hD hS 0 rfl rfl 3 (by decide) (hg _ wt_111) (fun _ h9 => h9) rfl (by decide +kernel) rfl rfl (Nat.le_of_ble_eq_true rfl) dX5_refuse_14 (fun H locs hP hD hS => ?_)
    have hP : va_P (dC, dI) vwCl [(h0, .inr (5, [.ref tp, .ref td, .int xlo, .int xhi, .int x2, .int x3, .int x4, .int x5, .int x6, .int x7, .int x8, .int x9]))] H := hP
    have hD : va_D A [(h0, .inr (5, [.ref tp, .ref td, .int xlo, .int xhi, .int x2, .int x3, .int x4, .int x5, .int x6, .int x7, .int x8, .int x9]))] := hD
    refine lv_iconst (v := 0) hx hb dX5_refuse_17 (by decide) ?_
    have hpost : (0 : Int32) = 0 := by
      have t_c1 := eqI c1
      have : (0 : Int32).toInt = 0 := (by decide)
      first | rfl | ((repeat' split) <;> first | rfl | omega)
    have hP9 := hP.sub (ws' := [(h0, .inr (5, [.ref tp, .ref td, .int xlo, .int xhi, .int x2, .int x3, .int x4, .int x5, .int x6, .int x7, .int x8, .int x9]))]) [0] rfl
    have hD9 := hD.sub (ws' := [(h0, .inr (5, [.ref tp, .ref td, .int xlo, .int xhi, .int x2, .int x3, .int x4, .int x5, .int x6, .int x7, .int x8, .int x9]))]) [0] (by decide) rfl
    refine W.widen (k := 0) (n := 0) (by omega) (by omega) ?_
    exact W.zret (v := 0) hx hb hr (by first | rfl | decide | exact rfl) (fun t ht hW => ⟨⟨0, (xlo, xhi), rfl, ⟨hpost, trivial⟩, ⟨by rw [ht]; exact hP9, hD9⟩⟩, hS.F ht⟩) hS.2.2 dX5_refuse_18

set_option maxHeartbeats 1000000 in
set_option maxRecDepth 100000 in
theorem c_X5_begin (l : Launch) (dC : Nat → ClassId) (dI : Nat → Nat → Nat) (G : Nat → ClassId) (sz : Nat) (h0 tp td a1 a2 a3 a4 a5 a6 : Nat) (x0 x1 x2 x3 x4 x5 x6 x7 x8 x9 n1 n2 n3 : Int32) (f3 : Nat → Int32)  : Met l yX5_begin (Cond.code yX5_begin cX5_begin 1 none :: GT) ({ frames := 1, cells := 0, slots := 0, locals := 21 } : Room) (PcW [.ref h0] dC dI G [(h0, .inr (5, [.ref tp, .ref td, .int x0, .int x1, .int x2, .int x3, .int x4, .int x5, .int x6, .int x7, .int x8, .int x9])), (td, .inr (9, [.int n1, .int n2, .int n3, .ref a1, .ref a2, .ref a3, .ref a4, .ref a5, .ref a6])), (a3, .inl (G 0, 10, .inl f3))] sz) (va_Qv (fun (u : (Nat → Int32)) => match u with | u0 => True) (fun (u : (Nat → Int32)) (t : State) => match u with | u0 => va_P (dC, dI) vwCl [(h0, .inr (5, [.ref tp, .ref td, .int 0, .int 0, .int 0, .int x3, .int x4, .int 0, .int 0, .int 0, .int (-4), .int (-4)])), (td, .inr (9, [.int 0, .int 0, .int 5, .ref a1, .ref a2, .ref a3, .ref a4, .ref a5, .ref a6])), (a3, .inl (G 0, 10, .inl u0))] t.heap ∧ va_D (va_A [(h0, .inr (5, [.ref tp, .ref td, .int x0, .int x1, .int x2, .int x3, .int x4, .int x5, .int x6, .int x7, .int x8, .int x9])), (td, .inr (9, [.int n1, .int n2, .int n3, .ref a1, .ref a2, .ref a3, .ref a4, .ref a5, .ref a6])), (a3, .inl (G 0, 10, .inl f3))] sz) [(h0, .inr (5, [.ref tp, .ref td, .int 0, .int 0, .int 0, .int x3, .int x4, .int 0, .int 0, .int 0, .int (-4), .int (-4)])), (td, .inr (9, [.int 0, .int 0, .int 5, .ref a1, .ref a2, .ref a3, .ref a4, .ref a5, .ref a6])), (a3, .inl (G 0, 10, .inl u0))]) (va_A [(h0, .inr (5, [.ref tp, .ref td, .int x0, .int x1, .int x2, .int x3, .int x4, .int x5, .int x6, .int x7, .int x8, .int x9])), (td, .inr (9, [.int n1, .int n2, .int n3, .ref a1, .ref a2, .ref a3, .ref a4, .ref a5, .ref a6])), (a3, .inl (G 0, 10, .inl f3))] sz)) 0 0 (va_A [(h0, .inr (5, [.ref tp, .ref td, .int x0, .int x1, .int x2, .int x3, .int x4, .int x5, .int x6, .int x7, .int x8, .int x9])), (td, .inr (9, [.int n1, .int n2, .int n3, .ref a1, .ref a2, .ref a3, .ref a4, .ref a5, .ref a6])), (a3, .inl (G 0, 10, .inl f3))] sz) := by
  refine Met.ofW (cc := cX5_begin) (maxL := 1) (ret := none) (by decide) rfl ?_
  intro p e s m args below meth c s₁ Bd hml hv
  obtain ⟨rfl, hsz, hP, hK, hD0⟩ := hv
  have hx := Bd.exec
  have hb := Bd.bytes
  have hr := Bd.returns
  have hg : ∀ w ∈ GT, w.before ([.ref h0] : List Value).toArray s = true := fun w h => atoms_spec (ws := Cond.code yX5_begin cX5_begin 1 none :: GT) Bd.pre w (List.mem_cons_of_mem _ h)
  have hown : s.vm.findClass RX5 = some m.cls := findClass_of_methodNamed Bd.named
  have hlocks := Bd.notSynchronized
  subst hsz
  have hD := hD0.self (sz := s.heap.size)
  generalize hAe : va_A [(h0, .inr (5, [.ref tp, .ref td, .int x0, .int x1, .int x2, .int x3, .int x4, .int x5, .int x6, .int x7, .int x8, .int x9])), (td, .inr (9, [.int n1, .int n2, .int n3, .ref a1, .ref a2, .ref a3, .ref a4, .ref a5, .ref a6])), (a3, .inl (G 0, 10, .inl f3))] s.heap.size = A at hD ⊢
  have hA : ∀ q : Nat, s.heap.size ≤ q → A q := fun q h => by rw [← hAe]; exact Or.inr h
  have hS : va_S A s.heap s.heap [] := va_S.rf
  have hl := lv_entry ([.ref h0]) (n := 1) (Nat.le_of_ble_eq_true rfl)
  rw [lg_entry_eq]
  generalize (lg_sl ([.ref h0]) ++ List.replicate (1 - (lg_sl ([.ref h0])).length) Slot.unset).toArray = ls at hl ⊢
  have hl : lv_has ls 1 [(0, .ref h0)] := hl
  refine lv_aload_n hx hb dX5_begin_0 rfl (lv_at hl 0 rfl) ?_
  refine va_get (D := (dC, dI)) (ci := 5) (v := .ref td) (C := RX5) (T := TX5) (N := 12) hx hb hg inG5 hown hK.1 hP 0 rfl rfl 1 (by decide) (hg _ wt_107) (fun _ h9 => h9) rfl dX5_begin_1 ?_
  have hPc := hP.sub (ws' := [(td, .inr (9, [.int n1, .int n2, .int n3, .ref a1, .ref a2, .ref a3, .ref a4, .ref a5, .ref a6])), (a3, .inl (G 0, 10, .inl f3))]) [1, 2] rfl
  have hDc := hD.sub (ws' := [(td, .inr (9, [.int n1, .int n2, .int n3, .ref a1, .ref a2, .ref a3, .ref a4, .ref a5, .ref a6])), (a3, .inl (G 0, 10, .inl f3))]) [1, 2] (by decide) rfl
  have hFc := va_free (wc := [(td, .inr (9, [.int n1, .int n2, .int n3, .ref a1, .ref a2, .ref a3, .ref a4, .ref a5, .ref a6])), (a3, .inl (G 0, 10, .inl f3))]) hD hS hA [1, 2] rfl
  refine va_callv (va_runVN (As := []) (rest := []) ⟨hx, hb, hml, hown, hg⟩ (c_X9_clear l dC dI G _ td a1 a2 a3 a4 a5 a6 n1 n2 n3 f3 ) (kwVN hg hK mfX9_clear wn_370 ⟨Nat.le_of_ble_eq_true rfl, Nat.le_of_ble_eq_true rfl⟩) (preVW hK hPc hDc (ci := 9) rfl rfl) rfl rfl hl.1 rfl (lv_room (Nat.le_of_ble_eq_true rfl)) dX5_begin_4 ⟨Nat.le_of_ble_eq_true rfl, Nat.le_of_ble_eq_true rfl⟩) hS (fun q _ h => hFc q h) hFc (fun ur1 t H1 locs ht hvm w2 hB hz1 hk1 hS => ?_)
  obtain ⟨u3, rfl⟩ : ∃ z, z = ur1 := ⟨_, rfl⟩
  obtain ⟨hP1, hD1⟩ := hB
  rw [ht] at hP1
  obtain ⟨hP, hD⟩ := va_join (wr := [(h0, .inr (5, [.ref tp, .ref td, .int x0, .int x1, .int x2, .int x3, .int x4, .int x5, .int x6, .int x7, .int x8, .int x9]))]) (w1 := [(td, .inr (9, [.int 0, .int 0, .int 5, .ref a1, .ref a2, .ref a3, .ref a4, .ref a5, .ref a6])), (a3, .inl (G 0, 10, .inl u3))]) hP hD [1, 2] [0] rfl rfl (by decide) (by decide) hk1 hFc hP1 hD1
  generalize H1 = H at hP hS ⊢
  have hP : va_P (dC, dI) vwCl [(h0, .inr (5, [.ref tp, .ref td, .int x0, .int x1, .int x2, .int x3, .int x4, .int x5, .int x6, .int x7, .int x8, .int x9])), (td, .inr (9, [.int 0, .int 0, .int 5, .ref a1, .ref a2, .ref a3, .ref a4, .ref a5, .ref a6])), (a3, .inl (G 0, 10, .inl u3))] H := hP
  have hD : va_D A [(h0, .inr (5, [.ref tp, .ref td, .int x0, .int x1, .int x2, .int x3, .int x4, .int x5, .int x6, .int x7, .int x8, .int x9])), (td, .inr (9, [.int 0, .int 0, .int 5, .ref a1, .ref a2, .ref a3, .ref a4, .ref a5, .ref a6])), (a3, .inl (G 0, 10, .inl u3))] := hD
  refine lv_aload_n hx hb dX5_begin_7 rfl (lv_at hl 0 rfl) ?_
  refine lv_iconst (v := 0) hx hb dX5_begin_8 (by decide) ?_
  refine va_put (D := (dC, dI)) (ci := 5) (v := .int 0) (ty := .int) (C := RX5) (T := TX5) (N := 12) hx hb hg inG5 tyX5 tyX5_ok nmX5 hown hK.1 hP hD hS 0 rfl rfl 2 (by decide) (hg _ wt_109) (fun _ h9 => h9) rfl (by decide +kernel) rfl rfl (Nat.le_of_ble_eq_true rfl) dX5_begin_9 (fun H locs hP hD hS => ?_)
  have hP : va_P (dC, dI) vwCl [(h0, .inr (5, [.ref tp, .ref td, .int 0, .int x1, .int x2, .int x3, .int x4, .int x5, .int x6, .int x7, .int x8, .int x9])), (td, .inr (9, [.int 0, .int 0, .int 5, .ref a1, .ref a2, .ref a3, .ref a4, .ref a5, .ref a6])), (a3, .inl (G 0, 10, .inl u3))] H := hP
  have hD : va_D A [(h0, .inr (5, [.ref tp, .ref td, .int 0, .int x1, .int x2, .int x3, .int x4, .int x5, .int x6, .int x7, .int x8, .int x9])), (td, .inr (9, [.int 0, .int 0, .int 5, .ref a1, .ref a2, .ref a3, .ref a4, .ref a5, .ref a6])), (a3, .inl (G 0, 10, .inl u3))] := hD
  refine lv_aload_n hx hb dX5_begin_12 rfl (lv_at hl 0 rfl) ?_
  refine lv_iconst (v := 0) hx hb dX5_begin_13 (by decide) ?_
  refine va_put (D := (dC, dI)) (ci := 5) (v := .int 0) (ty := .int) (C := RX5) (T := TX5) (N := 12) hx hb hg inG5 tyX5 tyX5_ok nmX5 hown hK.1 hP hD hS 0 rfl rfl 3 (by decide) (hg _ wt_111) (fun _ h9 => h9) rfl (by decide +kernel) rfl rfl (Nat.le_of_ble_eq_true rfl) dX5_begin_14 (fun H locs hP hD hS => ?_)
  have hP : va_P (dC, dI) vwCl [(h0, .inr (5, [.ref tp, .ref td, .int 0, .int 0, .int x2, .int x3, .int x4, .int x5, .int x6, .int x7, .int x8, .int x9])), (td, .inr (9, [.int 0, .int 0, .int 5, .ref a1, .ref a2, .ref a3, .ref a4, .ref a5, .ref a6])), (a3, .inl (G 0, 10, .inl u3))] H := hP
  have hD : va_D A [(h0, .inr (5, [.ref tp, .ref td, .int 0, .int 0, .int x2, .int x3, .int x4, .int x5, .int x6, .int x7, .int x8, .int x9])), (td, .inr (9, [.int 0, .int 0, .int 5, .ref a1, .ref a2, .ref a3, .ref a4, .ref a5, .ref a6])), (a3, .inl (G 0, 10, .inl u3))] := hD
  refine lv_aload_n hx hb dX5_begin_17 rfl (lv_at hl 0 rfl) ?_
  refine lv_iconst (v := 0) hx hb dX5_begin_18 (by decide) ?_
  refine va_put (D := (dC, dI)) (ci := 5) (v := .int 0) (ty := .int) (C := RX5) (T := TX5) (N := 12) hx hb hg inG5 tyX5 tyX5_ok nmX5 hown hK.1 hP hD hS 0 rfl rfl 4 (by decide) (hg _ wt_113) (fun _ h9 => h9) rfl (by decide +kernel) rfl rfl (Nat.le_of_ble_eq_true rfl) dX5_begin_19 (fun H locs hP hD hS => ?_)
  have hP : va_P (dC, dI) vwCl [(h0, .inr (5, [.ref tp, .ref td, .int 0, .int 0, .int 0, .int x3, .int x4, .int x5, .int x6, .int x7, .int x8, .int x9])), (td, .inr (9, [.int 0, .int 0, .int 5, .ref a1, .ref a2, .ref a3, .ref a4, .ref a5, .ref a6])), (a3, .inl (G 0, 10, .inl u3))] H := hP
  have hD : va_D A [(h0, .inr (5, [.ref tp, .ref td, .int 0, .int 0, .int 0, .int x3, .int x4, .int x5, .int x6, .int x7, .int x8, .int x9])), (td, .inr (9, [.int 0, .int 0, .int 5, .ref a1, .ref a2, .ref a3, .ref a4, .ref a5, .ref a6])), (a3, .inl (G 0, 10, .inl u3))] := hD
  refine lv_aload_n hx hb dX5_begin_22 rfl (lv_at hl 0 rfl) ?_
  refine lv_iconst (v := 0) hx hb dX5_begin_23 (by decide) ?_
  refine va_put (D := (dC, dI)) (ci := 5) (v := .int 0) (ty := .int) (C := RX5) (T := TX5) (N := 12) hx hb hg inG5 tyX5 tyX5_ok nmX5 hown hK.1 hP hD hS 0 rfl rfl 7 (by decide) (hg _ wt_117) (fun _ h9 => h9) rfl (by decide +kernel) rfl rfl (Nat.le_of_ble_eq_true rfl) dX5_begin_24 (fun H locs hP hD hS => ?_)
  have hP : va_P (dC, dI) vwCl [(h0, .inr (5, [.ref tp, .ref td, .int 0, .int 0, .int 0, .int x3, .int x4, .int 0, .int x6, .int x7, .int x8, .int x9])), (td, .inr (9, [.int 0, .int 0, .int 5, .ref a1, .ref a2, .ref a3, .ref a4, .ref a5, .ref a6])), (a3, .inl (G 0, 10, .inl u3))] H := hP
  have hD : va_D A [(h0, .inr (5, [.ref tp, .ref td, .int 0, .int 0, .int 0, .int x3, .int x4, .int 0, .int x6, .int x7, .int x8, .int x9])), (td, .inr (9, [.int 0, .int 0, .int 5, .ref a1, .ref a2, .ref a3, .ref a4, .ref a5, .ref a6])), (a3, .inl (G 0, 10, .inl u3))] := hD
  refine lv_aload_n hx hb dX5_begin_27 rfl (lv_at hl 0 rfl) ?_
  refine lv_iconst (v := 0) hx hb dX5_begin_28 (by decide) ?_
  refine va_put (D := (dC, dI)) (ci := 5) (v := .int 0) (ty := .boolean) (C := RX5) (T := TX5) (N := 12) hx hb hg inG5 tyX5 tyX5_ok nmX5 hown hK.1 hP hD hS 0 rfl rfl 8 (by decide) (hg _ wt_118) (fun _ h9 => h9) rfl (by decide +kernel) rfl rfl (Nat.le_of_ble_eq_true rfl) dX5_begin_29 (fun H locs hP hD hS => ?_)
  have hP : va_P (dC, dI) vwCl [(h0, .inr (5, [.ref tp, .ref td, .int 0, .int 0, .int 0, .int x3, .int x4, .int 0, .int 0, .int x7, .int x8, .int x9])), (td, .inr (9, [.int 0, .int 0, .int 5, .ref a1, .ref a2, .ref a3, .ref a4, .ref a5, .ref a6])), (a3, .inl (G 0, 10, .inl u3))] H := hP
  have hD : va_D A [(h0, .inr (5, [.ref tp, .ref td, .int 0, .int 0, .int 0, .int x3, .int x4, .int 0, .int 0, .int x7, .int x8, .int x9])), (td, .inr (9, [.int 0, .int 0, .int 5, .ref a1, .ref a2, .ref a3, .ref a4, .ref a5, .ref a6])), (a3, .inl (G 0, 10, .inl u3))] := hD
  refine lv_aload_n hx hb dX5_begin_32 rfl (lv_at hl 0 rfl) ?_
  refine lv_iconst (v := 0) hx hb dX5_begin_33 (by decide) ?_
  refine va_put (D := (dC, dI)) (ci := 5) (v := .int 0) (ty := .int) (C := RX5) (T := TX5) (N := 12) hx hb hg inG5 tyX5 tyX5_ok nmX5 hown hK.1 hP hD hS 0 rfl rfl 9 (by decide) (hg _ wt_119) (fun _ h9 => h9) rfl (by decide +kernel) rfl rfl (Nat.le_of_ble_eq_true rfl) dX5_begin_34 (fun H locs hP hD hS => ?_)
  have hP : va_P (dC, dI) vwCl [(h0, .inr (5, [.ref tp, .ref td, .int 0, .int 0, .int 0, .int x3, .int x4, .int 0, .int 0, .int 0, .int x8, .int x9])), (td, .inr (9, [.int 0, .int 0, .int 5, .ref a1, .ref a2, .ref a3, .ref a4, .ref a5, .ref a6])), (a3, .inl (G 0, 10, .inl u3))] H := hP
  have hD : va_D A [(h0, .inr (5, [.ref tp, .ref td, .int 0, .int 0, .int 0, .int x3, .int x4, .int 0, .int 0, .int 0, .int x8, .int x9])), (td, .inr (9, [.int 0, .int 0, .int 5, .ref a1, .ref a2, .ref a3, .ref a4, .ref a5, .ref a6])), (a3, .inl (G 0, 10, .inl u3))] := hD
  refine lv_aload_n hx hb dX5_begin_37 rfl (lv_at hl 0 rfl) ?_
  refine lv_bipush (v := (-4)) hx hb dX5_begin_38 (by decide) ?_
  refine va_put (D := (dC, dI)) (ci := 5) (v := .int (-4)) (ty := .int) (C := RX5) (T := TX5) (N := 12) hx hb hg inG5 tyX5 tyX5_ok nmX5 hown hK.1 hP hD hS 0 rfl rfl 10 (by decide) (hg _ wt_120) (fun _ h9 => h9) rfl (by decide +kernel) rfl rfl (Nat.le_of_ble_eq_true rfl) dX5_begin_40 (fun H locs hP hD hS => ?_)
  have hP : va_P (dC, dI) vwCl [(h0, .inr (5, [.ref tp, .ref td, .int 0, .int 0, .int 0, .int x3, .int x4, .int 0, .int 0, .int 0, .int (-4), .int x9])), (td, .inr (9, [.int 0, .int 0, .int 5, .ref a1, .ref a2, .ref a3, .ref a4, .ref a5, .ref a6])), (a3, .inl (G 0, 10, .inl u3))] H := hP
  have hD : va_D A [(h0, .inr (5, [.ref tp, .ref td, .int 0, .int 0, .int 0, .int x3, .int x4, .int 0, .int 0, .int 0, .int (-4), .int x9])), (td, .inr (9, [.int 0, .int 0, .int 5, .ref a1, .ref a2, .ref a3, .ref a4, .ref a5, .ref a6])), (a3, .inl (G 0, 10, .inl u3))] := hD
  refine lv_aload_n hx hb dX5_begin_43 rfl (lv_at hl 0 rfl) ?_
  refine lv_bipush (v := (-4)) hx hb dX5_begin_44 (by decide) ?_
  refine va_put (D := (dC, dI)) (ci := 5) (v := .int (-4)) (ty := .int) (C := RX5) (T := TX5) (N := 12) hx hb hg inG5 tyX5 tyX5_ok nmX5 hown hK.1 hP hD hS 0 rfl rfl 11 (by decide) (hg _ wt_121) (fun _ h9 => h9) rfl (by decide +kernel) rfl rfl (Nat.le_of_ble_eq_true rfl) dX5_begin_46 (fun H locs hP hD hS => ?_)
  have hP : va_P (dC, dI) vwCl [(h0, .inr (5, [.ref tp, .ref td, .int 0, .int 0, .int 0, .int x3, .int x4, .int 0, .int 0, .int 0, .int (-4), .int (-4)])), (td, .inr (9, [.int 0, .int 0, .int 5, .ref a1, .ref a2, .ref a3, .ref a4, .ref a5, .ref a6])), (a3, .inl (G 0, 10, .inl u3))] H := hP
  have hD : va_D A [(h0, .inr (5, [.ref tp, .ref td, .int 0, .int 0, .int 0, .int x3, .int x4, .int 0, .int 0, .int 0, .int (-4), .int (-4)])), (td, .inr (9, [.int 0, .int 0, .int 5, .ref a1, .ref a2, .ref a3, .ref a4, .ref a5, .ref a6])), (a3, .inl (G 0, 10, .inl u3))] := hD
  have hP9 := hP.sub (ws' := [(h0, .inr (5, [.ref tp, .ref td, .int 0, .int 0, .int 0, .int x3, .int x4, .int 0, .int 0, .int 0, .int (-4), .int (-4)])), (td, .inr (9, [.int 0, .int 0, .int 5, .ref a1, .ref a2, .ref a3, .ref a4, .ref a5, .ref a6])), (a3, .inl (G 0, 10, .inl u3))]) [0, 1, 2] rfl
  have hD9 := hD.sub (ws' := [(h0, .inr (5, [.ref tp, .ref td, .int 0, .int 0, .int 0, .int x3, .int x4, .int 0, .int 0, .int 0, .int (-4), .int (-4)])), (td, .inr (9, [.int 0, .int 0, .int 5, .ref a1, .ref a2, .ref a3, .ref a4, .ref a5, .ref a6])), (a3, .inl (G 0, 10, .inl u3))]) [0, 1, 2] (by decide) rfl
  refine W.widen (k := 0) (n := 0) (by omega) (by omega) ?_
  exact W.vret hx hb hr (fun t ht hW => ⟨⟨u3, rfl, trivial, ⟨by rw [ht]; exact hP9, hD9⟩⟩, hS.F ht⟩) hS.2.2 dX5_begin_49

set_option maxHeartbeats 1000000 in
set_option maxRecDepth 100000 in
theorem c_X5_nextToken (l : Launch) (dC : Nat → ClassId) (dI : Nat → Nat → Nat) (G : Nat → ClassId) (sz : Nat) (h0 tp td ta T P : Nat) (x0 x1 x2 x3 x6 x7 x8 x9 x4 : Int32) (f : Nat → Int32) (hT : T ≤ 320) (hP0 : P ≤ T) : Met l yX5_nextToken (Cond.code yX5_nextToken cX5_nextToken 2 (some .boolean) :: GT) ({ frames := 1, cells := 0, slots := 0, locals := 24 } : Room) (PcW [.ref h0] dC dI G [(h0, .inr (5, [.ref tp, .ref td, .int x0, .int x1, .int x2, .int x3, .int x4, .int (nI P), .int x6, .int x7, .int x8, .int x9])), (tp, .inr (7, [.int (nI T), .ref ta])), (ta, .inl (G 0, 320, .inl f))] sz) (va_Qi (fun (r : Int32) (u : Int32 × Int32 × Int32 × Int32 × Nat × Nat × Int32 × Int32 × Int32 × Int32) => match u with | (u0, u1, u2, u3, u4, u5, u6, u7, u8, u9) => (r = 0 ∨ r = 1) ∧ u4 ≤ u5 ∧ u5 ≤ T) (fun (u : Int32 × Int32 × Int32 × Int32 × Nat × Nat × Int32 × Int32 × Int32 × Int32) (t : State) => match u with | (u0, u1, u2, u3, u4, u5, u6, u7, u8, u9) => va_P (dC, dI) vwCl [(h0, .inr (5, [.ref tp, .ref td, .int u0, .int u1, .int u2, .int u3, .int (nI u4), .int (nI u5), .int u6, .int u7, .int u8, .int u9])), (tp, .inr (7, [.int (nI T), .ref ta])), (ta, .inl (G 0, 320, .inl f))] t.heap ∧ va_D (va_A [(h0, .inr (5, [.ref tp, .ref td, .int x0, .int x1, .int x2, .int x3, .int x4, .int (nI P), .int x6, .int x7, .int x8, .int x9])), (tp, .inr (7, [.int (nI T), .ref ta])), (ta, .inl (G 0, 320, .inl f))] sz) [(h0, .inr (5, [.ref tp, .ref td, .int u0, .int u1, .int u2, .int u3, .int (nI u4), .int (nI u5), .int u6, .int u7, .int u8, .int u9])), (tp, .inr (7, [.int (nI T), .ref ta])), (ta, .inl (G 0, 320, .inl f))]) (va_A [(h0, .inr (5, [.ref tp, .ref td, .int x0, .int x1, .int x2, .int x3, .int x4, .int (nI P), .int x6, .int x7, .int x8, .int x9])), (tp, .inr (7, [.int (nI T), .ref ta])), (ta, .inl (G 0, 320, .inl f))] sz)) 0 0 (va_A [(h0, .inr (5, [.ref tp, .ref td, .int x0, .int x1, .int x2, .int x3, .int x4, .int (nI P), .int x6, .int x7, .int x8, .int x9])), (tp, .inr (7, [.int (nI T), .ref ta])), (ta, .inl (G 0, 320, .inl f))] sz) := by
  refine Met.ofW (cc := cX5_nextToken) (maxL := 2) (ret := (some .boolean)) (by decide) rfl ?_
  intro p e s m args below meth c s₁ Bd hml hv
  obtain ⟨rfl, hsz, hP, hK, hD0⟩ := hv
  have hx := Bd.exec
  have hb := Bd.bytes
  have hr := Bd.returns
  have hg : ∀ w ∈ GT, w.before ([.ref h0] : List Value).toArray s = true := fun w h => atoms_spec (ws := Cond.code yX5_nextToken cX5_nextToken 2 (some .boolean) :: GT) Bd.pre w (List.mem_cons_of_mem _ h)
  have hown : s.vm.findClass RX5 = some m.cls := findClass_of_methodNamed Bd.named
  have hlocks := Bd.notSynchronized
  subst hsz
  have hD := hD0.self (sz := s.heap.size)
  generalize hAe : va_A [(h0, .inr (5, [.ref tp, .ref td, .int x0, .int x1, .int x2, .int x3, .int x4, .int (nI P), .int x6, .int x7, .int x8, .int x9])), (tp, .inr (7, [.int (nI T), .ref ta])), (ta, .inl (G 0, 320, .inl f))] s.heap.size = A at hD ⊢
  have hA : ∀ q : Nat, s.heap.size ≤ q → A q := fun q h => by rw [← hAe]; exact Or.inr h
  have hS : va_S A s.heap s.heap [] := va_S.rf
  have hl := lv_entry ([.ref h0]) (n := 2) (Nat.le_of_ble_eq_true rfl)
  rw [lg_entry_eq]
  generalize (lg_sl ([.ref h0]) ++ List.replicate (2 - (lg_sl ([.ref h0])).length) Slot.unset).toArray = ls at hl ⊢
  have hl : lv_has ls 2 [(0, .ref h0)] := hl
  refine lv_aload_n hx hb dX5_nextToken_0 rfl (lv_at hl 0 rfl) ?_
  refine lv_aload_n hx hb dX5_nextToken_1 rfl (lv_at hl 0 rfl) ?_
  refine va_get (D := (dC, dI)) (ci := 5) (v := .ref tp) (C := RX5) (T := TX5) (N := 12) hx hb hg inG5 hown hK.1 hP 0 rfl rfl 0 (by decide) (hg _ wt_105) (fun _ h9 => h9) rfl dX5_nextToken_2 ?_
  refine lv_aload_n hx hb dX5_nextToken_5 rfl (lv_at hl 0 rfl) ?_
  refine va_get (D := (dC, dI)) (ci := 5) (v := .int (nI P)) (C := RX5) (T := TX5) (N := 12) hx hb hg inG5 hown hK.1 hP 0 rfl rfl 7 (by decide) (hg _ wt_117) (fun _ h9 => h9) rfl dX5_nextToken_6 ?_
  refine lv_bipush (v := 32) hx hb dX5_nextToken_9 (by decide) ?_
  refine lv_bipush (v := 32) hx hb dX5_nextToken_11 (by decide) ?_
  have hPc := hP.sub (ws' := [(tp, .inr (7, [.int (nI T), .ref ta])), (ta, .inl (G 0, 320, .inl f))]) [1, 2] rfl
  refine va_calli (va_runVN (As := [.int (nI P), .int 32, .int 32]) (rest := [.ref h0]) ⟨hx, hb, hml, hown, hg⟩ (c_X7_pastAll l dC dI G _ tp ta T P 32 32 f (by have t_n0 : (nI P).toInt = (P : Int) := nI_toInt (by omega); have t_n1 : (nI T).toInt = (T : Int) := nI_toInt (by omega); have : (32 : Int32).toInt = 32 := (by decide); have : (32 : Int32).toInt = 32 := (by decide); omega) (by have t_n0 : (nI P).toInt = (P : Int) := nI_toInt (by omega); have t_n1 : (nI T).toInt = (T : Int) := nI_toInt (by omega); have : (32 : Int32).toInt = 32 := (by decide); have : (32 : Int32).toInt = 32 := (by decide); omega)) (kwVN hg hK mfX7_pastAll wn_378 ⟨Nat.le_of_ble_eq_true rfl, Nat.le_of_ble_eq_true rfl⟩) (preVR hK hPc (ci := 7) rfl rfl) rfl rfl hl.1 rfl (lv_room (Nat.le_of_ble_eq_true rfl)) dX5_nextToken_13 ⟨Nat.le_of_ble_eq_true rfl, Nat.le_of_ble_eq_true rfl⟩) hS (fun q h1 h2 => absurd h2 (Nat.not_le.mpr h1)) (fun q h => hA q (Nat.le_trans hS.1 h)) (fun r1 ur1 t H1 locs ht hvm w2 hB hz1 hk1 hS => ?_)
  have hP := keepR hP hk1
  obtain ⟨w2, w2x⟩ := w2
  obtain ⟨k3, w2, w2a, w2b⟩ := w2
  subst w2
  refine va_put (D := (dC, dI)) (ci := 5) (v := .int (nI k3)) (ty := .int) (C := RX5) (T := TX5) (N := 12) hx hb hg inG5 tyX5 tyX5_ok nmX5 hown hK.1 hP hD hS 0 rfl rfl 6 (by decide) (hg _ wt_116) (fun _ h9 => h9) rfl (by decide +kernel) rfl rfl (Nat.le_of_ble_eq_true rfl) dX5_nextToken_16 (fun H locs hP hD hS => ?_)
  have hP : va_P (dC, dI) vwCl [(h0, .inr (5, [.ref tp, .ref td, .int x0, .int x1, .int x2, .int x3, .int (nI k3), .int (nI P), .int x6, .int x7, .int x8, .int x9])), (tp, .inr (7, [.int (nI T), .ref ta])), (ta, .inl (G 0, 320, .inl f))] H := hP
  have hD : va_D A [(h0, .inr (5, [.ref tp, .ref td, .int x0, .int x1, .int x2, .int x3, .int (nI k3), .int (nI P), .int x6, .int x7, .int x8, .int x9])), (tp, .inr (7, [.int (nI T), .ref ta])), (ta, .inl (G 0, 320, .inl f))] := hD
  refine lv_aload_n hx hb dX5_nextToken_19 rfl (lv_at hl 0 rfl) ?_
  refine lv_aload_n hx hb dX5_nextToken_20 rfl (lv_at hl 0 rfl) ?_
  refine va_get (D := (dC, dI)) (ci := 5) (v := .int (nI k3)) (C := RX5) (T := TX5) (N := 12) hx hb hg inG5 hown hK.1 hP 0 rfl rfl 6 (by decide) (hg _ wt_116) (fun _ h9 => h9) rfl dX5_nextToken_21 ?_
  refine va_put (D := (dC, dI)) (ci := 5) (v := .int (nI k3)) (ty := .int) (C := RX5) (T := TX5) (N := 12) hx hb hg inG5 tyX5 tyX5_ok nmX5 hown hK.1 hP hD hS 0 rfl rfl 7 (by decide) (hg _ wt_117) (fun _ h9 => h9) rfl (by decide +kernel) rfl rfl (Nat.le_of_ble_eq_true rfl) dX5_nextToken_24 (fun H locs hP hD hS => ?_)
  have hP : va_P (dC, dI) vwCl [(h0, .inr (5, [.ref tp, .ref td, .int x0, .int x1, .int x2, .int x3, .int (nI k3), .int (nI k3), .int x6, .int x7, .int x8, .int x9])), (tp, .inr (7, [.int (nI T), .ref ta])), (ta, .inl (G 0, 320, .inl f))] H := hP
  have hD : va_D A [(h0, .inr (5, [.ref tp, .ref td, .int x0, .int x1, .int x2, .int x3, .int (nI k3), .int (nI k3), .int x6, .int x7, .int x8, .int x9])), (tp, .inr (7, [.int (nI T), .ref ta])), (ta, .inl (G 0, 320, .inl f))] := hD
  refine lv_aload_n hx hb dX5_nextToken_27 rfl (lv_at hl 0 rfl) ?_
  refine va_get (D := (dC, dI)) (ci := 5) (v := .ref tp) (C := RX5) (T := TX5) (N := 12) hx hb hg inG5 hown hK.1 hP 0 rfl rfl 0 (by decide) (hg _ wt_105) (fun _ h9 => h9) rfl dX5_nextToken_28 ?_
  refine lv_aload_n hx hb dX5_nextToken_31 rfl (lv_at hl 0 rfl) ?_
  refine va_get (D := (dC, dI)) (ci := 5) (v := .int (nI k3)) (C := RX5) (T := TX5) (N := 12) hx hb hg inG5 hown hK.1 hP 0 rfl rfl 6 (by decide) (hg _ wt_116) (fun _ h9 => h9) rfl dX5_nextToken_32 ?_
  have hPc := hP.sub (ws' := [(tp, .inr (7, [.int (nI T), .ref ta])), (ta, .inl (G 0, 320, .inl f))]) [1, 2] rfl
  refine va_calli (va_runVN (As := [.int (nI k3)]) (rest := []) ⟨hx, hb, hml, hown, hg⟩ (c_X7_byteAt l dC dI G _ tp ta T (nI k3) f (by have t_w2a := w2a; have t_w2b := w2b; have t_n0 : (nI P).toInt = (P : Int) := nI_toInt (by omega); have t_n1 : (nI T).toInt = (T : Int) := nI_toInt (by omega); have t_n2 : (nI k3).toInt = (k3 : Int) := nI_toInt (by omega); omega)) (kwVN hg hK mfX7_byteAt wn_382 ⟨Nat.le_of_ble_eq_true rfl, Nat.le_of_ble_eq_true rfl⟩) (preVR hK hPc (ci := 7) rfl rfl) rfl rfl hl.1 rfl (lv_room (Nat.le_of_ble_eq_true rfl)) dX5_nextToken_35 ⟨Nat.le_of_ble_eq_true rfl, Nat.le_of_ble_eq_true rfl⟩) hS (fun q h1 h2 => absurd h2 (Nat.not_le.mpr h1)) (fun q h => hA q (Nat.le_trans hS.1 h)) (fun r4 ur4 t H1 locs ht hvm w5 hB hz1 hk1 hS => ?_)
  have hP := keepR hP hk1
  obtain ⟨w5, w5x⟩ := w5
  refine lv_istore_n (lv' := [(1, .int r4), (0, .ref h0)]) hx hb dX5_nextToken_38 rfl hl (by decide) rfl (fun ls hl => ?_)
  refine lv_aload_n hx hb dX5_nextToken_39 rfl (lv_at hl 1 rfl) ?_
  refine va_get (D := (dC, dI)) (ci := 5) (v := .int (nI k3)) (C := RX5) (T := TX5) (N := 12) hx hb hg inG5 hown hK.1 hP 0 rfl rfl 6 (by decide) (hg _ wt_116) (fun _ h9 => h9) rfl dX5_nextToken_40 ?_
  refine lv_aload_n hx hb dX5_nextToken_43 rfl (lv_at hl 1 rfl) ?_
  refine va_get (D := (dC, dI)) (ci := 5) (v := .ref tp) (C := RX5) (T := TX5) (N := 12) hx hb hg inG5 hown hK.1 hP 0 rfl rfl 0 (by decide) (hg _ wt_105) (fun _ h9 => h9) rfl dX5_nextToken_44 ?_
  refine va_getN (D := (dC, dI)) (ci := 7) (v := .int (nI T)) (C := RX7) (T := TX7) (N := 2) hx hb hg inG7 hown hK.1 hP 1 rfl rfl 0 (by decide) (hK.nest wn_41) (fun _ h9 => h9) rfl dX5_nextToken_47 ?_
  refine lv_icmp_lt (tgt := 61) hx hb dX5_nextToken_50 (by decide) (fun c6 => ?_) (fun c6 => ?_)
  · skip
    have n7 : k3 < T := by have t := ltI c6; rw [nI_toInt (n := k3) (by omega)] at t; rw [nI_toInt (n := T) (by omega)] at t; omega
    refine lv_iload_n hx hb dX5_nextToken_61 rfl (lv_at hl 0 rfl) ?_
    refine lv_bipush (v := 97) hx hb dX5_nextToken_62 (by decide) ?_
    refine lv_icmp_lt (tgt := 100) hx hb dX5_nextToken_64 (by decide) (fun c8 => ?_) (fun c8 => ?_)
    · skip
      refine lv_iload_n hx hb dX5_nextToken_100 rfl (lv_at hl 0 rfl) ?_
      refine lv_bipush (v := 48) hx hb dX5_nextToken_101 (by decide) ?_
      refine lv_icmp_lt (tgt := 167) hx hb dX5_nextToken_103 (by decide) (fun c9 => ?_) (fun c9 => ?_)
      · skip
        refine lv_iload_n hx hb dX5_nextToken_167 rfl (lv_at hl 0 rfl) ?_
        refine lv_bipush (v := 59) hx hb dX5_nextToken_168 (by decide) ?_
        refine lv_icmp_ne (tgt := 191) hx hb dX5_nextToken_170 (by decide) (fun c10 => ?_) (fun c10 => ?_)
        · skip
          refine lv_aload_n hx hb dX5_nextToken_191 rfl (lv_at hl 1 rfl) ?_
          refine lv_iconst (v := 1) hx hb dX5_nextToken_192 (by decide) ?_
          refine lv_aload_n hx hb dX5_nextToken_193 rfl (lv_at hl 1 rfl) ?_
          refine va_get (D := (dC, dI)) (ci := 5) (v := .int (nI k3)) (C := RX5) (T := TX5) (N := 12) hx hb hg inG5 hown hK.1 hP 0 rfl rfl 6 (by decide) (hg _ wt_116) (fun _ h9 => h9) rfl dX5_nextToken_194 ?_
          have hPc := hP.sub (ws' := [(h0, .inr (5, [.ref tp, .ref td, .int x0, .int x1, .int x2, .int x3, .int (nI k3), .int (nI k3), .int x6, .int x7, .int x8, .int x9]))]) [0] rfl
          have hDc := hD.sub (ws' := [(h0, .inr (5, [.ref tp, .ref td, .int x0, .int x1, .int x2, .int x3, .int (nI k3), .int (nI k3), .int x6, .int x7, .int x8, .int x9]))]) [0] (by decide) rfl
          have hFc := va_free (wc := [(h0, .inr (5, [.ref tp, .ref td, .int x0, .int x1, .int x2, .int x3, .int (nI k3), .int (nI k3), .int x6, .int x7, .int x8, .int x9]))]) hD hS hA [0] rfl
          refine va_calli (va_runV (As := [.int 1, .int (nI k3)]) (rest := []) ⟨hx, hb, hml, hown, hg⟩ (c_X5_refuse l dC dI G _ h0 tp td x0 x1 x2 x3 (nI k3) (nI k3) x6 x7 x8 x9 1 (nI k3) ) (kwV hg mfX5_refuse wt_386 ⟨Nat.le_of_ble_eq_true rfl, Nat.le_of_ble_eq_true rfl⟩) (preVW hK hPc hDc (ci := 5) rfl rfl) rfl rfl hl.1 rfl (lv_room (Nat.le_of_ble_eq_true rfl)) dX5_nextToken_197 ⟨Nat.le_of_ble_eq_true rfl, Nat.le_of_ble_eq_true rfl⟩) hS (fun q _ h => hFc q h) hFc (fun r11 ur11 t H1 locs ht hvm w12 hB hz1 hk1 hS => ?_)
          obtain ⟨u13, u14⟩ := ur11
          obtain ⟨hP1, hD1⟩ := hB
          rw [ht] at hP1
          obtain ⟨hP, hD⟩ := va_join (wr := [(tp, .inr (7, [.int (nI T), .ref ta])), (ta, .inl (G 0, 320, .inl f))]) (w1 := [(h0, .inr (5, [.ref tp, .ref td, .int u13, .int u14, .int x2, .int x3, .int (nI k3), .int (nI k3), .int x6, .int x7, .int x8, .int x9]))]) hP hD [0] [1, 2] rfl rfl (by decide) (by decide) hk1 hFc hP1 hD1
          generalize H1 = H at hP hS ⊢
          have hP : va_P (dC, dI) vwCl [(tp, .inr (7, [.int (nI T), .ref ta])), (ta, .inl (G 0, 320, .inl f)), (h0, .inr (5, [.ref tp, .ref td, .int u13, .int u14, .int x2, .int x3, .int (nI k3), .int (nI k3), .int x6, .int x7, .int x8, .int x9]))] H := hP
          have hD : va_D A [(tp, .inr (7, [.int (nI T), .ref ta])), (ta, .inl (G 0, 320, .inl f)), (h0, .inr (5, [.ref tp, .ref td, .int u13, .int u14, .int x2, .int x3, .int (nI k3), .int (nI k3), .int x6, .int x7, .int x8, .int x9]))] := hD
          obtain ⟨w12, w12x⟩ := w12
          subst w12
          have hpost : (0 : Int32) = 0 ∨ (0 : Int32) = 1 := by
            exact Or.inl rfl
          have hP9 := hP.sub (ws' := [(h0, .inr (5, [.ref tp, .ref td, .int u13, .int u14, .int x2, .int x3, .int (nI k3), .int (nI k3), .int x6, .int x7, .int x8, .int x9])), (tp, .inr (7, [.int (nI T), .ref ta])), (ta, .inl (G 0, 320, .inl f))]) [2, 0, 1] rfl
          have hD9 := hD.sub (ws' := [(h0, .inr (5, [.ref tp, .ref td, .int u13, .int u14, .int x2, .int x3, .int (nI k3), .int (nI k3), .int x6, .int x7, .int x8, .int x9])), (tp, .inr (7, [.int (nI T), .ref ta])), (ta, .inl (G 0, 320, .inl f))]) [2, 0, 1] (by decide) rfl
          refine W.widen (k := 0) (n := 0) (by omega) (by omega) ?_
          exact W.zret (v := 0) hx hb hr (by first | rfl | decide | exact rfl) (fun t ht hW => ⟨⟨0, (u13, u14, x2, x3, k3, k3, x6, x7, x8, x9), rfl, ⟨hpost, (by have t_w2a := w2a; have t_w2b := w2b; have t_n7 := n7; have t_c8 := ltI c8; have t_c9 := ltI c9; have t_c10 := neI c10; have : (48 : Int32).toInt = 48 := (by decide); have : (59 : Int32).toInt = 59 := (by decide); have : (97 : Int32).toInt = 97 := (by decide); have t_n0 : (nI P).toInt = (P : Int) := nI_toInt (by omega); have t_n1 : (nI T).toInt = (T : Int) := nI_toInt (by omega); have t_n2 : (nI k3).toInt = (k3 : Int) := nI_toInt (by omega); omega)⟩, ⟨by rw [ht]; exact hP9, hD9⟩⟩, hS.F ht⟩) hS.2.2 dX5_nextToken_200
        · skip
          have t_w2a := w2a
          have t_w2b := w2b
          have t_n7 := n7
          have t_c8 := ltI c8
          have t_c9 := ltI c9
          have t_c10 := eqI c10
          have : (48 : Int32).toInt = 48 := (by decide)
          have : (59 : Int32).toInt = 59 := (by decide)
          have : (97 : Int32).toInt = 97 := (by decide)
          have t_n0 : (nI P).toInt = (P : Int) := nI_toInt (by omega)
          have t_n1 : (nI T).toInt = (T : Int) := nI_toInt (by omega)
          have t_n2 : (nI k3).toInt = (k3 : Int) := nI_toInt (by omega)
          have t_n0 : (nI P).toInt = (P : Int) := nI_toInt (by omega)
          have t_n1 : (nI T).toInt = (T : Int) := nI_toInt (by omega)
          have t_n2 : (nI k3).toInt = (k3 : Int) := nI_toInt (by omega)
          exfalso; omega
      · skip
        refine lv_iload_n hx hb dX5_nextToken_106 rfl (lv_at hl 0 rfl) ?_
        refine lv_bipush (v := 57) hx hb dX5_nextToken_107 (by decide) ?_
        refine lv_icmp_gt (tgt := 167) hx hb dX5_nextToken_109 (by decide) (fun c15 => ?_) (fun c15 => ?_)
        · skip
          refine lv_iload_n hx hb dX5_nextToken_167 rfl (lv_at hl 0 rfl) ?_
          refine lv_bipush (v := 59) hx hb dX5_nextToken_168 (by decide) ?_
          refine lv_icmp_ne (tgt := 191) hx hb dX5_nextToken_170 (by decide) (fun c16 => ?_) (fun c16 => ?_)
          · skip
            refine lv_aload_n hx hb dX5_nextToken_191 rfl (lv_at hl 1 rfl) ?_
            refine lv_iconst (v := 1) hx hb dX5_nextToken_192 (by decide) ?_
            refine lv_aload_n hx hb dX5_nextToken_193 rfl (lv_at hl 1 rfl) ?_
            refine va_get (D := (dC, dI)) (ci := 5) (v := .int (nI k3)) (C := RX5) (T := TX5) (N := 12) hx hb hg inG5 hown hK.1 hP 0 rfl rfl 6 (by decide) (hg _ wt_116) (fun _ h9 => h9) rfl dX5_nextToken_194 ?_
            have hPc := hP.sub (ws' := [(h0, .inr (5, [.ref tp, .ref td, .int x0, .int x1, .int x2, .int x3, .int (nI k3), .int (nI k3), .int x6, .int x7, .int x8, .int x9]))]) [0] rfl
            have hDc := hD.sub (ws' := [(h0, .inr (5, [.ref tp, .ref td, .int x0, .int x1, .int x2, .int x3, .int (nI k3), .int (nI k3), .int x6, .int x7, .int x8, .int x9]))]) [0] (by decide) rfl
            have hFc := va_free (wc := [(h0, .inr (5, [.ref tp, .ref td, .int x0, .int x1, .int x2, .int x3, .int (nI k3), .int (nI k3), .int x6, .int x7, .int x8, .int x9]))]) hD hS hA [0] rfl
            refine va_calli (va_runV (As := [.int 1, .int (nI k3)]) (rest := []) ⟨hx, hb, hml, hown, hg⟩ (c_X5_refuse l dC dI G _ h0 tp td x0 x1 x2 x3 (nI k3) (nI k3) x6 x7 x8 x9 1 (nI k3) ) (kwV hg mfX5_refuse wt_386 ⟨Nat.le_of_ble_eq_true rfl, Nat.le_of_ble_eq_true rfl⟩) (preVW hK hPc hDc (ci := 5) rfl rfl) rfl rfl hl.1 rfl (lv_room (Nat.le_of_ble_eq_true rfl)) dX5_nextToken_197 ⟨Nat.le_of_ble_eq_true rfl, Nat.le_of_ble_eq_true rfl⟩) hS (fun q _ h => hFc q h) hFc (fun r17 ur17 t H1 locs ht hvm w18 hB hz1 hk1 hS => ?_)
            obtain ⟨u19, u20⟩ := ur17
            obtain ⟨hP1, hD1⟩ := hB
            rw [ht] at hP1
            obtain ⟨hP, hD⟩ := va_join (wr := [(tp, .inr (7, [.int (nI T), .ref ta])), (ta, .inl (G 0, 320, .inl f))]) (w1 := [(h0, .inr (5, [.ref tp, .ref td, .int u19, .int u20, .int x2, .int x3, .int (nI k3), .int (nI k3), .int x6, .int x7, .int x8, .int x9]))]) hP hD [0] [1, 2] rfl rfl (by decide) (by decide) hk1 hFc hP1 hD1
            generalize H1 = H at hP hS ⊢
            have hP : va_P (dC, dI) vwCl [(tp, .inr (7, [.int (nI T), .ref ta])), (ta, .inl (G 0, 320, .inl f)), (h0, .inr (5, [.ref tp, .ref td, .int u19, .int u20, .int x2, .int x3, .int (nI k3), .int (nI k3), .int x6, .int x7, .int x8, .int x9]))] H := hP
            have hD : va_D A [(tp, .inr (7, [.int (nI T), .ref ta])), (ta, .inl (G 0, 320, .inl f)), (h0, .inr (5, [.ref tp, .ref td, .int u19, .int u20, .int x2, .int x3, .int (nI k3), .int (nI k3), .int x6, .int x7, .int x8, .int x9]))] := hD
            obtain ⟨w18, w18x⟩ := w18
            subst w18
            have hpost : (0 : Int32) = 0 ∨ (0 : Int32) = 1 := by
              exact Or.inl rfl
            have hP9 := hP.sub (ws' := [(h0, .inr (5, [.ref tp, .ref td, .int u19, .int u20, .int x2, .int x3, .int (nI k3), .int (nI k3), .int x6, .int x7, .int x8, .int x9])), (tp, .inr (7, [.int (nI T), .ref ta])), (ta, .inl (G 0, 320, .inl f))]) [2, 0, 1] rfl
            have hD9 := hD.sub (ws' := [(h0, .inr (5, [.ref tp, .ref td, .int u19, .int u20, .int x2, .int x3, .int (nI k3), .int (nI k3), .int x6, .int x7, .int x8, .int x9])), (tp, .inr (7, [.int (nI T), .ref ta])), (ta, .inl (G 0, 320, .inl f))]) [2, 0, 1] (by decide) rfl
            refine W.widen (k := 0) (n := 0) (by omega) (by omega) ?_
            exact W.zret (v := 0) hx hb hr (by first | rfl | decide | exact rfl) (fun t ht hW => ⟨⟨0, (u19, u20, x2, x3, k3, k3, x6, x7, x8, x9), rfl, ⟨hpost, (by have t_w2a := w2a; have t_w2b := w2b; have t_n7 := n7; have t_c8 := ltI c8; have t_c9 := nltI c9; have t_c15 := ltI c15; have t_c16 := neI c16; have : (48 : Int32).toInt = 48 := (by decide); have : (57 : Int32).toInt = 57 := (by decide); have : (59 : Int32).toInt = 59 := (by decide); have : (97 : Int32).toInt = 97 := (by decide); have t_n0 : (nI P).toInt = (P : Int) := nI_toInt (by omega); have t_n1 : (nI T).toInt = (T : Int) := nI_toInt (by omega); have t_n2 : (nI k3).toInt = (k3 : Int) := nI_toInt (by omega); omega)⟩, ⟨by rw [ht]; exact hP9, hD9⟩⟩, hS.F ht⟩) hS.2.2 dX5_nextToken_200
          · skip
            refine lv_aload_n hx hb dX5_nextToken_173 rfl (lv_at hl 1 rfl) ?_
            refine lv_iconst (v := 3) hx hb dX5_nextToken_174 (by decide) ?_
            refine va_put (D := (dC, dI)) (ci := 5) (v := .int 3) (ty := .int) (C := RX5) (T := TX5) (N := 12) hx hb hg inG5 tyX5 tyX5_ok nmX5 hown hK.1 hP hD hS 0 rfl rfl 5 (by decide) (hg _ wt_115) (fun _ h9 => h9) rfl (by decide +kernel) rfl rfl (Nat.le_of_ble_eq_true rfl) dX5_nextToken_175 (fun H locs hP hD hS => ?_)
            have hP : va_P (dC, dI) vwCl [(h0, .inr (5, [.ref tp, .ref td, .int x0, .int x1, .int x2, .int 3, .int (nI k3), .int (nI k3), .int x6, .int x7, .int x8, .int x9])), (tp, .inr (7, [.int (nI T), .ref ta])), (ta, .inl (G 0, 320, .inl f))] H := hP
            have hD : va_D A [(h0, .inr (5, [.ref tp, .ref td, .int x0, .int x1, .int x2, .int 3, .int (nI k3), .int (nI k3), .int x6, .int x7, .int x8, .int x9])), (tp, .inr (7, [.int (nI T), .ref ta])), (ta, .inl (G 0, 320, .inl f))] := hD
            refine lv_aload_n hx hb dX5_nextToken_178 rfl (lv_at hl 1 rfl) ?_
            refine lv_aload_n hx hb dX5_nextToken_179 rfl (lv_at hl 1 rfl) ?_
            refine va_get (D := (dC, dI)) (ci := 5) (v := .int (nI k3)) (C := RX5) (T := TX5) (N := 12) hx hb hg inG5 hown hK.1 hP 0 rfl rfl 6 (by decide) (hg _ wt_116) (fun _ h9 => h9) rfl dX5_nextToken_180 ?_
            refine lv_iconst (v := 1) hx hb dX5_nextToken_183 (by decide) ?_
            refine lv_iadd hx hb dX5_nextToken_184 ?_
            refine lv_cg (y := nI (k3 + 1)) (by rw [show (1 : Int32) = nI 1 from rfl]; exact nI_add _ _) ?_
            refine va_put (D := (dC, dI)) (ci := 5) (v := .int (nI (k3 + 1))) (ty := .int) (C := RX5) (T := TX5) (N := 12) hx hb hg inG5 tyX5 tyX5_ok nmX5 hown hK.1 hP hD hS 0 rfl rfl 7 (by decide) (hg _ wt_117) (fun _ h9 => h9) rfl (by decide +kernel) rfl rfl (Nat.le_of_ble_eq_true rfl) dX5_nextToken_185 (fun H locs hP hD hS => ?_)
            have hP : va_P (dC, dI) vwCl [(h0, .inr (5, [.ref tp, .ref td, .int x0, .int x1, .int x2, .int 3, .int (nI k3), .int (nI (k3 + 1)), .int x6, .int x7, .int x8, .int x9])), (tp, .inr (7, [.int (nI T), .ref ta])), (ta, .inl (G 0, 320, .inl f))] H := hP
            have hD : va_D A [(h0, .inr (5, [.ref tp, .ref td, .int x0, .int x1, .int x2, .int 3, .int (nI k3), .int (nI (k3 + 1)), .int x6, .int x7, .int x8, .int x9])), (tp, .inr (7, [.int (nI T), .ref ta])), (ta, .inl (G 0, 320, .inl f))] := hD
            refine lv_goto (tgt := 201) hx hb dX5_nextToken_188 (by decide) ?_
            refine lv_iconst (v := 1) hx hb dX5_nextToken_201 (by decide) ?_
            have hpost : (1 : Int32) = 0 ∨ (1 : Int32) = 1 := by
              exact Or.inr rfl
            have hP9 := hP.sub (ws' := [(h0, .inr (5, [.ref tp, .ref td, .int x0, .int x1, .int x2, .int 3, .int (nI k3), .int (nI (k3 + 1)), .int x6, .int x7, .int x8, .int x9])), (tp, .inr (7, [.int (nI T), .ref ta])), (ta, .inl (G 0, 320, .inl f))]) [0, 1, 2] rfl
            have hD9 := hD.sub (ws' := [(h0, .inr (5, [.ref tp, .ref td, .int x0, .int x1, .int x2, .int 3, .int (nI k3), .int (nI (k3 + 1)), .int x6, .int x7, .int x8, .int x9])), (tp, .inr (7, [.int (nI T), .ref ta])), (ta, .inl (G 0, 320, .inl f))]) [0, 1, 2] (by decide) rfl
            refine W.widen (k := 0) (n := 0) (by omega) (by omega) ?_
            exact W.zret (v := 1) hx hb hr (by first | rfl | decide | exact rfl) (fun t ht hW => ⟨⟨1, (x0, x1, x2, 3, k3, (k3 + 1), x6, x7, x8, x9), rfl, ⟨hpost, (by have t_w2a := w2a; have t_w2b := w2b; have t_n7 := n7; have t_c8 := ltI c8; have t_c9 := nltI c9; have t_c15 := ltI c15; have t_c16 := eqI c16; have : (48 : Int32).toInt = 48 := (by decide); have : (57 : Int32).toInt = 57 := (by decide); have : (59 : Int32).toInt = 59 := (by decide); have : (97 : Int32).toInt = 97 := (by decide); have t_n0 : (nI P).toInt = (P : Int) := nI_toInt (by omega); have t_n1 : (nI T).toInt = (T : Int) := nI_toInt (by omega); have t_n2 : (nI k3).toInt = (k3 : Int) := nI_toInt (by omega); omega)⟩, ⟨by rw [ht]; exact hP9, hD9⟩⟩, hS.F ht⟩) hS.2.2 dX5_nextToken_202
        · skip
          refine lv_aload_n hx hb dX5_nextToken_112 rfl (lv_at hl 1 rfl) ?_
          refine lv_iconst (v := 2) hx hb dX5_nextToken_113 (by decide) ?_
          refine va_put (D := (dC, dI)) (ci := 5) (v := .int 2) (ty := .int) (C := RX5) (T := TX5) (N := 12) hx hb hg inG5 tyX5 tyX5_ok nmX5 hown hK.1 hP hD hS 0 rfl rfl 5 (by decide) (hg _ wt_115) (fun _ h9 => h9) rfl (by decide +kernel) rfl rfl (Nat.le_of_ble_eq_true rfl) dX5_nextToken_114 (fun H locs hP hD hS => ?_)
          have hP : va_P (dC, dI) vwCl [(h0, .inr (5, [.ref tp, .ref td, .int x0, .int x1, .int x2, .int 2, .int (nI k3), .int (nI k3), .int x6, .int x7, .int x8, .int x9])), (tp, .inr (7, [.int (nI T), .ref ta])), (ta, .inl (G 0, 320, .inl f))] H := hP
          have hD : va_D A [(h0, .inr (5, [.ref tp, .ref td, .int x0, .int x1, .int x2, .int 2, .int (nI k3), .int (nI k3), .int x6, .int x7, .int x8, .int x9])), (tp, .inr (7, [.int (nI T), .ref ta])), (ta, .inl (G 0, 320, .inl f))] := hD
          refine lv_aload_n hx hb dX5_nextToken_117 rfl (lv_at hl 1 rfl) ?_
          refine lv_aload_n hx hb dX5_nextToken_118 rfl (lv_at hl 1 rfl) ?_
          refine va_get (D := (dC, dI)) (ci := 5) (v := .ref tp) (C := RX5) (T := TX5) (N := 12) hx hb hg inG5 hown hK.1 hP 0 rfl rfl 0 (by decide) (hg _ wt_105) (fun _ h9 => h9) rfl dX5_nextToken_119 ?_
          refine lv_aload_n hx hb dX5_nextToken_122 rfl (lv_at hl 1 rfl) ?_
          refine va_get (D := (dC, dI)) (ci := 5) (v := .int (nI k3)) (C := RX5) (T := TX5) (N := 12) hx hb hg inG5 hown hK.1 hP 0 rfl rfl 6 (by decide) (hg _ wt_116) (fun _ h9 => h9) rfl dX5_nextToken_123 ?_
          refine lv_bipush (v := 48) hx hb dX5_nextToken_126 (by decide) ?_
          refine lv_bipush (v := 57) hx hb dX5_nextToken_128 (by decide) ?_
          have hPc := hP.sub (ws' := [(tp, .inr (7, [.int (nI T), .ref ta])), (ta, .inl (G 0, 320, .inl f))]) [1, 2] rfl
          refine va_calli (va_runVN (As := [.int (nI k3), .int 48, .int 57]) (rest := [.ref h0]) ⟨hx, hb, hml, hown, hg⟩ (c_X7_pastAll l dC dI G _ tp ta T k3 48 57 f (by have t_w2a := w2a; have t_w2b := w2b; have t_n7 := n7; have t_c8 := ltI c8; have t_c9 := nltI c9; have t_c15 := nltI c15; have : (48 : Int32).toInt = 48 := (by decide); have : (57 : Int32).toInt = 57 := (by decide); have : (97 : Int32).toInt = 97 := (by decide); have t_n0 : (nI P).toInt = (P : Int) := nI_toInt (by omega); have t_n1 : (nI T).toInt = (T : Int) := nI_toInt (by omega); have t_n2 : (nI k3).toInt = (k3 : Int) := nI_toInt (by omega); have : (48 : Int32).toInt = 48 := (by decide); have : (57 : Int32).toInt = 57 := (by decide); omega) (by have t_w2a := w2a; have t_w2b := w2b; have t_n7 := n7; have t_c8 := ltI c8; have t_c9 := nltI c9; have t_c15 := nltI c15; have : (48 : Int32).toInt = 48 := (by decide); have : (57 : Int32).toInt = 57 := (by decide); have : (97 : Int32).toInt = 97 := (by decide); have t_n0 : (nI P).toInt = (P : Int) := nI_toInt (by omega); have t_n1 : (nI T).toInt = (T : Int) := nI_toInt (by omega); have t_n2 : (nI k3).toInt = (k3 : Int) := nI_toInt (by omega); have : (48 : Int32).toInt = 48 := (by decide); have : (57 : Int32).toInt = 57 := (by decide); omega)) (kwVN hg hK mfX7_pastAll wn_378 ⟨Nat.le_of_ble_eq_true rfl, Nat.le_of_ble_eq_true rfl⟩) (preVR hK hPc (ci := 7) rfl rfl) rfl rfl hl.1 rfl (lv_room (Nat.le_of_ble_eq_true rfl)) dX5_nextToken_130 ⟨Nat.le_of_ble_eq_true rfl, Nat.le_of_ble_eq_true rfl⟩) hS (fun q h1 h2 => absurd h2 (Nat.not_le.mpr h1)) (fun q h => hA q (Nat.le_trans hS.1 h)) (fun r21 ur21 t H1 locs ht hvm w22 hB hz1 hk1 hS => ?_)
          have hP := keepR hP hk1
          obtain ⟨w22, w22x⟩ := w22
          obtain ⟨k23, w22, w22a, w22b⟩ := w22
          subst w22
          refine va_put (D := (dC, dI)) (ci := 5) (v := .int (nI k23)) (ty := .int) (C := RX5) (T := TX5) (N := 12) hx hb hg inG5 tyX5 tyX5_ok nmX5 hown hK.1 hP hD hS 0 rfl rfl 7 (by decide) (hg _ wt_117) (fun _ h9 => h9) rfl (by decide +kernel) rfl rfl (Nat.le_of_ble_eq_true rfl) dX5_nextToken_133 (fun H locs hP hD hS => ?_)
          have hP : va_P (dC, dI) vwCl [(h0, .inr (5, [.ref tp, .ref td, .int x0, .int x1, .int x2, .int 2, .int (nI k3), .int (nI k23), .int x6, .int x7, .int x8, .int x9])), (tp, .inr (7, [.int (nI T), .ref ta])), (ta, .inl (G 0, 320, .inl f))] H := hP
          have hD : va_D A [(h0, .inr (5, [.ref tp, .ref td, .int x0, .int x1, .int x2, .int 2, .int (nI k3), .int (nI k23), .int x6, .int x7, .int x8, .int x9])), (tp, .inr (7, [.int (nI T), .ref ta])), (ta, .inl (G 0, 320, .inl f))] := hD
          refine lv_aload_n hx hb dX5_nextToken_136 rfl (lv_at hl 1 rfl) ?_
          refine va_get (D := (dC, dI)) (ci := 5) (v := .int (nI k23)) (C := RX5) (T := TX5) (N := 12) hx hb hg inG5 hown hK.1 hP 0 rfl rfl 7 (by decide) (hg _ wt_117) (fun _ h9 => h9) rfl dX5_nextToken_137 ?_
          refine lv_aload_n hx hb dX5_nextToken_140 rfl (lv_at hl 1 rfl) ?_
          refine va_get (D := (dC, dI)) (ci := 5) (v := .int (nI k3)) (C := RX5) (T := TX5) (N := 12) hx hb hg inG5 hown hK.1 hP 0 rfl rfl 6 (by decide) (hg _ wt_116) (fun _ h9 => h9) rfl dX5_nextToken_141 ?_
          refine lv_isub hx hb dX5_nextToken_144 ?_
          refine lv_cg (y := nI (k23 - k3)) (by exact pk_sub (by have t_w2a := w2a; have t_w2b := w2b; have t_n7 := n7; have t_c8 := ltI c8; have t_c9 := nltI c9; have t_c15 := nltI c15; have t_w22a := w22a; have t_w22b := w22b; have : (48 : Int32).toInt = 48 := (by decide); have : (57 : Int32).toInt = 57 := (by decide); have : (97 : Int32).toInt = 97 := (by decide); have t_n0 : (nI P).toInt = (P : Int) := nI_toInt (by omega); have t_n1 : (nI T).toInt = (T : Int) := nI_toInt (by omega); have t_n2 : (nI k3).toInt = (k3 : Int) := nI_toInt (by omega); have t_n3 : (nI k23).toInt = (k23 : Int) := nI_toInt (by omega); omega)) ?_
          refine lv_iconst (v := 2) hx hb dX5_nextToken_145 (by decide) ?_
          refine lv_icmp_le (tgt := 161) hx hb dX5_nextToken_146 (by decide) (fun c24 => ?_) (fun c24 => ?_)
          · skip
            have n25 : (k23 - k3) ≤ 2 := by have t := leI c24; rw [nI_toInt (n := (k23 - k3)) (by omega)] at t; have : (2 : Int32).toInt = 2 := (by decide); omega
            refine lv_iconst (v := 1) hx hb dX5_nextToken_161 (by decide) ?_
            refine lv_goto (tgt := 166) hx hb dX5_nextToken_162 (by decide) ?_
            have hpost : (1 : Int32) = 0 ∨ (1 : Int32) = 1 := by
              exact Or.inr rfl
            have hP9 := hP.sub (ws' := [(h0, .inr (5, [.ref tp, .ref td, .int x0, .int x1, .int x2, .int 2, .int (nI k3), .int (nI k23), .int x6, .int x7, .int x8, .int x9])), (tp, .inr (7, [.int (nI T), .ref ta])), (ta, .inl (G 0, 320, .inl f))]) [0, 1, 2] rfl
            have hD9 := hD.sub (ws' := [(h0, .inr (5, [.ref tp, .ref td, .int x0, .int x1, .int x2, .int 2, .int (nI k3), .int (nI k23), .int x6, .int x7, .int x8, .int x9])), (tp, .inr (7, [.int (nI T), .ref ta])), (ta, .inl (G 0, 320, .inl f))]) [0, 1, 2] (by decide) rfl
            refine W.widen (k := 0) (n := 0) (by omega) (by omega) ?_
            exact W.zret (v := 1) hx hb hr (by first | rfl | decide | exact rfl) (fun t ht hW => ⟨⟨1, (x0, x1, x2, 2, k3, k23, x6, x7, x8, x9), rfl, ⟨hpost, (by have t_w2a := w2a; have t_w2b := w2b; have t_n7 := n7; have t_c8 := ltI c8; have t_c9 := nltI c9; have t_c15 := nltI c15; have t_w22a := w22a; have t_w22b := w22b; have t_n25 := n25; have : (48 : Int32).toInt = 48 := (by decide); have : (57 : Int32).toInt = 57 := (by decide); have : (97 : Int32).toInt = 97 := (by decide); have t_n0 : (nI P).toInt = (P : Int) := nI_toInt (by omega); have t_n1 : (nI T).toInt = (T : Int) := nI_toInt (by omega); have t_n2 : (nI k3).toInt = (k3 : Int) := nI_toInt (by omega); have t_n3 : (nI k23).toInt = (k23 : Int) := nI_toInt (by omega); omega)⟩, ⟨by rw [ht]; exact hP9, hD9⟩⟩, hS.F ht⟩) hS.2.2 dX5_nextToken_166
          · skip
            have n26 : 2 < (k23 - k3) := by have t := nleI c24; rw [nI_toInt (n := (k23 - k3)) (by omega)] at t; have : (2 : Int32).toInt = 2 := (by decide); omega
            refine lv_aload_n hx hb dX5_nextToken_149 rfl (lv_at hl 1 rfl) ?_
            refine lv_iconst (v := 1) hx hb dX5_nextToken_150 (by decide) ?_
            refine lv_aload_n hx hb dX5_nextToken_151 rfl (lv_at hl 1 rfl) ?_
            refine va_get (D := (dC, dI)) (ci := 5) (v := .int (nI k3)) (C := RX5) (T := TX5) (N := 12) hx hb hg inG5 hown hK.1 hP 0 rfl rfl 6 (by decide) (hg _ wt_116) (fun _ h9 => h9) rfl dX5_nextToken_152 ?_
            have hPc := hP.sub (ws' := [(h0, .inr (5, [.ref tp, .ref td, .int x0, .int x1, .int x2, .int 2, .int (nI k3), .int (nI k23), .int x6, .int x7, .int x8, .int x9]))]) [0] rfl
            have hDc := hD.sub (ws' := [(h0, .inr (5, [.ref tp, .ref td, .int x0, .int x1, .int x2, .int 2, .int (nI k3), .int (nI k23), .int x6, .int x7, .int x8, .int x9]))]) [0] (by decide) rfl
            have hFc := va_free (wc := [(h0, .inr (5, [.ref tp, .ref td, .int x0, .int x1, .int x2, .int 2, .int (nI k3), .int (nI k23), .int x6, .int x7, .int x8, .int x9]))]) hD hS hA [0] rfl
            refine va_calli (va_runV (As := [.int 1, .int (nI k3)]) (rest := []) ⟨hx, hb, hml, hown, hg⟩ (c_X5_refuse l dC dI G _ h0 tp td x0 x1 x2 2 (nI k3) (nI k23) x6 x7 x8 x9 1 (nI k3) ) (kwV hg mfX5_refuse wt_386 ⟨Nat.le_of_ble_eq_true rfl, Nat.le_of_ble_eq_true rfl⟩) (preVW hK hPc hDc (ci := 5) rfl rfl) rfl rfl hl.1 rfl (lv_room (Nat.le_of_ble_eq_true rfl)) dX5_nextToken_155 ⟨Nat.le_of_ble_eq_true rfl, Nat.le_of_ble_eq_true rfl⟩) hS (fun q _ h => hFc q h) hFc (fun r27 ur27 t H1 locs ht hvm w28 hB hz1 hk1 hS => ?_)
            obtain ⟨u29, u30⟩ := ur27
            obtain ⟨hP1, hD1⟩ := hB
            rw [ht] at hP1
            obtain ⟨hP, hD⟩ := va_join (wr := [(tp, .inr (7, [.int (nI T), .ref ta])), (ta, .inl (G 0, 320, .inl f))]) (w1 := [(h0, .inr (5, [.ref tp, .ref td, .int u29, .int u30, .int x2, .int 2, .int (nI k3), .int (nI k23), .int x6, .int x7, .int x8, .int x9]))]) hP hD [0] [1, 2] rfl rfl (by decide) (by decide) hk1 hFc hP1 hD1
            generalize H1 = H at hP hS ⊢
            have hP : va_P (dC, dI) vwCl [(tp, .inr (7, [.int (nI T), .ref ta])), (ta, .inl (G 0, 320, .inl f)), (h0, .inr (5, [.ref tp, .ref td, .int u29, .int u30, .int x2, .int 2, .int (nI k3), .int (nI k23), .int x6, .int x7, .int x8, .int x9]))] H := hP
            have hD : va_D A [(tp, .inr (7, [.int (nI T), .ref ta])), (ta, .inl (G 0, 320, .inl f)), (h0, .inr (5, [.ref tp, .ref td, .int u29, .int u30, .int x2, .int 2, .int (nI k3), .int (nI k23), .int x6, .int x7, .int x8, .int x9]))] := hD
            obtain ⟨w28, w28x⟩ := w28
            subst w28
            refine lv_if_eq (tgt := 165) hx hb dX5_nextToken_158 (by decide) (fun c31 => ?_) (fun c31 => ?_)
            · skip
              refine lv_iconst (v := 0) hx hb dX5_nextToken_165 (by decide) ?_
              have hpost : (0 : Int32) = 0 ∨ (0 : Int32) = 1 := by
                exact Or.inl rfl
              have hP9 := hP.sub (ws' := [(h0, .inr (5, [.ref tp, .ref td, .int u29, .int u30, .int x2, .int 2, .int (nI k3), .int (nI k23), .int x6, .int x7, .int x8, .int x9])), (tp, .inr (7, [.int (nI T), .ref ta])), (ta, .inl (G 0, 320, .inl f))]) [2, 0, 1] rfl
              have hD9 := hD.sub (ws' := [(h0, .inr (5, [.ref tp, .ref td, .int u29, .int u30, .int x2, .int 2, .int (nI k3), .int (nI k23), .int x6, .int x7, .int x8, .int x9])), (tp, .inr (7, [.int (nI T), .ref ta])), (ta, .inl (G 0, 320, .inl f))]) [2, 0, 1] (by decide) rfl
              refine W.widen (k := 0) (n := 0) (by omega) (by omega) ?_
              exact W.zret (v := 0) hx hb hr (by first | rfl | decide | exact rfl) (fun t ht hW => ⟨⟨0, (u29, u30, x2, 2, k3, k23, x6, x7, x8, x9), rfl, ⟨hpost, (by have t_w2a := w2a; have t_w2b := w2b; have t_n7 := n7; have t_c8 := ltI c8; have t_c9 := nltI c9; have t_c15 := nltI c15; have t_w22a := w22a; have t_w22b := w22b; have t_n26 := n26; have t_c31 := eqI c31; have : (0 : Int32).toInt = 0 := (by decide); have : (48 : Int32).toInt = 48 := (by decide); have : (57 : Int32).toInt = 57 := (by decide); have : (97 : Int32).toInt = 97 := (by decide); have t_n0 : (nI P).toInt = (P : Int) := nI_toInt (by omega); have t_n1 : (nI T).toInt = (T : Int) := nI_toInt (by omega); have t_n2 : (nI k3).toInt = (k3 : Int) := nI_toInt (by omega); have t_n3 : (nI k23).toInt = (k23 : Int) := nI_toInt (by omega); omega)⟩, ⟨by rw [ht]; exact hP9, hD9⟩⟩, hS.F ht⟩) hS.2.2 dX5_nextToken_166
            · skip
              exact absurd c31 (by decide)
    · skip
      refine lv_iload_n hx hb dX5_nextToken_67 rfl (lv_at hl 0 rfl) ?_
      refine lv_bipush (v := 122) hx hb dX5_nextToken_68 (by decide) ?_
      refine lv_icmp_gt (tgt := 100) hx hb dX5_nextToken_70 (by decide) (fun c32 => ?_) (fun c32 => ?_)
      · skip
        refine lv_iload_n hx hb dX5_nextToken_100 rfl (lv_at hl 0 rfl) ?_
        refine lv_bipush (v := 48) hx hb dX5_nextToken_101 (by decide) ?_
        refine lv_icmp_lt (tgt := 167) hx hb dX5_nextToken_103 (by decide) (fun c33 => ?_) (fun c33 => ?_)
        · skip
          have t_w2a := w2a
          have t_w2b := w2b
          have t_n7 := n7
          have t_c8 := nltI c8
          have t_c32 := ltI c32
          have t_c33 := ltI c33
          have : (48 : Int32).toInt = 48 := (by decide)
          have : (97 : Int32).toInt = 97 := (by decide)
          have : (122 : Int32).toInt = 122 := (by decide)
          have t_n0 : (nI P).toInt = (P : Int) := nI_toInt (by omega)
          have t_n1 : (nI T).toInt = (T : Int) := nI_toInt (by omega)
          have t_n2 : (nI k3).toInt = (k3 : Int) := nI_toInt (by omega)
          have t_n0 : (nI P).toInt = (P : Int) := nI_toInt (by omega)
          have t_n1 : (nI T).toInt = (T : Int) := nI_toInt (by omega)
          have t_n2 : (nI k3).toInt = (k3 : Int) := nI_toInt (by omega)
          exfalso; omega
        · skip
          refine lv_iload_n hx hb dX5_nextToken_106 rfl (lv_at hl 0 rfl) ?_
          refine lv_bipush (v := 57) hx hb dX5_nextToken_107 (by decide) ?_
          refine lv_icmp_gt (tgt := 167) hx hb dX5_nextToken_109 (by decide) (fun c34 => ?_) (fun c34 => ?_)
          · skip
            refine lv_iload_n hx hb dX5_nextToken_167 rfl (lv_at hl 0 rfl) ?_
            refine lv_bipush (v := 59) hx hb dX5_nextToken_168 (by decide) ?_
            refine lv_icmp_ne (tgt := 191) hx hb dX5_nextToken_170 (by decide) (fun c35 => ?_) (fun c35 => ?_)
            · skip
              refine lv_aload_n hx hb dX5_nextToken_191 rfl (lv_at hl 1 rfl) ?_
              refine lv_iconst (v := 1) hx hb dX5_nextToken_192 (by decide) ?_
              refine lv_aload_n hx hb dX5_nextToken_193 rfl (lv_at hl 1 rfl) ?_
              refine va_get (D := (dC, dI)) (ci := 5) (v := .int (nI k3)) (C := RX5) (T := TX5) (N := 12) hx hb hg inG5 hown hK.1 hP 0 rfl rfl 6 (by decide) (hg _ wt_116) (fun _ h9 => h9) rfl dX5_nextToken_194 ?_
              have hPc := hP.sub (ws' := [(h0, .inr (5, [.ref tp, .ref td, .int x0, .int x1, .int x2, .int x3, .int (nI k3), .int (nI k3), .int x6, .int x7, .int x8, .int x9]))]) [0] rfl
              have hDc := hD.sub (ws' := [(h0, .inr (5, [.ref tp, .ref td, .int x0, .int x1, .int x2, .int x3, .int (nI k3), .int (nI k3), .int x6, .int x7, .int x8, .int x9]))]) [0] (by decide) rfl
              have hFc := va_free (wc := [(h0, .inr (5, [.ref tp, .ref td, .int x0, .int x1, .int x2, .int x3, .int (nI k3), .int (nI k3), .int x6, .int x7, .int x8, .int x9]))]) hD hS hA [0] rfl
              refine va_calli (va_runV (As := [.int 1, .int (nI k3)]) (rest := []) ⟨hx, hb, hml, hown, hg⟩ (c_X5_refuse l dC dI G _ h0 tp td x0 x1 x2 x3 (nI k3) (nI k3) x6 x7 x8 x9 1 (nI k3) ) (kwV hg mfX5_refuse wt_386 ⟨Nat.le_of_ble_eq_true rfl, Nat.le_of_ble_eq_true rfl⟩) (preVW hK hPc hDc (ci := 5) rfl rfl) rfl rfl hl.1 rfl (lv_room (Nat.le_of_ble_eq_true rfl)) dX5_nextToken_197 ⟨Nat.le_of_ble_eq_true rfl, Nat.le_of_ble_eq_true rfl⟩) hS (fun q _ h => hFc q h) hFc (fun r36 ur36 t H1 locs ht hvm w37 hB hz1 hk1 hS => ?_)
              obtain ⟨u38, u39⟩ := ur36
              obtain ⟨hP1, hD1⟩ := hB
              rw [ht] at hP1
              obtain ⟨hP, hD⟩ := va_join (wr := [(tp, .inr (7, [.int (nI T), .ref ta])), (ta, .inl (G 0, 320, .inl f))]) (w1 := [(h0, .inr (5, [.ref tp, .ref td, .int u38, .int u39, .int x2, .int x3, .int (nI k3), .int (nI k3), .int x6, .int x7, .int x8, .int x9]))]) hP hD [0] [1, 2] rfl rfl (by decide) (by decide) hk1 hFc hP1 hD1
              generalize H1 = H at hP hS ⊢
              have hP : va_P (dC, dI) vwCl [(tp, .inr (7, [.int (nI T), .ref ta])), (ta, .inl (G 0, 320, .inl f)), (h0, .inr (5, [.ref tp, .ref td, .int u38, .int u39, .int x2, .int x3, .int (nI k3), .int (nI k3), .int x6, .int x7, .int x8, .int x9]))] H := hP
              have hD : va_D A [(tp, .inr (7, [.int (nI T), .ref ta])), (ta, .inl (G 0, 320, .inl f)), (h0, .inr (5, [.ref tp, .ref td, .int u38, .int u39, .int x2, .int x3, .int (nI k3), .int (nI k3), .int x6, .int x7, .int x8, .int x9]))] := hD
              obtain ⟨w37, w37x⟩ := w37
              subst w37
              have hpost : (0 : Int32) = 0 ∨ (0 : Int32) = 1 := by
                exact Or.inl rfl
              have hP9 := hP.sub (ws' := [(h0, .inr (5, [.ref tp, .ref td, .int u38, .int u39, .int x2, .int x3, .int (nI k3), .int (nI k3), .int x6, .int x7, .int x8, .int x9])), (tp, .inr (7, [.int (nI T), .ref ta])), (ta, .inl (G 0, 320, .inl f))]) [2, 0, 1] rfl
              have hD9 := hD.sub (ws' := [(h0, .inr (5, [.ref tp, .ref td, .int u38, .int u39, .int x2, .int x3, .int (nI k3), .int (nI k3), .int x6, .int x7, .int x8, .int x9])), (tp, .inr (7, [.int (nI T), .ref ta])), (ta, .inl (G 0, 320, .inl f))]) [2, 0, 1] (by decide) rfl
              refine W.widen (k := 0) (n := 0) (by omega) (by omega) ?_
              exact W.zret (v := 0) hx hb hr (by first | rfl | decide | exact rfl) (fun t ht hW => ⟨⟨0, (u38, u39, x2, x3, k3, k3, x6, x7, x8, x9), rfl, ⟨hpost, (by have t_w2a := w2a; have t_w2b := w2b; have t_n7 := n7; have t_c8 := nltI c8; have t_c32 := ltI c32; have t_c33 := nltI c33; have t_c34 := ltI c34; have t_c35 := neI c35; have : (48 : Int32).toInt = 48 := (by decide); have : (57 : Int32).toInt = 57 := (by decide); have : (59 : Int32).toInt = 59 := (by decide); have : (97 : Int32).toInt = 97 := (by decide); have : (122 : Int32).toInt = 122 := (by decide); have t_n0 : (nI P).toInt = (P : Int) := nI_toInt (by omega); have t_n1 : (nI T).toInt = (T : Int) := nI_toInt (by omega); have t_n2 : (nI k3).toInt = (k3 : Int) := nI_toInt (by omega); omega)⟩, ⟨by rw [ht]; exact hP9, hD9⟩⟩, hS.F ht⟩) hS.2.2 dX5_nextToken_200
            · skip
              have t_w2a := w2a
              have t_w2b := w2b
              have t_n7 := n7
              have t_c8 := nltI c8
              have t_c32 := ltI c32
              have t_c33 := nltI c33
              have t_c34 := ltI c34
              have t_c35 := eqI c35
              have : (48 : Int32).toInt = 48 := (by decide)
              have : (57 : Int32).toInt = 57 := (by decide)
              have : (59 : Int32).toInt = 59 := (by decide)
              have : (97 : Int32).toInt = 97 := (by decide)
              have : (122 : Int32).toInt = 122 := (by decide)
              have t_n0 : (nI P).toInt = (P : Int) := nI_toInt (by omega)
              have t_n1 : (nI T).toInt = (T : Int) := nI_toInt (by omega)
              have t_n2 : (nI k3).toInt = (k3 : Int) := nI_toInt (by omega)
              have t_n0 : (nI P).toInt = (P : Int) := nI_toInt (by omega)
              have t_n1 : (nI T).toInt = (T : Int) := nI_toInt (by omega)
              have t_n2 : (nI k3).toInt = (k3 : Int) := nI_toInt (by omega)
              exfalso; omega
          · skip
            have t_w2a := w2a
            have t_w2b := w2b
            have t_n7 := n7
            have t_c8 := nltI c8
            have t_c32 := ltI c32
            have t_c33 := nltI c33
            have t_c34 := nltI c34
            have : (48 : Int32).toInt = 48 := (by decide)
            have : (57 : Int32).toInt = 57 := (by decide)
            have : (97 : Int32).toInt = 97 := (by decide)
            have : (122 : Int32).toInt = 122 := (by decide)
            have t_n0 : (nI P).toInt = (P : Int) := nI_toInt (by omega)
            have t_n1 : (nI T).toInt = (T : Int) := nI_toInt (by omega)
            have t_n2 : (nI k3).toInt = (k3 : Int) := nI_toInt (by omega)
            have t_n0 : (nI P).toInt = (P : Int) := nI_toInt (by omega)
            have t_n1 : (nI T).toInt = (T : Int) := nI_toInt (by omega)
            have t_n2 : (nI k3).toInt = (k3 : Int) := nI_toInt (by omega)
            exfalso; omega
      · skip
        refine lv_aload_n hx hb dX5_nextToken_73 rfl (lv_at hl 1 rfl) ?_
        refine lv_iconst (v := 1) hx hb dX5_nextToken_74 (by decide) ?_
        refine va_put (D := (dC, dI)) (ci := 5) (v := .int 1) (ty := .int) (C := RX5) (T := TX5) (N := 12) hx hb hg inG5 tyX5 tyX5_ok nmX5 hown hK.1 hP hD hS 0 rfl rfl 5 (by decide) (hg _ wt_115) (fun _ h9 => h9) rfl (by decide +kernel) rfl rfl (Nat.le_of_ble_eq_true rfl) dX5_nextToken_75 (fun H locs hP hD hS => ?_)
        have hP : va_P (dC, dI) vwCl [(h0, .inr (5, [.ref tp, .ref td, .int x0, .int x1, .int x2, .int 1, .int (nI k3), .int (nI k3), .int x6, .int x7, .int x8, .int x9])), (tp, .inr (7, [.int (nI T), .ref ta])), (ta, .inl (G 0, 320, .inl f))] H := hP
        have hD : va_D A [(h0, .inr (5, [.ref tp, .ref td, .int x0, .int x1, .int x2, .int 1, .int (nI k3), .int (nI k3), .int x6, .int x7, .int x8, .int x9])), (tp, .inr (7, [.int (nI T), .ref ta])), (ta, .inl (G 0, 320, .inl f))] := hD
        refine lv_aload_n hx hb dX5_nextToken_78 rfl (lv_at hl 1 rfl) ?_
        refine lv_aload_n hx hb dX5_nextToken_79 rfl (lv_at hl 1 rfl) ?_
        refine va_get (D := (dC, dI)) (ci := 5) (v := .ref tp) (C := RX5) (T := TX5) (N := 12) hx hb hg inG5 hown hK.1 hP 0 rfl rfl 0 (by decide) (hg _ wt_105) (fun _ h9 => h9) rfl dX5_nextToken_80 ?_
        refine lv_aload_n hx hb dX5_nextToken_83 rfl (lv_at hl 1 rfl) ?_
        refine va_get (D := (dC, dI)) (ci := 5) (v := .int (nI k3)) (C := RX5) (T := TX5) (N := 12) hx hb hg inG5 hown hK.1 hP 0 rfl rfl 6 (by decide) (hg _ wt_116) (fun _ h9 => h9) rfl dX5_nextToken_84 ?_
        refine lv_bipush (v := 97) hx hb dX5_nextToken_87 (by decide) ?_
        refine lv_bipush (v := 122) hx hb dX5_nextToken_89 (by decide) ?_
        have hPc := hP.sub (ws' := [(tp, .inr (7, [.int (nI T), .ref ta])), (ta, .inl (G 0, 320, .inl f))]) [1, 2] rfl
        refine va_calli (va_runVN (As := [.int (nI k3), .int 97, .int 122]) (rest := [.ref h0]) ⟨hx, hb, hml, hown, hg⟩ (c_X7_pastAll l dC dI G _ tp ta T k3 97 122 f (by have t_w2a := w2a; have t_w2b := w2b; have t_n7 := n7; have t_c8 := nltI c8; have t_c32 := nltI c32; have : (97 : Int32).toInt = 97 := (by decide); have : (122 : Int32).toInt = 122 := (by decide); have t_n0 : (nI P).toInt = (P : Int) := nI_toInt (by omega); have t_n1 : (nI T).toInt = (T : Int) := nI_toInt (by omega); have t_n2 : (nI k3).toInt = (k3 : Int) := nI_toInt (by omega); have : (97 : Int32).toInt = 97 := (by decide); have : (122 : Int32).toInt = 122 := (by decide); omega) (by have t_w2a := w2a; have t_w2b := w2b; have t_n7 := n7; have t_c8 := nltI c8; have t_c32 := nltI c32; have : (97 : Int32).toInt = 97 := (by decide); have : (122 : Int32).toInt = 122 := (by decide); have t_n0 : (nI P).toInt = (P : Int) := nI_toInt (by omega); have t_n1 : (nI T).toInt = (T : Int) := nI_toInt (by omega); have t_n2 : (nI k3).toInt = (k3 : Int) := nI_toInt (by omega); have : (97 : Int32).toInt = 97 := (by decide); have : (122 : Int32).toInt = 122 := (by decide); omega)) (kwVN hg hK mfX7_pastAll wn_378 ⟨Nat.le_of_ble_eq_true rfl, Nat.le_of_ble_eq_true rfl⟩) (preVR hK hPc (ci := 7) rfl rfl) rfl rfl hl.1 rfl (lv_room (Nat.le_of_ble_eq_true rfl)) dX5_nextToken_91 ⟨Nat.le_of_ble_eq_true rfl, Nat.le_of_ble_eq_true rfl⟩) hS (fun q h1 h2 => absurd h2 (Nat.not_le.mpr h1)) (fun q h => hA q (Nat.le_trans hS.1 h)) (fun r40 ur40 t H1 locs ht hvm w41 hB hz1 hk1 hS => ?_)
        have hP := keepR hP hk1
        obtain ⟨w41, w41x⟩ := w41
        obtain ⟨k42, w41, w41a, w41b⟩ := w41
        subst w41
        refine va_put (D := (dC, dI)) (ci := 5) (v := .int (nI k42)) (ty := .int) (C := RX5) (T := TX5) (N := 12) hx hb hg inG5 tyX5 tyX5_ok nmX5 hown hK.1 hP hD hS 0 rfl rfl 7 (by decide) (hg _ wt_117) (fun _ h9 => h9) rfl (by decide +kernel) rfl rfl (Nat.le_of_ble_eq_true rfl) dX5_nextToken_94 (fun H locs hP hD hS => ?_)
        have hP : va_P (dC, dI) vwCl [(h0, .inr (5, [.ref tp, .ref td, .int x0, .int x1, .int x2, .int 1, .int (nI k3), .int (nI k42), .int x6, .int x7, .int x8, .int x9])), (tp, .inr (7, [.int (nI T), .ref ta])), (ta, .inl (G 0, 320, .inl f))] H := hP
        have hD : va_D A [(h0, .inr (5, [.ref tp, .ref td, .int x0, .int x1, .int x2, .int 1, .int (nI k3), .int (nI k42), .int x6, .int x7, .int x8, .int x9])), (tp, .inr (7, [.int (nI T), .ref ta])), (ta, .inl (G 0, 320, .inl f))] := hD
        refine lv_goto (tgt := 201) hx hb dX5_nextToken_97 (by decide) ?_
        refine lv_iconst (v := 1) hx hb dX5_nextToken_201 (by decide) ?_
        have hpost : (1 : Int32) = 0 ∨ (1 : Int32) = 1 := by
          exact Or.inr rfl
        have hP9 := hP.sub (ws' := [(h0, .inr (5, [.ref tp, .ref td, .int x0, .int x1, .int x2, .int 1, .int (nI k3), .int (nI k42), .int x6, .int x7, .int x8, .int x9])), (tp, .inr (7, [.int (nI T), .ref ta])), (ta, .inl (G 0, 320, .inl f))]) [0, 1, 2] rfl
        have hD9 := hD.sub (ws' := [(h0, .inr (5, [.ref tp, .ref td, .int x0, .int x1, .int x2, .int 1, .int (nI k3), .int (nI k42), .int x6, .int x7, .int x8, .int x9])), (tp, .inr (7, [.int (nI T), .ref ta])), (ta, .inl (G 0, 320, .inl f))]) [0, 1, 2] (by decide) rfl
        refine W.widen (k := 0) (n := 0) (by omega) (by omega) ?_
        exact W.zret (v := 1) hx hb hr (by first | rfl | decide | exact rfl) (fun t ht hW => ⟨⟨1, (x0, x1, x2, 1, k3, k42, x6, x7, x8, x9), rfl, ⟨hpost, (by have t_w2a := w2a; have t_w2b := w2b; have t_n7 := n7; have t_c8 := nltI c8; have t_c32 := nltI c32; have t_w41a := w41a; have t_w41b := w41b; have : (97 : Int32).toInt = 97 := (by decide); have : (122 : Int32).toInt = 122 := (by decide); have t_n0 : (nI P).toInt = (P : Int) := nI_toInt (by omega); have t_n1 : (nI T).toInt = (T : Int) := nI_toInt (by omega); have t_n2 : (nI k3).toInt = (k3 : Int) := nI_toInt (by omega); have t_n3 : (nI k42).toInt = (k42 : Int) := nI_toInt (by omega); omega)⟩, ⟨by rw [ht]; exact hP9, hD9⟩⟩, hS.F ht⟩) hS.2.2 dX5_nextToken_202
  · skip
    have n43 : T ≤ k3 := by have t := nltI c6; rw [nI_toInt (n := k3) (by omega)] at t; rw [nI_toInt (n := T) (by omega)] at t; omega
    refine lv_aload_n hx hb dX5_nextToken_53 rfl (lv_at hl 1 rfl) ?_
    refine lv_iconst (v := 0) hx hb dX5_nextToken_54 (by decide) ?_
    refine va_put (D := (dC, dI)) (ci := 5) (v := .int 0) (ty := .int) (C := RX5) (T := TX5) (N := 12) hx hb hg inG5 tyX5 tyX5_ok nmX5 hown hK.1 hP hD hS 0 rfl rfl 5 (by decide) (hg _ wt_115) (fun _ h9 => h9) rfl (by decide +kernel) rfl rfl (Nat.le_of_ble_eq_true rfl) dX5_nextToken_55 (fun H locs hP hD hS => ?_)
    have hP : va_P (dC, dI) vwCl [(h0, .inr (5, [.ref tp, .ref td, .int x0, .int x1, .int x2, .int 0, .int (nI k3), .int (nI k3), .int x6, .int x7, .int x8, .int x9])), (tp, .inr (7, [.int (nI T), .ref ta])), (ta, .inl (G 0, 320, .inl f))] H := hP
    have hD : va_D A [(h0, .inr (5, [.ref tp, .ref td, .int x0, .int x1, .int x2, .int 0, .int (nI k3), .int (nI k3), .int x6, .int x7, .int x8, .int x9])), (tp, .inr (7, [.int (nI T), .ref ta])), (ta, .inl (G 0, 320, .inl f))] := hD
    refine lv_goto (tgt := 201) hx hb dX5_nextToken_58 (by decide) ?_
    refine lv_iconst (v := 1) hx hb dX5_nextToken_201 (by decide) ?_
    have hpost : (1 : Int32) = 0 ∨ (1 : Int32) = 1 := by
      exact Or.inr rfl
    have hP9 := hP.sub (ws' := [(h0, .inr (5, [.ref tp, .ref td, .int x0, .int x1, .int x2, .int 0, .int (nI k3), .int (nI k3), .int x6, .int x7, .int x8, .int x9])), (tp, .inr (7, [.int (nI T), .ref ta])), (ta, .inl (G 0, 320, .inl f))]) [0, 1, 2] rfl
    have hD9 := hD.sub (ws' := [(h0, .inr (5, [.ref tp, .ref td, .int x0, .int x1, .int x2, .int 0, .int (nI k3), .int (nI k3), .int x6, .int x7, .int x8, .int x9])), (tp, .inr (7, [.int (nI T), .ref ta])), (ta, .inl (G 0, 320, .inl f))]) [0, 1, 2] (by decide) rfl
    refine W.widen (k := 0) (n := 0) (by omega) (by omega) ?_
    exact W.zret (v := 1) hx hb hr (by first | rfl | decide | exact rfl) (fun t ht hW => ⟨⟨1, (x0, x1, x2, 0, k3, k3, x6, x7, x8, x9), rfl, ⟨hpost, (by have t_w2a := w2a; have t_w2b := w2b; have t_n43 := n43; have t_n0 : (nI P).toInt = (P : Int) := nI_toInt (by omega); have t_n1 : (nI T).toInt = (T : Int) := nI_toInt (by omega); have t_n2 : (nI k3).toInt = (k3 : Int) := nI_toInt (by omega); omega)⟩, ⟨by rw [ht]; exact hP9, hD9⟩⟩, hS.F ht⟩) hS.2.2 dX5_nextToken_202

set_option maxHeartbeats 1000000 in
set_option maxRecDepth 100000 in
theorem c_X5_value (l : Launch) (dC : Nat → ClassId) (dI : Nat → Nat → Nat) (G : Nat → ClassId) (sz : Nat) (h0 tp td ta T F P : Nat) (x0 x1 x2 x3 x6 x7 x8 x9 : Int32) (f : Nat → Int32) (hT : T ≤ 320) (hF : F ≤ P) (hP0 : P ≤ T) : Met l yX5_value (Cond.code yX5_value cX5_value 3 (some .int) :: GT) ({ frames := 1, cells := 0, slots := 0, locals := 21 } : Room) (PcR [.ref h0] dC dI G [(h0, .inr (5, [.ref tp, .ref td, .int x0, .int x1, .int x2, .int x3, .int (nI F), .int (nI P), .int x6, .int x7, .int x8, .int x9])), (tp, .inr (7, [.int (nI T), .ref ta])), (ta, .inl (G 0, 320, .inl f))] sz) (va_Qi (fun (r : Int32) (u : Unit) => match u with | _ => (r = valN f T F (P - F)) ∧ True) (fun _ _ => True) (fun q : Nat => sz ≤ q)) 0 0 (fun q : Nat => sz ≤ q) := by
  refine Met.ofW (cc := cX5_value) (maxL := 3) (ret := (some .int)) (by decide) rfl ?_
  intro p e s m args below meth c s₁ Bd hml hv
  obtain ⟨rfl, hsz, hP, hK⟩ := hv
  have hx := Bd.exec
  have hb := Bd.bytes
  have hr := Bd.returns
  have hg : ∀ w ∈ GT, w.before ([.ref h0] : List Value).toArray s = true := fun w h => atoms_spec (ws := Cond.code yX5_value cX5_value 3 (some .int) :: GT) Bd.pre w (List.mem_cons_of_mem _ h)
  have hown : s.vm.findClass RX5 = some m.cls := findClass_of_methodNamed Bd.named
  have hlocks := Bd.notSynchronized
  subst hsz
  have hA : ∀ q : Nat, s.heap.size ≤ q → (fun q : Nat => s.heap.size ≤ q) q := fun _ h => h
  have hS : va_S (fun q : Nat => s.heap.size ≤ q) s.heap s.heap [] := va_S.rf
  have hl := lv_entry ([.ref h0]) (n := 3) (Nat.le_of_ble_eq_true rfl)
  rw [lg_entry_eq]
  generalize (lg_sl ([.ref h0]) ++ List.replicate (3 - (lg_sl ([.ref h0])).length) Slot.unset).toArray = ls at hl ⊢
  have hl : lv_has ls 3 [(0, .ref h0)] := hl
  refine lv_iconst (v := 0) hx hb dX5_value_0 (by decide) ?_
  refine lv_istore_n (lv' := [(1, .int 0), (0, .ref h0)]) hx hb dX5_value_1 rfl hl (by decide) rfl (fun ls hl => ?_)
  refine lv_aload_n hx hb dX5_value_2 rfl (lv_at hl 1 rfl) ?_
  refine va_get (D := (dC, dI)) (ci := 5) (v := .int (nI F)) (C := RX5) (T := TX5) (N := 12) hx hb hg inG5 hown hK.1 hP 0 rfl rfl 6 (by decide) (hg _ wt_116) (fun _ h9 => h9) rfl dX5_value_3 ?_
  refine lv_istore_n (lv' := [(2, .int (nI F)), (1, .int 0), (0, .ref h0)]) hx hb dX5_value_6 rfl hl (by decide) rfl (fun ls hl => ?_)
  have loop7_3 : ∀ (nf j1 : Nat), P + 1 ≤ j1 + nf → j1 ≤ P → F ≤ j1 → ∀ (y2 : Int32) (H : Heap) (locs : List Loc), y2 = valN f T F (j1 - F) → va_P (dC, dI) vwCl [(h0, .inr (5, [.ref tp, .ref td, .int x0, .int x1, .int x2, .int x3, .int (nI F), .int (nI P), .int x6, .int x7, .int x8, .int x9])), (tp, .inr (7, [.int (nI T), .ref ta])), (ta, .inl (G 0, 320, .inl f))] H → va_S (fun q : Nat => s.heap.size ≤ q) s.heap H locs → ∀ (ls : Array Slot), lv_has ls 3 [(2, .int (nI j1)), (1, .int y2), (0, .ref h0)] → W p l e (headSpec (Cond.code yX5_value cX5_value 3 (some .int) :: GT) ({ frames := 1, cells := 0, slots := 0, locals := 21 } : Room)).room s m ([.ref h0] : List Value).toArray below meth c H locs 0 0 (MQ below (va_Qi (fun (r : Int32) (u : Unit) => match u with | _ => (r = valN f T F (P - F)) ∧ True) (fun _ _ => True) (fun q : Nat => s.heap.size ≤ q)) ([.ref h0] : List Value).toArray s 0 0 (fun q : Nat => s.heap.size ≤ q)) (F0 m 7 ls []) := by
    intro nf
    induction nf with
    | zero => intro j1 h1 h2; exact absurd h1 (by omega)
    | succ nf ih7_3 =>
      intro j1 hn4 hj5 hlo_j1 y2 H locs hinv hP hS ls hl
      refine lv_iload_n hx hb dX5_value_7 rfl (lv_at hl 0 rfl) ?_
      refine lv_aload_n hx hb dX5_value_8 rfl (lv_at hl 2 rfl) ?_
      refine va_get (D := (dC, dI)) (ci := 5) (v := .int (nI P)) (C := RX5) (T := TX5) (N := 12) hx hb hg inG5 hown hK.1 hP 0 rfl rfl 7 (by decide) (hg _ wt_117) (fun _ h9 => h9) rfl dX5_value_9 ?_
      refine lv_icmp_ge (tgt := 38) hx hb dX5_value_12 (by decide) (fun c6 => ?_) (fun c6 => ?_)
      · skip
        have n7 : P ≤ j1 := by have t := leI c6; rw [nI_toInt (n := j1) (by omega)] at t; rw [nI_toInt (n := P) (by omega)] at t; omega
        refine lv_iload_n hx hb dX5_value_38 rfl (lv_at hl 1 rfl) ?_
        have hpost : (y2 : Int32) = valN f T F (P - F) := by
          rw [hinv, show j1 = P from (by omega)]
        refine W.widen (k := 0) (n := 0) (by omega) (by omega) ?_
        exact W.iret (v := y2) hx hb hr (fun t ht hW => ⟨⟨y2, (), rfl, ⟨hpost, trivial⟩, trivial⟩, hS.F ht⟩) hS.2.2 dX5_value_39
      · skip
        have n8 : j1 < P := by have t := nleI c6; rw [nI_toInt (n := j1) (by omega)] at t; rw [nI_toInt (n := P) (by omega)] at t; omega
        refine lv_iload_n hx hb dX5_value_15 rfl (lv_at hl 1 rfl) ?_
        refine lv_bipush (v := 10) hx hb dX5_value_16 (by decide) ?_
        refine lv_imul hx hb dX5_value_18 ?_
        refine lv_aload_n hx hb dX5_value_19 rfl (lv_at hl 2 rfl) ?_
        refine va_get (D := (dC, dI)) (ci := 5) (v := .ref tp) (C := RX5) (T := TX5) (N := 12) hx hb hg inG5 hown hK.1 hP 0 rfl rfl 0 (by decide) (hg _ wt_105) (fun _ h9 => h9) rfl dX5_value_20 ?_
        refine lv_iload_n hx hb dX5_value_23 rfl (lv_at hl 0 rfl) ?_
        have hPc := hP.sub (ws' := [(tp, .inr (7, [.int (nI T), .ref ta])), (ta, .inl (G 0, 320, .inl f))]) [1, 2] rfl
        refine va_calli (va_runVN (As := [.int (nI j1)]) (rest := [.int (y2 * 10)]) ⟨hx, hb, hml, hown, hg⟩ (c_X7_byteAt l dC dI G _ tp ta T (nI j1) f (by have t_hj5 := hj5; have t_hlo_j1 := hlo_j1; have t_n8 := n8; have t_n0 : (nI F).toInt = (F : Int) := nI_toInt (by omega); have t_n1 : (nI P).toInt = (P : Int) := nI_toInt (by omega); have t_n2 : (nI T).toInt = (T : Int) := nI_toInt (by omega); have t_n3 : (nI j1).toInt = (j1 : Int) := nI_toInt (by omega); omega)) (kwVN hg hK mfX7_byteAt wn_382 ⟨Nat.le_of_ble_eq_true rfl, Nat.le_of_ble_eq_true rfl⟩) (preVR hK hPc (ci := 7) rfl rfl) rfl rfl hl.1 rfl (lv_room (Nat.le_of_ble_eq_true rfl)) dX5_value_24 ⟨Nat.le_of_ble_eq_true rfl, Nat.le_of_ble_eq_true rfl⟩) hS (fun q h1 h2 => absurd h2 (Nat.not_le.mpr h1)) (fun q h => hA q (Nat.le_trans hS.1 h)) (fun r9 ur9 t H1 locs ht hvm w10 hB hz1 hk1 hS => ?_)
        have hP := keepR hP hk1
        obtain ⟨w10, w10x⟩ := w10
        refine lv_iadd hx hb dX5_value_27 ?_
        refine lv_bipush (v := 48) hx hb dX5_value_28 (by decide) ?_
        refine lv_isub hx hb dX5_value_30 ?_
        refine lv_istore_n (lv' := [(1, .int (((y2 * 10) + r9) - 48)), (2, .int (nI j1)), (0, .ref h0)]) hx hb dX5_value_31 rfl hl (by decide) rfl (fun ls hl => ?_)
        refine lv_iinc (v := nI (j1 + 1)) (lv' := [(2, .int (nI (j1 + 1))), (1, .int (((y2 * 10) + r9) - 48)), (0, .ref h0)]) hx hb dX5_value_32 hl (k := 1) rfl (by rw [show Int32.ofInt 1 = nI 1 from by decide]; exact nI_add _ _) (by decide) rfl (fun ls hl => ?_)
        refine lv_goto (tgt := 7) hx hb dX5_value_35 (by decide) ?_
        exact ih7_3 (j1 + 1) (by omega) (by omega) (by omega) (((y2 * 10) + r9) - 48) _ _ (by have e9 : j1 + 1 - F = (j1 - F) + 1 := (by omega); rw [e9]; show _ = valN f T F (j1 - F) * 10 + byF f T (nI (F + (j1 - F))) - 48; rw [show F + (j1 - F) = j1 from (by omega), ← hinv, w10]; rfl) hP hS ls (lv_sub hl [0, 1, 2] rfl)
  exact loop7_3 (P + 1) F (by omega) (by omega) (by omega) 0 _ _ (by rw [Nat.sub_self]; rfl) hP hS ls (lv_sub hl [0, 1, 2] rfl)

set_option maxHeartbeats 1000000 in
set_option maxRecDepth 100000 in
theorem c_X5_nextNumber (l : Launch) (dC : Nat → ClassId) (dI : Nat → Nat → Nat) (G : Nat → ClassId) (sz : Nat) (h0 tp td ta T P : Nat) (x0 x1 x2 x3 x6 x7 x8 x9 x4 xlo xhi : Int32) (f : Nat → Int32) (hT : T ≤ 320) (hP0 : P ≤ T) : Met l yX5_nextNumber (Cond.code yX5_nextNumber cX5_nextNumber 4 (some .boolean) :: GT) ({ frames := 2, cells := 0, slots := 0, locals := 45 } : Room) (PcW [.ref h0, .int xlo, .int xhi] dC dI G [(h0, .inr (5, [.ref tp, .ref td, .int x0, .int x1, .int x2, .int x3, .int x4, .int (nI P), .int x6, .int x7, .int x8, .int x9])), (tp, .inr (7, [.int (nI T), .ref ta])), (ta, .inl (G 0, 320, .inl f))] sz) (va_Qi (fun (r : Int32) (u : Int32 × Int32 × Int32 × Int32 × Nat × Nat × Int32 × Int32 × Int32 × Int32) => match u with | (u0, u1, u2, u3, u4, u5, u6, u7, u8, u9) => (r = 0 ∨ (r = 1 ∧ xlo.toInt ≤ (valN f T u4 (u5 - u4)).toInt ∧ (valN f T u4 (u5 - u4)).toInt ≤ xhi.toInt)) ∧ u4 ≤ u5 ∧ u5 ≤ T) (fun (u : Int32 × Int32 × Int32 × Int32 × Nat × Nat × Int32 × Int32 × Int32 × Int32) (t : State) => match u with | (u0, u1, u2, u3, u4, u5, u6, u7, u8, u9) => va_P (dC, dI) vwCl [(h0, .inr (5, [.ref tp, .ref td, .int u0, .int u1, .int u2, .int u3, .int (nI u4), .int (nI u5), .int u6, .int u7, .int u8, .int u9])), (tp, .inr (7, [.int (nI T), .ref ta])), (ta, .inl (G 0, 320, .inl f))] t.heap ∧ va_D (va_A [(h0, .inr (5, [.ref tp, .ref td, .int x0, .int x1, .int x2, .int x3, .int x4, .int (nI P), .int x6, .int x7, .int x8, .int x9])), (tp, .inr (7, [.int (nI T), .ref ta])), (ta, .inl (G 0, 320, .inl f))] sz) [(h0, .inr (5, [.ref tp, .ref td, .int u0, .int u1, .int u2, .int u3, .int (nI u4), .int (nI u5), .int u6, .int u7, .int u8, .int u9])), (tp, .inr (7, [.int (nI T), .ref ta])), (ta, .inl (G 0, 320, .inl f))]) (va_A [(h0, .inr (5, [.ref tp, .ref td, .int x0, .int x1, .int x2, .int x3, .int x4, .int (nI P), .int x6, .int x7, .int x8, .int x9])), (tp, .inr (7, [.int (nI T), .ref ta])), (ta, .inl (G 0, 320, .inl f))] sz)) 0 0 (va_A [(h0, .inr (5, [.ref tp, .ref td, .int x0, .int x1, .int x2, .int x3, .int x4, .int (nI P), .int x6, .int x7, .int x8, .int x9])), (tp, .inr (7, [.int (nI T), .ref ta])), (ta, .inl (G 0, 320, .inl f))] sz) := by
  refine Met.ofW (cc := cX5_nextNumber) (maxL := 4) (ret := (some .boolean)) (by decide) rfl ?_
  intro p e s m args below meth c s₁ Bd hml hv
  obtain ⟨rfl, hsz, hP, hK, hD0⟩ := hv
  have hx := Bd.exec
  have hb := Bd.bytes
  have hr := Bd.returns
  have hg : ∀ w ∈ GT, w.before ([.ref h0, .int xlo, .int xhi] : List Value).toArray s = true := fun w h => atoms_spec (ws := Cond.code yX5_nextNumber cX5_nextNumber 4 (some .boolean) :: GT) Bd.pre w (List.mem_cons_of_mem _ h)
  have hown : s.vm.findClass RX5 = some m.cls := findClass_of_methodNamed Bd.named
  have hlocks := Bd.notSynchronized
  subst hsz
  have hD := hD0.self (sz := s.heap.size)
  generalize hAe : va_A [(h0, .inr (5, [.ref tp, .ref td, .int x0, .int x1, .int x2, .int x3, .int x4, .int (nI P), .int x6, .int x7, .int x8, .int x9])), (tp, .inr (7, [.int (nI T), .ref ta])), (ta, .inl (G 0, 320, .inl f))] s.heap.size = A at hD ⊢
  have hA : ∀ q : Nat, s.heap.size ≤ q → A q := fun q h => by rw [← hAe]; exact Or.inr h
  have hS : va_S A s.heap s.heap [] := va_S.rf
  have hl := lv_entry ([.ref h0, .int xlo, .int xhi]) (n := 4) (Nat.le_of_ble_eq_true rfl)
  rw [lg_entry_eq]
  generalize (lg_sl ([.ref h0, .int xlo, .int xhi]) ++ List.replicate (4 - (lg_sl ([.ref h0, .int xlo, .int xhi])).length) Slot.unset).toArray = ls at hl ⊢
  have hl : lv_has ls 4 [(0, .ref h0), (1, .int xlo), (2, .int xhi)] := hl
  refine lv_aload_n hx hb dX5_nextNumber_0 rfl (lv_at hl 0 rfl) ?_
  have hPc := hP.sub (ws' := [(h0, .inr (5, [.ref tp, .ref td, .int x0, .int x1, .int x2, .int x3, .int x4, .int (nI P), .int x6, .int x7, .int x8, .int x9])), (tp, .inr (7, [.int (nI T), .ref ta])), (ta, .inl (G 0, 320, .inl f))]) [0, 1, 2] rfl
  have hDc := hD.sub (ws' := [(h0, .inr (5, [.ref tp, .ref td, .int x0, .int x1, .int x2, .int x3, .int x4, .int (nI P), .int x6, .int x7, .int x8, .int x9])), (tp, .inr (7, [.int (nI T), .ref ta])), (ta, .inl (G 0, 320, .inl f))]) [0, 1, 2] (by decide) rfl
  have hFc := va_free (wc := [(h0, .inr (5, [.ref tp, .ref td, .int x0, .int x1, .int x2, .int x3, .int x4, .int (nI P), .int x6, .int x7, .int x8, .int x9])), (tp, .inr (7, [.int (nI T), .ref ta])), (ta, .inl (G 0, 320, .inl f))]) hD hS hA [0, 1, 2] rfl
  refine va_calli (va_runV (As := []) (rest := []) ⟨hx, hb, hml, hown, hg⟩ (c_X5_nextToken l dC dI G _ h0 tp td ta T P x0 x1 x2 x3 x6 x7 x8 x9 x4 f (by have t_n0 : (nI P).toInt = (P : Int) := nI_toInt (by omega); have t_n1 : (nI T).toInt = (T : Int) := nI_toInt (by omega); omega) (by have t_n0 : (nI P).toInt = (P : Int) := nI_toInt (by omega); have t_n1 : (nI T).toInt = (T : Int) := nI_toInt (by omega); omega)) (kwV hg mfX5_nextToken wt_374 ⟨Nat.le_of_ble_eq_true rfl, Nat.le_of_ble_eq_true rfl⟩) (preVW hK hPc hDc (ci := 5) rfl rfl) rfl rfl hl.1 rfl (lv_room (Nat.le_of_ble_eq_true rfl)) dX5_nextNumber_1 ⟨Nat.le_of_ble_eq_true rfl, Nat.le_of_ble_eq_true rfl⟩) hS (fun q _ h => hFc q h) hFc (fun r1 ur1 t H1 locs ht hvm w2 hB hz1 hk1 hS => ?_)
  obtain ⟨u3, u4, u5, u6, u7, u8, u9, u10, u11, u12⟩ := ur1
  obtain ⟨hP1, hD1⟩ := hB
  rw [ht] at hP1
  obtain ⟨hP, hD⟩ := va_join (wr := []) (w1 := [(h0, .inr (5, [.ref tp, .ref td, .int u3, .int u4, .int u5, .int u6, .int (nI u7), .int (nI u8), .int u9, .int u10, .int u11, .int u12])), (tp, .inr (7, [.int (nI T), .ref ta])), (ta, .inl (G 0, 320, .inl f))]) hP hD [0, 1, 2] [] rfl rfl (by decide) (by decide) hk1 hFc hP1 hD1
  generalize H1 = H at hP hS ⊢
  have hP : va_P (dC, dI) vwCl [(h0, .inr (5, [.ref tp, .ref td, .int u3, .int u4, .int u5, .int u6, .int (nI u7), .int (nI u8), .int u9, .int u10, .int u11, .int u12])), (tp, .inr (7, [.int (nI T), .ref ta])), (ta, .inl (G 0, 320, .inl f))] H := hP
  have hD : va_D A [(h0, .inr (5, [.ref tp, .ref td, .int u3, .int u4, .int u5, .int u6, .int (nI u7), .int (nI u8), .int u9, .int u10, .int u11, .int u12])), (tp, .inr (7, [.int (nI T), .ref ta])), (ta, .inl (G 0, 320, .inl f))] := hD
  obtain ⟨w2, w2x⟩ := w2
  refine lv_if_ne (tgt := 9) hx hb dX5_nextNumber_4 (by decide) (fun c13 => ?_) (fun c13 => ?_)
  · skip
    refine lv_aload_n hx hb dX5_nextNumber_9 rfl (lv_at hl 0 rfl) ?_
    refine va_get (D := (dC, dI)) (ci := 5) (v := .int u6) (C := RX5) (T := TX5) (N := 12) hx hb hg inG5 hown hK.1 hP 0 rfl rfl 5 (by decide) (hg _ wt_115) (fun _ h9 => h9) rfl dX5_nextNumber_10 ?_
    refine lv_iconst (v := 2) hx hb dX5_nextNumber_13 (by decide) ?_
    refine lv_icmp_eq (tgt := 27) hx hb dX5_nextNumber_14 (by decide) (fun c14 => ?_) (fun c14 => ?_)
    · skip
      refine lv_aload_n hx hb dX5_nextNumber_27 rfl (lv_at hl 0 rfl) ?_
      have hPc := hP.sub (ws' := [(h0, .inr (5, [.ref tp, .ref td, .int u3, .int u4, .int u5, .int u6, .int (nI u7), .int (nI u8), .int u9, .int u10, .int u11, .int u12])), (tp, .inr (7, [.int (nI T), .ref ta])), (ta, .inl (G 0, 320, .inl f))]) [0, 1, 2] rfl
      refine va_calli (va_runV (As := []) (rest := []) ⟨hx, hb, hml, hown, hg⟩ (c_X5_value l dC dI G _ h0 tp td ta T u7 u8 u3 u4 u5 u6 u9 u10 u11 u12 f (by have t_c13 := neI c13; have t_c14 := eqI c14; have : (0 : Int32).toInt = 0 := (by decide); have : (2 : Int32).toInt = 2 := (by decide); have t_n0 : (nI P).toInt = (P : Int) := nI_toInt (by omega); have t_n1 : (nI T).toInt = (T : Int) := nI_toInt (by omega); omega) (by have t_c13 := neI c13; have t_c14 := eqI c14; have : (0 : Int32).toInt = 0 := (by decide); have : (2 : Int32).toInt = 2 := (by decide); have t_n0 : (nI P).toInt = (P : Int) := nI_toInt (by omega); have t_n1 : (nI T).toInt = (T : Int) := nI_toInt (by omega); omega) (by have t_c13 := neI c13; have t_c14 := eqI c14; have : (0 : Int32).toInt = 0 := (by decide); have : (2 : Int32).toInt = 2 := (by decide); have t_n0 : (nI P).toInt = (P : Int) := nI_toInt (by omega); have t_n1 : (nI T).toInt = (T : Int) := nI_toInt (by omega); omega)) (kwV hg mfX5_value wt_459 ⟨Nat.le_of_ble_eq_true rfl, Nat.le_of_ble_eq_true rfl⟩) (preVR hK hPc (ci := 5) rfl rfl) rfl rfl hl.1 rfl (lv_room (Nat.le_of_ble_eq_true rfl)) dX5_nextNumber_28 ⟨Nat.le_of_ble_eq_true rfl, Nat.le_of_ble_eq_true rfl⟩) hS (fun q h1 h2 => absurd h2 (Nat.not_le.mpr h1)) (fun q h => hA q (Nat.le_trans hS.1 h)) (fun r15 ur15 t H1 locs ht hvm w16 hB hz1 hk1 hS => ?_)
      have hP := keepR hP hk1
      obtain ⟨w16, w16x⟩ := w16
      subst w16
      refine lv_istore_n (lv' := [(3, .int (valN f T u7 (u8 - u7))), (0, .ref h0), (1, .int xlo), (2, .int xhi)]) hx hb dX5_nextNumber_31 rfl hl (by decide) rfl (fun ls hl => ?_)
      refine lv_iload_n hx hb dX5_nextNumber_32 rfl (lv_at hl 0 rfl) ?_
      refine lv_iload_n hx hb dX5_nextNumber_33 rfl (lv_at hl 2 rfl) ?_
      refine lv_icmp_lt (tgt := 42) hx hb dX5_nextNumber_34 (by decide) (fun c17 => ?_) (fun c17 => ?_)
      · skip
        refine lv_aload_n hx hb dX5_nextNumber_42 rfl (lv_at hl 1 rfl) ?_
        refine lv_iconst (v := 3) hx hb dX5_nextNumber_43 (by decide) ?_
        refine lv_aload_n hx hb dX5_nextNumber_44 rfl (lv_at hl 1 rfl) ?_
        refine va_get (D := (dC, dI)) (ci := 5) (v := .int (nI u7)) (C := RX5) (T := TX5) (N := 12) hx hb hg inG5 hown hK.1 hP 0 rfl rfl 6 (by decide) (hg _ wt_116) (fun _ h9 => h9) rfl dX5_nextNumber_45 ?_
        have hPc := hP.sub (ws' := [(h0, .inr (5, [.ref tp, .ref td, .int u3, .int u4, .int u5, .int u6, .int (nI u7), .int (nI u8), .int u9, .int u10, .int u11, .int u12]))]) [0] rfl
        have hDc := hD.sub (ws' := [(h0, .inr (5, [.ref tp, .ref td, .int u3, .int u4, .int u5, .int u6, .int (nI u7), .int (nI u8), .int u9, .int u10, .int u11, .int u12]))]) [0] (by decide) rfl
        have hFc := va_free (wc := [(h0, .inr (5, [.ref tp, .ref td, .int u3, .int u4, .int u5, .int u6, .int (nI u7), .int (nI u8), .int u9, .int u10, .int u11, .int u12]))]) hD hS hA [0] rfl
        refine va_calli (va_runV (As := [.int 3, .int (nI u7)]) (rest := []) ⟨hx, hb, hml, hown, hg⟩ (c_X5_refuse l dC dI G _ h0 tp td u3 u4 u5 u6 (nI u7) (nI u8) u9 u10 u11 u12 3 (nI u7) ) (kwV hg mfX5_refuse wt_386 ⟨Nat.le_of_ble_eq_true rfl, Nat.le_of_ble_eq_true rfl⟩) (preVW hK hPc hDc (ci := 5) rfl rfl) rfl rfl hl.1 rfl (lv_room (Nat.le_of_ble_eq_true rfl)) dX5_nextNumber_48 ⟨Nat.le_of_ble_eq_true rfl, Nat.le_of_ble_eq_true rfl⟩) hS (fun q _ h => hFc q h) hFc (fun r18 ur18 t H1 locs ht hvm w19 hB hz1 hk1 hS => ?_)
        obtain ⟨u20, u21⟩ := ur18
        obtain ⟨hP1, hD1⟩ := hB
        rw [ht] at hP1
        obtain ⟨hP, hD⟩ := va_join (wr := [(tp, .inr (7, [.int (nI T), .ref ta])), (ta, .inl (G 0, 320, .inl f))]) (w1 := [(h0, .inr (5, [.ref tp, .ref td, .int u20, .int u21, .int u5, .int u6, .int (nI u7), .int (nI u8), .int u9, .int u10, .int u11, .int u12]))]) hP hD [0] [1, 2] rfl rfl (by decide) (by decide) hk1 hFc hP1 hD1
        generalize H1 = H at hP hS ⊢
        have hP : va_P (dC, dI) vwCl [(tp, .inr (7, [.int (nI T), .ref ta])), (ta, .inl (G 0, 320, .inl f)), (h0, .inr (5, [.ref tp, .ref td, .int u20, .int u21, .int u5, .int u6, .int (nI u7), .int (nI u8), .int u9, .int u10, .int u11, .int u12]))] H := hP
        have hD : va_D A [(tp, .inr (7, [.int (nI T), .ref ta])), (ta, .inl (G 0, 320, .inl f)), (h0, .inr (5, [.ref tp, .ref td, .int u20, .int u21, .int u5, .int u6, .int (nI u7), .int (nI u8), .int u9, .int u10, .int u11, .int u12]))] := hD
        obtain ⟨w19, w19x⟩ := w19
        subst w19
        refine lv_if_eq (tgt := 58) hx hb dX5_nextNumber_51 (by decide) (fun c22 => ?_) (fun c22 => ?_)
        · skip
          refine lv_iconst (v := 0) hx hb dX5_nextNumber_58 (by decide) ?_
          have hpost : (0 : Int32) = 0 ∨ ((0 : Int32) = 1 ∧ xlo.toInt ≤ (valN f T u7 (u8 - u7)).toInt ∧ (valN f T u7 (u8 - u7)).toInt ≤ xhi.toInt) := by
            exact Or.inl rfl
          have hP9 := hP.sub (ws' := [(h0, .inr (5, [.ref tp, .ref td, .int u20, .int u21, .int u5, .int u6, .int (nI u7), .int (nI u8), .int u9, .int u10, .int u11, .int u12])), (tp, .inr (7, [.int (nI T), .ref ta])), (ta, .inl (G 0, 320, .inl f))]) [2, 0, 1] rfl
          have hD9 := hD.sub (ws' := [(h0, .inr (5, [.ref tp, .ref td, .int u20, .int u21, .int u5, .int u6, .int (nI u7), .int (nI u8), .int u9, .int u10, .int u11, .int u12])), (tp, .inr (7, [.int (nI T), .ref ta])), (ta, .inl (G 0, 320, .inl f))]) [2, 0, 1] (by decide) rfl
          refine W.widen (k := 0) (n := 0) (by omega) (by omega) ?_
          exact W.zret (v := 0) hx hb hr (by first | rfl | decide | exact rfl) (fun t ht hW => ⟨⟨0, (u20, u21, u5, u6, u7, u8, u9, u10, u11, u12), rfl, ⟨hpost, (by have t_c13 := neI c13; have t_c14 := eqI c14; have t_c17 := ltI c17; have t_c22 := eqI c22; have : (0 : Int32).toInt = 0 := (by decide); have : (2 : Int32).toInt = 2 := (by decide); have t_n0 : (nI P).toInt = (P : Int) := nI_toInt (by omega); have t_n1 : (nI T).toInt = (T : Int) := nI_toInt (by omega); omega)⟩, ⟨by rw [ht]; exact hP9, hD9⟩⟩, hS.F ht⟩) hS.2.2 dX5_nextNumber_59
        · skip
          exact absurd c22 (by decide)
      · skip
        refine lv_iload_n hx hb dX5_nextNumber_37 rfl (lv_at hl 0 rfl) ?_
        refine lv_iload_n hx hb dX5_nextNumber_38 rfl (lv_at hl 3 rfl) ?_
        refine lv_icmp_le (tgt := 54) hx hb dX5_nextNumber_39 (by decide) (fun c23 => ?_) (fun c23 => ?_)
        · skip
          refine lv_iconst (v := 1) hx hb dX5_nextNumber_54 (by decide) ?_
          refine lv_goto (tgt := 59) hx hb dX5_nextNumber_55 (by decide) ?_
          have hpost : (1 : Int32) = 0 ∨ ((1 : Int32) = 1 ∧ xlo.toInt ≤ (valN f T u7 (u8 - u7)).toInt ∧ (valN f T u7 (u8 - u7)).toInt ≤ xhi.toInt) := by
            have t_c13 := neI c13
            have t_c14 := eqI c14
            have t_c17 := nltI c17
            have t_c23 := leI c23
            have : (0 : Int32).toInt = 0 := (by decide)
            have : (2 : Int32).toInt = 2 := (by decide)
            have t_n0 : (nI P).toInt = (P : Int) := nI_toInt (by omega)
            have t_n1 : (nI T).toInt = (T : Int) := nI_toInt (by omega)
            exact Or.inr ⟨rfl, by omega, by omega⟩
          have hP9 := hP.sub (ws' := [(h0, .inr (5, [.ref tp, .ref td, .int u3, .int u4, .int u5, .int u6, .int (nI u7), .int (nI u8), .int u9, .int u10, .int u11, .int u12])), (tp, .inr (7, [.int (nI T), .ref ta])), (ta, .inl (G 0, 320, .inl f))]) [0, 1, 2] rfl
          have hD9 := hD.sub (ws' := [(h0, .inr (5, [.ref tp, .ref td, .int u3, .int u4, .int u5, .int u6, .int (nI u7), .int (nI u8), .int u9, .int u10, .int u11, .int u12])), (tp, .inr (7, [.int (nI T), .ref ta])), (ta, .inl (G 0, 320, .inl f))]) [0, 1, 2] (by decide) rfl
          refine W.widen (k := 0) (n := 0) (by omega) (by omega) ?_
          exact W.zret (v := 1) hx hb hr (by first | rfl | decide | exact rfl) (fun t ht hW => ⟨⟨1, (u3, u4, u5, u6, u7, u8, u9, u10, u11, u12), rfl, ⟨hpost, (by have t_c13 := neI c13; have t_c14 := eqI c14; have t_c17 := nltI c17; have t_c23 := leI c23; have : (0 : Int32).toInt = 0 := (by decide); have : (2 : Int32).toInt = 2 := (by decide); have t_n0 : (nI P).toInt = (P : Int) := nI_toInt (by omega); have t_n1 : (nI T).toInt = (T : Int) := nI_toInt (by omega); omega)⟩, ⟨by rw [ht]; exact hP9, hD9⟩⟩, hS.F ht⟩) hS.2.2 dX5_nextNumber_59
        · skip
          refine lv_aload_n hx hb dX5_nextNumber_42 rfl (lv_at hl 1 rfl) ?_
          refine lv_iconst (v := 3) hx hb dX5_nextNumber_43 (by decide) ?_
          refine lv_aload_n hx hb dX5_nextNumber_44 rfl (lv_at hl 1 rfl) ?_
          refine va_get (D := (dC, dI)) (ci := 5) (v := .int (nI u7)) (C := RX5) (T := TX5) (N := 12) hx hb hg inG5 hown hK.1 hP 0 rfl rfl 6 (by decide) (hg _ wt_116) (fun _ h9 => h9) rfl dX5_nextNumber_45 ?_
          have hPc := hP.sub (ws' := [(h0, .inr (5, [.ref tp, .ref td, .int u3, .int u4, .int u5, .int u6, .int (nI u7), .int (nI u8), .int u9, .int u10, .int u11, .int u12]))]) [0] rfl
          have hDc := hD.sub (ws' := [(h0, .inr (5, [.ref tp, .ref td, .int u3, .int u4, .int u5, .int u6, .int (nI u7), .int (nI u8), .int u9, .int u10, .int u11, .int u12]))]) [0] (by decide) rfl
          have hFc := va_free (wc := [(h0, .inr (5, [.ref tp, .ref td, .int u3, .int u4, .int u5, .int u6, .int (nI u7), .int (nI u8), .int u9, .int u10, .int u11, .int u12]))]) hD hS hA [0] rfl
          refine va_calli (va_runV (As := [.int 3, .int (nI u7)]) (rest := []) ⟨hx, hb, hml, hown, hg⟩ (c_X5_refuse l dC dI G _ h0 tp td u3 u4 u5 u6 (nI u7) (nI u8) u9 u10 u11 u12 3 (nI u7) ) (kwV hg mfX5_refuse wt_386 ⟨Nat.le_of_ble_eq_true rfl, Nat.le_of_ble_eq_true rfl⟩) (preVW hK hPc hDc (ci := 5) rfl rfl) rfl rfl hl.1 rfl (lv_room (Nat.le_of_ble_eq_true rfl)) dX5_nextNumber_48 ⟨Nat.le_of_ble_eq_true rfl, Nat.le_of_ble_eq_true rfl⟩) hS (fun q _ h => hFc q h) hFc (fun r24 ur24 t H1 locs ht hvm w25 hB hz1 hk1 hS => ?_)
          obtain ⟨u26, u27⟩ := ur24
          obtain ⟨hP1, hD1⟩ := hB
          rw [ht] at hP1
          obtain ⟨hP, hD⟩ := va_join (wr := [(tp, .inr (7, [.int (nI T), .ref ta])), (ta, .inl (G 0, 320, .inl f))]) (w1 := [(h0, .inr (5, [.ref tp, .ref td, .int u26, .int u27, .int u5, .int u6, .int (nI u7), .int (nI u8), .int u9, .int u10, .int u11, .int u12]))]) hP hD [0] [1, 2] rfl rfl (by decide) (by decide) hk1 hFc hP1 hD1
          generalize H1 = H at hP hS ⊢
          have hP : va_P (dC, dI) vwCl [(tp, .inr (7, [.int (nI T), .ref ta])), (ta, .inl (G 0, 320, .inl f)), (h0, .inr (5, [.ref tp, .ref td, .int u26, .int u27, .int u5, .int u6, .int (nI u7), .int (nI u8), .int u9, .int u10, .int u11, .int u12]))] H := hP
          have hD : va_D A [(tp, .inr (7, [.int (nI T), .ref ta])), (ta, .inl (G 0, 320, .inl f)), (h0, .inr (5, [.ref tp, .ref td, .int u26, .int u27, .int u5, .int u6, .int (nI u7), .int (nI u8), .int u9, .int u10, .int u11, .int u12]))] := hD
          obtain ⟨w25, w25x⟩ := w25
          subst w25
          refine lv_if_eq (tgt := 58) hx hb dX5_nextNumber_51 (by decide) (fun c28 => ?_) (fun c28 => ?_)
          · skip
            refine lv_iconst (v := 0) hx hb dX5_nextNumber_58 (by decide) ?_
            have hpost : (0 : Int32) = 0 ∨ ((0 : Int32) = 1 ∧ xlo.toInt ≤ (valN f T u7 (u8 - u7)).toInt ∧ (valN f T u7 (u8 - u7)).toInt ≤ xhi.toInt) := by
              exact Or.inl rfl
            have hP9 := hP.sub (ws' := [(h0, .inr (5, [.ref tp, .ref td, .int u26, .int u27, .int u5, .int u6, .int (nI u7), .int (nI u8), .int u9, .int u10, .int u11, .int u12])), (tp, .inr (7, [.int (nI T), .ref ta])), (ta, .inl (G 0, 320, .inl f))]) [2, 0, 1] rfl
            have hD9 := hD.sub (ws' := [(h0, .inr (5, [.ref tp, .ref td, .int u26, .int u27, .int u5, .int u6, .int (nI u7), .int (nI u8), .int u9, .int u10, .int u11, .int u12])), (tp, .inr (7, [.int (nI T), .ref ta])), (ta, .inl (G 0, 320, .inl f))]) [2, 0, 1] (by decide) rfl
            refine W.widen (k := 0) (n := 0) (by omega) (by omega) ?_
            exact W.zret (v := 0) hx hb hr (by first | rfl | decide | exact rfl) (fun t ht hW => ⟨⟨0, (u26, u27, u5, u6, u7, u8, u9, u10, u11, u12), rfl, ⟨hpost, (by have t_c13 := neI c13; have t_c14 := eqI c14; have t_c17 := nltI c17; have t_c23 := nleI c23; have t_c28 := eqI c28; have : (0 : Int32).toInt = 0 := (by decide); have : (2 : Int32).toInt = 2 := (by decide); have t_n0 : (nI P).toInt = (P : Int) := nI_toInt (by omega); have t_n1 : (nI T).toInt = (T : Int) := nI_toInt (by omega); omega)⟩, ⟨by rw [ht]; exact hP9, hD9⟩⟩, hS.F ht⟩) hS.2.2 dX5_nextNumber_59
          · skip
            exact absurd c28 (by decide)
    · skip
      refine lv_aload_n hx hb dX5_nextNumber_17 rfl (lv_at hl 0 rfl) ?_
      refine lv_iconst (v := 2) hx hb dX5_nextNumber_18 (by decide) ?_
      refine lv_aload_n hx hb dX5_nextNumber_19 rfl (lv_at hl 0 rfl) ?_
      refine va_get (D := (dC, dI)) (ci := 5) (v := .int (nI u7)) (C := RX5) (T := TX5) (N := 12) hx hb hg inG5 hown hK.1 hP 0 rfl rfl 6 (by decide) (hg _ wt_116) (fun _ h9 => h9) rfl dX5_nextNumber_20 ?_
      have hPc := hP.sub (ws' := [(h0, .inr (5, [.ref tp, .ref td, .int u3, .int u4, .int u5, .int u6, .int (nI u7), .int (nI u8), .int u9, .int u10, .int u11, .int u12]))]) [0] rfl
      have hDc := hD.sub (ws' := [(h0, .inr (5, [.ref tp, .ref td, .int u3, .int u4, .int u5, .int u6, .int (nI u7), .int (nI u8), .int u9, .int u10, .int u11, .int u12]))]) [0] (by decide) rfl
      have hFc := va_free (wc := [(h0, .inr (5, [.ref tp, .ref td, .int u3, .int u4, .int u5, .int u6, .int (nI u7), .int (nI u8), .int u9, .int u10, .int u11, .int u12]))]) hD hS hA [0] rfl
      refine va_calli (va_runV (As := [.int 2, .int (nI u7)]) (rest := []) ⟨hx, hb, hml, hown, hg⟩ (c_X5_refuse l dC dI G _ h0 tp td u3 u4 u5 u6 (nI u7) (nI u8) u9 u10 u11 u12 2 (nI u7) ) (kwV hg mfX5_refuse wt_386 ⟨Nat.le_of_ble_eq_true rfl, Nat.le_of_ble_eq_true rfl⟩) (preVW hK hPc hDc (ci := 5) rfl rfl) rfl rfl hl.1 rfl (lv_room (Nat.le_of_ble_eq_true rfl)) dX5_nextNumber_23 ⟨Nat.le_of_ble_eq_true rfl, Nat.le_of_ble_eq_true rfl⟩) hS (fun q _ h => hFc q h) hFc (fun r29 ur29 t H1 locs ht hvm w30 hB hz1 hk1 hS => ?_)
      obtain ⟨u31, u32⟩ := ur29
      obtain ⟨hP1, hD1⟩ := hB
      rw [ht] at hP1
      obtain ⟨hP, hD⟩ := va_join (wr := [(tp, .inr (7, [.int (nI T), .ref ta])), (ta, .inl (G 0, 320, .inl f))]) (w1 := [(h0, .inr (5, [.ref tp, .ref td, .int u31, .int u32, .int u5, .int u6, .int (nI u7), .int (nI u8), .int u9, .int u10, .int u11, .int u12]))]) hP hD [0] [1, 2] rfl rfl (by decide) (by decide) hk1 hFc hP1 hD1
      generalize H1 = H at hP hS ⊢
      have hP : va_P (dC, dI) vwCl [(tp, .inr (7, [.int (nI T), .ref ta])), (ta, .inl (G 0, 320, .inl f)), (h0, .inr (5, [.ref tp, .ref td, .int u31, .int u32, .int u5, .int u6, .int (nI u7), .int (nI u8), .int u9, .int u10, .int u11, .int u12]))] H := hP
      have hD : va_D A [(tp, .inr (7, [.int (nI T), .ref ta])), (ta, .inl (G 0, 320, .inl f)), (h0, .inr (5, [.ref tp, .ref td, .int u31, .int u32, .int u5, .int u6, .int (nI u7), .int (nI u8), .int u9, .int u10, .int u11, .int u12]))] := hD
      obtain ⟨w30, w30x⟩ := w30
      subst w30
      have hpost : (0 : Int32) = 0 ∨ ((0 : Int32) = 1 ∧ xlo.toInt ≤ (valN f T u7 (u8 - u7)).toInt ∧ (valN f T u7 (u8 - u7)).toInt ≤ xhi.toInt) := by
        exact Or.inl rfl
      have hP9 := hP.sub (ws' := [(h0, .inr (5, [.ref tp, .ref td, .int u31, .int u32, .int u5, .int u6, .int (nI u7), .int (nI u8), .int u9, .int u10, .int u11, .int u12])), (tp, .inr (7, [.int (nI T), .ref ta])), (ta, .inl (G 0, 320, .inl f))]) [2, 0, 1] rfl
      have hD9 := hD.sub (ws' := [(h0, .inr (5, [.ref tp, .ref td, .int u31, .int u32, .int u5, .int u6, .int (nI u7), .int (nI u8), .int u9, .int u10, .int u11, .int u12])), (tp, .inr (7, [.int (nI T), .ref ta])), (ta, .inl (G 0, 320, .inl f))]) [2, 0, 1] (by decide) rfl
      refine W.widen (k := 0) (n := 0) (by omega) (by omega) ?_
      exact W.zret (v := 0) hx hb hr (by first | rfl | decide | exact rfl) (fun t ht hW => ⟨⟨0, (u31, u32, u5, u6, u7, u8, u9, u10, u11, u12), rfl, ⟨hpost, (by have t_c13 := neI c13; have t_c14 := neI c14; have : (0 : Int32).toInt = 0 := (by decide); have : (2 : Int32).toInt = 2 := (by decide); have t_n0 : (nI P).toInt = (P : Int) := nI_toInt (by omega); have t_n1 : (nI T).toInt = (T : Int) := nI_toInt (by omega); omega)⟩, ⟨by rw [ht]; exact hP9, hD9⟩⟩, hS.F ht⟩) hS.2.2 dX5_nextNumber_26
  · skip
    refine lv_iconst (v := 0) hx hb dX5_nextNumber_7 (by decide) ?_
    have hpost : (0 : Int32) = 0 ∨ ((0 : Int32) = 1 ∧ xlo.toInt ≤ (valN f T u7 (u8 - u7)).toInt ∧ (valN f T u7 (u8 - u7)).toInt ≤ xhi.toInt) := by
      exact Or.inl rfl
    have hP9 := hP.sub (ws' := [(h0, .inr (5, [.ref tp, .ref td, .int u3, .int u4, .int u5, .int u6, .int (nI u7), .int (nI u8), .int u9, .int u10, .int u11, .int u12])), (tp, .inr (7, [.int (nI T), .ref ta])), (ta, .inl (G 0, 320, .inl f))]) [0, 1, 2] rfl
    have hD9 := hD.sub (ws' := [(h0, .inr (5, [.ref tp, .ref td, .int u3, .int u4, .int u5, .int u6, .int (nI u7), .int (nI u8), .int u9, .int u10, .int u11, .int u12])), (tp, .inr (7, [.int (nI T), .ref ta])), (ta, .inl (G 0, 320, .inl f))]) [0, 1, 2] (by decide) rfl
    refine W.widen (k := 0) (n := 0) (by omega) (by omega) ?_
    exact W.zret (v := 0) hx hb hr (by first | rfl | decide | exact rfl) (fun t ht hW => ⟨⟨0, (u3, u4, u5, u6, u7, u8, u9, u10, u11, u12), rfl, ⟨hpost, (by have t_c13 := eqI c13; have : (0 : Int32).toInt = 0 := (by decide); have t_n0 : (nI P).toInt = (P : Int) := nI_toInt (by omega); have t_n1 : (nI T).toInt = (T : Int) := nI_toInt (by omega); omega)⟩, ⟨by rw [ht]; exact hP9, hD9⟩⟩, hS.F ht⟩) hS.2.2 dX5_nextNumber_8

set_option maxHeartbeats 1000000 in
set_option maxRecDepth 100000 in
theorem c_X5_nextStop (l : Launch) (dC : Nat → ClassId) (dI : Nat → Nat → Nat) (G : Nat → ClassId) (sz : Nat) (h0 tp td ta T P : Nat) (x0 x1 x2 x3 x6 x7 x8 x9 x4 : Int32) (f : Nat → Int32) (hT : T ≤ 320) (hP0 : P ≤ T) : Met l yX5_nextStop (Cond.code yX5_nextStop cX5_nextStop 1 (some .boolean) :: GT) ({ frames := 2, cells := 0, slots := 0, locals := 45 } : Room) (PcW [.ref h0] dC dI G [(h0, .inr (5, [.ref tp, .ref td, .int x0, .int x1, .int x2, .int x3, .int x4, .int (nI P), .int x6, .int x7, .int x8, .int x9])), (tp, .inr (7, [.int (nI T), .ref ta])), (ta, .inl (G 0, 320, .inl f))] sz) (va_Qi (fun (r : Int32) (u : Int32 × Int32 × Int32 × Int32 × Nat × Nat × Int32 × Int32 × Int32 × Int32) => match u with | (u0, u1, u2, u3, u4, u5, u6, u7, u8, u9) => (r = 0 ∨ r = 1) ∧ u4 ≤ u5 ∧ u5 ≤ T) (fun (u : Int32 × Int32 × Int32 × Int32 × Nat × Nat × Int32 × Int32 × Int32 × Int32) (t : State) => match u with | (u0, u1, u2, u3, u4, u5, u6, u7, u8, u9) => va_P (dC, dI) vwCl [(h0, .inr (5, [.ref tp, .ref td, .int u0, .int u1, .int u2, .int u3, .int (nI u4), .int (nI u5), .int u6, .int u7, .int u8, .int u9])), (tp, .inr (7, [.int (nI T), .ref ta])), (ta, .inl (G 0, 320, .inl f))] t.heap ∧ va_D (va_A [(h0, .inr (5, [.ref tp, .ref td, .int x0, .int x1, .int x2, .int x3, .int x4, .int (nI P), .int x6, .int x7, .int x8, .int x9])), (tp, .inr (7, [.int (nI T), .ref ta])), (ta, .inl (G 0, 320, .inl f))] sz) [(h0, .inr (5, [.ref tp, .ref td, .int u0, .int u1, .int u2, .int u3, .int (nI u4), .int (nI u5), .int u6, .int u7, .int u8, .int u9])), (tp, .inr (7, [.int (nI T), .ref ta])), (ta, .inl (G 0, 320, .inl f))]) (va_A [(h0, .inr (5, [.ref tp, .ref td, .int x0, .int x1, .int x2, .int x3, .int x4, .int (nI P), .int x6, .int x7, .int x8, .int x9])), (tp, .inr (7, [.int (nI T), .ref ta])), (ta, .inl (G 0, 320, .inl f))] sz)) 0 0 (va_A [(h0, .inr (5, [.ref tp, .ref td, .int x0, .int x1, .int x2, .int x3, .int x4, .int (nI P), .int x6, .int x7, .int x8, .int x9])), (tp, .inr (7, [.int (nI T), .ref ta])), (ta, .inl (G 0, 320, .inl f))] sz) := by
  refine Met.ofW (cc := cX5_nextStop) (maxL := 1) (ret := (some .boolean)) (by decide) rfl ?_
  intro p e s m args below meth c s₁ Bd hml hv
  obtain ⟨rfl, hsz, hP, hK, hD0⟩ := hv
  have hx := Bd.exec
  have hb := Bd.bytes
  have hr := Bd.returns
  have hg : ∀ w ∈ GT, w.before ([.ref h0] : List Value).toArray s = true := fun w h => atoms_spec (ws := Cond.code yX5_nextStop cX5_nextStop 1 (some .boolean) :: GT) Bd.pre w (List.mem_cons_of_mem _ h)
  have hown : s.vm.findClass RX5 = some m.cls := findClass_of_methodNamed Bd.named
  have hlocks := Bd.notSynchronized
  subst hsz
  have hD := hD0.self (sz := s.heap.size)
  generalize hAe : va_A [(h0, .inr (5, [.ref tp, .ref td, .int x0, .int x1, .int x2, .int x3, .int x4, .int (nI P), .int x6, .int x7, .int x8, .int x9])), (tp, .inr (7, [.int (nI T), .ref ta])), (ta, .inl (G 0, 320, .inl f))] s.heap.size = A at hD ⊢
  have hA : ∀ q : Nat, s.heap.size ≤ q → A q := fun q h => by rw [← hAe]; exact Or.inr h
  have hS : va_S A s.heap s.heap [] := va_S.rf
  have hl := lv_entry ([.ref h0]) (n := 1) (Nat.le_of_ble_eq_true rfl)
  rw [lg_entry_eq]
  generalize (lg_sl ([.ref h0]) ++ List.replicate (1 - (lg_sl ([.ref h0])).length) Slot.unset).toArray = ls at hl ⊢
  have hl : lv_has ls 1 [(0, .ref h0)] := hl
  refine lv_aload_n hx hb dX5_nextStop_0 rfl (lv_at hl 0 rfl) ?_
  have hPc := hP.sub (ws' := [(h0, .inr (5, [.ref tp, .ref td, .int x0, .int x1, .int x2, .int x3, .int x4, .int (nI P), .int x6, .int x7, .int x8, .int x9])), (tp, .inr (7, [.int (nI T), .ref ta])), (ta, .inl (G 0, 320, .inl f))]) [0, 1, 2] rfl
  have hDc := hD.sub (ws' := [(h0, .inr (5, [.ref tp, .ref td, .int x0, .int x1, .int x2, .int x3, .int x4, .int (nI P), .int x6, .int x7, .int x8, .int x9])), (tp, .inr (7, [.int (nI T), .ref ta])), (ta, .inl (G 0, 320, .inl f))]) [0, 1, 2] (by decide) rfl
  have hFc := va_free (wc := [(h0, .inr (5, [.ref tp, .ref td, .int x0, .int x1, .int x2, .int x3, .int x4, .int (nI P), .int x6, .int x7, .int x8, .int x9])), (tp, .inr (7, [.int (nI T), .ref ta])), (ta, .inl (G 0, 320, .inl f))]) hD hS hA [0, 1, 2] rfl
  refine va_calli (va_runV (As := []) (rest := []) ⟨hx, hb, hml, hown, hg⟩ (c_X5_nextToken l dC dI G _ h0 tp td ta T P x0 x1 x2 x3 x6 x7 x8 x9 x4 f (by have t_n0 : (nI P).toInt = (P : Int) := nI_toInt (by omega); have t_n1 : (nI T).toInt = (T : Int) := nI_toInt (by omega); omega) (by have t_n0 : (nI P).toInt = (P : Int) := nI_toInt (by omega); have t_n1 : (nI T).toInt = (T : Int) := nI_toInt (by omega); omega)) (kwV hg mfX5_nextToken wt_374 ⟨Nat.le_of_ble_eq_true rfl, Nat.le_of_ble_eq_true rfl⟩) (preVW hK hPc hDc (ci := 5) rfl rfl) rfl rfl hl.1 rfl (lv_room (Nat.le_of_ble_eq_true rfl)) dX5_nextStop_1 ⟨Nat.le_of_ble_eq_true rfl, Nat.le_of_ble_eq_true rfl⟩) hS (fun q _ h => hFc q h) hFc (fun r1 ur1 t H1 locs ht hvm w2 hB hz1 hk1 hS => ?_)
  obtain ⟨u3, u4, u5, u6, u7, u8, u9, u10, u11, u12⟩ := ur1
  obtain ⟨hP1, hD1⟩ := hB
  rw [ht] at hP1
  obtain ⟨hP, hD⟩ := va_join (wr := []) (w1 := [(h0, .inr (5, [.ref tp, .ref td, .int u3, .int u4, .int u5, .int u6, .int (nI u7), .int (nI u8), .int u9, .int u10, .int u11, .int u12])), (tp, .inr (7, [.int (nI T), .ref ta])), (ta, .inl (G 0, 320, .inl f))]) hP hD [0, 1, 2] [] rfl rfl (by decide) (by decide) hk1 hFc hP1 hD1
  generalize H1 = H at hP hS ⊢
  have hP : va_P (dC, dI) vwCl [(h0, .inr (5, [.ref tp, .ref td, .int u3, .int u4, .int u5, .int u6, .int (nI u7), .int (nI u8), .int u9, .int u10, .int u11, .int u12])), (tp, .inr (7, [.int (nI T), .ref ta])), (ta, .inl (G 0, 320, .inl f))] H := hP
  have hD : va_D A [(h0, .inr (5, [.ref tp, .ref td, .int u3, .int u4, .int u5, .int u6, .int (nI u7), .int (nI u8), .int u9, .int u10, .int u11, .int u12])), (tp, .inr (7, [.int (nI T), .ref ta])), (ta, .inl (G 0, 320, .inl f))] := hD
  obtain ⟨w2, w2x⟩ := w2
  refine lv_if_eq (tgt := 31) hx hb dX5_nextStop_4 (by decide) (fun c13 => ?_) (fun c13 => ?_)
  · skip
    refine lv_iconst (v := 0) hx hb dX5_nextStop_31 (by decide) ?_
    have hpost : (0 : Int32) = 0 ∨ (0 : Int32) = 1 := by
      exact Or.inl rfl
    have hP9 := hP.sub (ws' := [(h0, .inr (5, [.ref tp, .ref td, .int u3, .int u4, .int u5, .int u6, .int (nI u7), .int (nI u8), .int u9, .int u10, .int u11, .int u12])), (tp, .inr (7, [.int (nI T), .ref ta])), (ta, .inl (G 0, 320, .inl f))]) [0, 1, 2] rfl
    have hD9 := hD.sub (ws' := [(h0, .inr (5, [.ref tp, .ref td, .int u3, .int u4, .int u5, .int u6, .int (nI u7), .int (nI u8), .int u9, .int u10, .int u11, .int u12])), (tp, .inr (7, [.int (nI T), .ref ta])), (ta, .inl (G 0, 320, .inl f))]) [0, 1, 2] (by decide) rfl
    refine W.widen (k := 0) (n := 0) (by omega) (by omega) ?_
    exact W.zret (v := 0) hx hb hr (by first | rfl | decide | exact rfl) (fun t ht hW => ⟨⟨0, (u3, u4, u5, u6, u7, u8, u9, u10, u11, u12), rfl, ⟨hpost, (by have t_c13 := eqI c13; have : (0 : Int32).toInt = 0 := (by decide); have t_n0 : (nI P).toInt = (P : Int) := nI_toInt (by omega); have t_n1 : (nI T).toInt = (T : Int) := nI_toInt (by omega); omega)⟩, ⟨by rw [ht]; exact hP9, hD9⟩⟩, hS.F ht⟩) hS.2.2 dX5_nextStop_32
  · skip
    refine lv_aload_n hx hb dX5_nextStop_7 rfl (lv_at hl 0 rfl) ?_
    refine va_get (D := (dC, dI)) (ci := 5) (v := .int u6) (C := RX5) (T := TX5) (N := 12) hx hb hg inG5 hown hK.1 hP 0 rfl rfl 5 (by decide) (hg _ wt_115) (fun _ h9 => h9) rfl dX5_nextStop_8 ?_
    refine lv_iconst (v := 3) hx hb dX5_nextStop_11 (by decide) ?_
    refine lv_icmp_eq (tgt := 27) hx hb dX5_nextStop_12 (by decide) (fun c14 => ?_) (fun c14 => ?_)
    · skip
      refine lv_iconst (v := 1) hx hb dX5_nextStop_27 (by decide) ?_
      refine lv_goto (tgt := 32) hx hb dX5_nextStop_28 (by decide) ?_
      have hpost : (1 : Int32) = 0 ∨ (1 : Int32) = 1 := by
        exact Or.inr rfl
      have hP9 := hP.sub (ws' := [(h0, .inr (5, [.ref tp, .ref td, .int u3, .int u4, .int u5, .int u6, .int (nI u7), .int (nI u8), .int u9, .int u10, .int u11, .int u12])), (tp, .inr (7, [.int (nI T), .ref ta])), (ta, .inl (G 0, 320, .inl f))]) [0, 1, 2] rfl
      have hD9 := hD.sub (ws' := [(h0, .inr (5, [.ref tp, .ref td, .int u3, .int u4, .int u5, .int u6, .int (nI u7), .int (nI u8), .int u9, .int u10, .int u11, .int u12])), (tp, .inr (7, [.int (nI T), .ref ta])), (ta, .inl (G 0, 320, .inl f))]) [0, 1, 2] (by decide) rfl
      refine W.widen (k := 0) (n := 0) (by omega) (by omega) ?_
      exact W.zret (v := 1) hx hb hr (by first | rfl | decide | exact rfl) (fun t ht hW => ⟨⟨1, (u3, u4, u5, u6, u7, u8, u9, u10, u11, u12), rfl, ⟨hpost, (by have t_c13 := neI c13; have t_c14 := eqI c14; have : (0 : Int32).toInt = 0 := (by decide); have : (3 : Int32).toInt = 3 := (by decide); have t_n0 : (nI P).toInt = (P : Int) := nI_toInt (by omega); have t_n1 : (nI T).toInt = (T : Int) := nI_toInt (by omega); omega)⟩, ⟨by rw [ht]; exact hP9, hD9⟩⟩, hS.F ht⟩) hS.2.2 dX5_nextStop_32
    · skip
      refine lv_aload_n hx hb dX5_nextStop_15 rfl (lv_at hl 0 rfl) ?_
      refine lv_iconst (v := 2) hx hb dX5_nextStop_16 (by decide) ?_
      refine lv_aload_n hx hb dX5_nextStop_17 rfl (lv_at hl 0 rfl) ?_
      refine va_get (D := (dC, dI)) (ci := 5) (v := .int (nI u7)) (C := RX5) (T := TX5) (N := 12) hx hb hg inG5 hown hK.1 hP 0 rfl rfl 6 (by decide) (hg _ wt_116) (fun _ h9 => h9) rfl dX5_nextStop_18 ?_
      have hPc := hP.sub (ws' := [(h0, .inr (5, [.ref tp, .ref td, .int u3, .int u4, .int u5, .int u6, .int (nI u7), .int (nI u8), .int u9, .int u10, .int u11, .int u12]))]) [0] rfl
      have hDc := hD.sub (ws' := [(h0, .inr (5, [.ref tp, .ref td, .int u3, .int u4, .int u5, .int u6, .int (nI u7), .int (nI u8), .int u9, .int u10, .int u11, .int u12]))]) [0] (by decide) rfl
      have hFc := va_free (wc := [(h0, .inr (5, [.ref tp, .ref td, .int u3, .int u4, .int u5, .int u6, .int (nI u7), .int (nI u8), .int u9, .int u10, .int u11, .int u12]))]) hD hS hA [0] rfl
      refine va_calli (va_runV (As := [.int 2, .int (nI u7)]) (rest := []) ⟨hx, hb, hml, hown, hg⟩ (c_X5_refuse l dC dI G _ h0 tp td u3 u4 u5 u6 (nI u7) (nI u8) u9 u10 u11 u12 2 (nI u7) ) (kwV hg mfX5_refuse wt_386 ⟨Nat.le_of_ble_eq_true rfl, Nat.le_of_ble_eq_true rfl⟩) (preVW hK hPc hDc (ci := 5) rfl rfl) rfl rfl hl.1 rfl (lv_room (Nat.le_of_ble_eq_true rfl)) dX5_nextStop_21 ⟨Nat.le_of_ble_eq_true rfl, Nat.le_of_ble_eq_true rfl⟩) hS (fun q _ h => hFc q h) hFc (fun r15 ur15 t H1 locs ht hvm w16 hB hz1 hk1 hS => ?_)
      obtain ⟨u17, u18⟩ := ur15
      obtain ⟨hP1, hD1⟩ := hB
      rw [ht] at hP1
      obtain ⟨hP, hD⟩ := va_join (wr := [(tp, .inr (7, [.int (nI T), .ref ta])), (ta, .inl (G 0, 320, .inl f))]) (w1 := [(h0, .inr (5, [.ref tp, .ref td, .int u17, .int u18, .int u5, .int u6, .int (nI u7), .int (nI u8), .int u9, .int u10, .int u11, .int u12]))]) hP hD [0] [1, 2] rfl rfl (by decide) (by decide) hk1 hFc hP1 hD1
      generalize H1 = H at hP hS ⊢
      have hP : va_P (dC, dI) vwCl [(tp, .inr (7, [.int (nI T), .ref ta])), (ta, .inl (G 0, 320, .inl f)), (h0, .inr (5, [.ref tp, .ref td, .int u17, .int u18, .int u5, .int u6, .int (nI u7), .int (nI u8), .int u9, .int u10, .int u11, .int u12]))] H := hP
      have hD : va_D A [(tp, .inr (7, [.int (nI T), .ref ta])), (ta, .inl (G 0, 320, .inl f)), (h0, .inr (5, [.ref tp, .ref td, .int u17, .int u18, .int u5, .int u6, .int (nI u7), .int (nI u8), .int u9, .int u10, .int u11, .int u12]))] := hD
      obtain ⟨w16, w16x⟩ := w16
      subst w16
      refine lv_if_eq (tgt := 31) hx hb dX5_nextStop_24 (by decide) (fun c19 => ?_) (fun c19 => ?_)
      · skip
        refine lv_iconst (v := 0) hx hb dX5_nextStop_31 (by decide) ?_
        have hpost : (0 : Int32) = 0 ∨ (0 : Int32) = 1 := by
          exact Or.inl rfl
        have hP9 := hP.sub (ws' := [(h0, .inr (5, [.ref tp, .ref td, .int u17, .int u18, .int u5, .int u6, .int (nI u7), .int (nI u8), .int u9, .int u10, .int u11, .int u12])), (tp, .inr (7, [.int (nI T), .ref ta])), (ta, .inl (G 0, 320, .inl f))]) [2, 0, 1] rfl
        have hD9 := hD.sub (ws' := [(h0, .inr (5, [.ref tp, .ref td, .int u17, .int u18, .int u5, .int u6, .int (nI u7), .int (nI u8), .int u9, .int u10, .int u11, .int u12])), (tp, .inr (7, [.int (nI T), .ref ta])), (ta, .inl (G 0, 320, .inl f))]) [2, 0, 1] (by decide) rfl
        refine W.widen (k := 0) (n := 0) (by omega) (by omega) ?_
        exact W.zret (v := 0) hx hb hr (by first | rfl | decide | exact rfl) (fun t ht hW => ⟨⟨0, (u17, u18, u5, u6, u7, u8, u9, u10, u11, u12), rfl, ⟨hpost, (by have t_c13 := neI c13; have t_c14 := neI c14; have t_c19 := eqI c19; have : (0 : Int32).toInt = 0 := (by decide); have : (3 : Int32).toInt = 3 := (by decide); have t_n0 : (nI P).toInt = (P : Int) := nI_toInt (by omega); have t_n1 : (nI T).toInt = (T : Int) := nI_toInt (by omega); omega)⟩, ⟨by rw [ht]; exact hP9, hD9⟩⟩, hS.F ht⟩) hS.2.2 dX5_nextStop_32
      · skip
        exact absurd c19 (by decide)

set_option maxHeartbeats 1000000 in
set_option maxRecDepth 100000 in
theorem c_X5_lookBehindAll (l : Launch) (dC : Nat → ClassId) (dI : Nat → Nat → Nat) (G : Nat → ClassId) (sz : Nat) (h0 tp td ta T F P a1 a2 a3 a4 a5 a6 N B D : Nat) (x0 x1 x2 x3 x6 x7 x8 x9 : Int32) (hT : T ≤ 320) (hN_N : N ≤ 10) (hB_B : B ≤ 6) (hD_D : 1 ≤ D ∧ D ≤ 9) : Met l yX5_lookBehindAll (Cond.code yX5_lookBehindAll cX5_lookBehindAll 1 none :: GT) ({ frames := 1, cells := 0, slots := 0, locals := 22 } : Room) (PcW [.ref h0] dC dI G [(h0, .inr (5, [.ref tp, .ref td, .int x0, .int x1, .int x2, .int x3, .int (nI F), .int (nI P), .int x6, .int x7, .int x8, .int x9])), (tp, .inr (7, [.int (nI T), .ref ta])), (td, .inr (9, [.int (nI N), .int (nI B), .int (nI D), .ref a1, .ref a2, .ref a3, .ref a4, .ref a5, .ref a6]))] sz) (va_Qv (fun (u : Int32 × Int32) => match u with | (u0, u1) => True) (fun (u : Int32 × Int32) (t : State) => match u with | (u0, u1) => va_P (dC, dI) vwCl [(h0, .inr (5, [.ref tp, .ref td, .int u0, .int u1, .int x2, .int x3, .int (nI F), .int (nI P), .int x6, .int x7, .int x8, .int x9])), (tp, .inr (7, [.int (nI T), .ref ta])), (td, .inr (9, [.int (nI N), .int (nI B), .int (nI D), .ref a1, .ref a2, .ref a3, .ref a4, .ref a5, .ref a6]))] t.heap ∧ va_D (va_A [(h0, .inr (5, [.ref tp, .ref td, .int x0, .int x1, .int x2, .int x3, .int (nI F), .int (nI P), .int x6, .int x7, .int x8, .int x9])), (tp, .inr (7, [.int (nI T), .ref ta])), (td, .inr (9, [.int (nI N), .int (nI B), .int (nI D), .ref a1, .ref a2, .ref a3, .ref a4, .ref a5, .ref a6]))] sz) [(h0, .inr (5, [.ref tp, .ref td, .int u0, .int u1, .int x2, .int x3, .int (nI F), .int (nI P), .int x6, .int x7, .int x8, .int x9])), (tp, .inr (7, [.int (nI T), .ref ta])), (td, .inr (9, [.int (nI N), .int (nI B), .int (nI D), .ref a1, .ref a2, .ref a3, .ref a4, .ref a5, .ref a6]))]) (va_A [(h0, .inr (5, [.ref tp, .ref td, .int x0, .int x1, .int x2, .int x3, .int (nI F), .int (nI P), .int x6, .int x7, .int x8, .int x9])), (tp, .inr (7, [.int (nI T), .ref ta])), (td, .inr (9, [.int (nI N), .int (nI B), .int (nI D), .ref a1, .ref a2, .ref a3, .ref a4, .ref a5, .ref a6]))] sz)) 0 0 (va_A [(h0, .inr (5, [.ref tp, .ref td, .int x0, .int x1, .int x2, .int x3, .int (nI F), .int (nI P), .int x6, .int x7, .int x8, .int x9])), (tp, .inr (7, [.int (nI T), .ref ta])), (td, .inr (9, [.int (nI N), .int (nI B), .int (nI D), .ref a1, .ref a2, .ref a3, .ref a4, .ref a5, .ref a6]))] sz) := by
  refine Met.ofW (cc := cX5_lookBehindAll) (maxL := 1) (ret := none) (by decide) rfl ?_
  intro p e s m args below meth c s₁ Bd hml hv
  obtain ⟨rfl, hsz, hP, hK, hD0⟩ := hv
  have hx := Bd.exec
  have hb := Bd.bytes
  have hr := Bd.returns
  have hg : ∀ w ∈ GT, w.before ([.ref h0] : List Value).toArray s = true := fun w h => atoms_spec (ws := Cond.code yX5_lookBehindAll cX5_lookBehindAll 1 none :: GT) Bd.pre w (List.mem_cons_of_mem _ h)
  have hown : s.vm.findClass RX5 = some m.cls := findClass_of_methodNamed Bd.named
  have hlocks := Bd.notSynchronized
  subst hsz
  have hD := hD0.self (sz := s.heap.size)
  generalize hAe : va_A [(h0, .inr (5, [.ref tp, .ref td, .int x0, .int x1, .int x2, .int x3, .int (nI F), .int (nI P), .int x6, .int x7, .int x8, .int x9])), (tp, .inr (7, [.int (nI T), .ref ta])), (td, .inr (9, [.int (nI N), .int (nI B), .int (nI D), .ref a1, .ref a2, .ref a3, .ref a4, .ref a5, .ref a6]))] s.heap.size = A at hD ⊢
  have hA : ∀ q : Nat, s.heap.size ≤ q → A q := fun q h => by rw [← hAe]; exact Or.inr h
  have hS : va_S A s.heap s.heap [] := va_S.rf
  have hl := lv_entry ([.ref h0]) (n := 1) (Nat.le_of_ble_eq_true rfl)
  rw [lg_entry_eq]
  generalize (lg_sl ([.ref h0]) ++ List.replicate (1 - (lg_sl ([.ref h0])).length) Slot.unset).toArray = ls at hl ⊢
  have hl : lv_has ls 1 [(0, .ref h0)] := hl
  refine lv_aload_n hx hb dX5_lookBehindAll_0 rfl (lv_at hl 0 rfl) ?_
  refine va_get (D := (dC, dI)) (ci := 5) (v := .int x8) (C := RX5) (T := TX5) (N := 12) hx hb hg inG5 hown hK.1 hP 0 rfl rfl 10 (by decide) (hg _ wt_120) (fun _ h9 => h9) rfl dX5_lookBehindAll_1 ?_
  refine lv_aload_n hx hb dX5_lookBehindAll_4 rfl (lv_at hl 0 rfl) ?_
  refine va_get (D := (dC, dI)) (ci := 5) (v := .ref td) (C := RX5) (T := TX5) (N := 12) hx hb hg inG5 hown hK.1 hP 0 rfl rfl 1 (by decide) (hg _ wt_107) (fun _ h9 => h9) rfl dX5_lookBehindAll_5 ?_
  refine va_getN (D := (dC, dI)) (ci := 9) (v := .int (nI N)) (C := RX9) (T := TX9) (N := 9) hx hb hg inG9 hown hK.1 hP 2 rfl rfl 0 (by decide) (hK.nest wn_61) (fun _ h9 => h9) rfl dX5_lookBehindAll_8 ?_
  refine lv_icmp_ge (tgt := 28) hx hb dX5_lookBehindAll_11 (by decide) (fun c1 => ?_) (fun c1 => ?_)
  · skip
    refine lv_aload_n hx hb dX5_lookBehindAll_28 rfl (lv_at hl 0 rfl) ?_
    refine lv_bipush (v := 6) hx hb dX5_lookBehindAll_29 (by decide) ?_
    refine lv_aload_n hx hb dX5_lookBehindAll_31 rfl (lv_at hl 0 rfl) ?_
    refine va_get (D := (dC, dI)) (ci := 5) (v := .ref tp) (C := RX5) (T := TX5) (N := 12) hx hb hg inG5 hown hK.1 hP 0 rfl rfl 0 (by decide) (hg _ wt_105) (fun _ h9 => h9) rfl dX5_lookBehindAll_32 ?_
    refine va_getN (D := (dC, dI)) (ci := 7) (v := .int (nI T)) (C := RX7) (T := TX7) (N := 2) hx hb hg inG7 hown hK.1 hP 1 rfl rfl 0 (by decide) (hK.nest wn_41) (fun _ h9 => h9) rfl dX5_lookBehindAll_35 ?_
    have hPc := hP.sub (ws' := [(h0, .inr (5, [.ref tp, .ref td, .int x0, .int x1, .int x2, .int x3, .int (nI F), .int (nI P), .int x6, .int x7, .int x8, .int x9]))]) [0] rfl
    have hDc := hD.sub (ws' := [(h0, .inr (5, [.ref tp, .ref td, .int x0, .int x1, .int x2, .int x3, .int (nI F), .int (nI P), .int x6, .int x7, .int x8, .int x9]))]) [0] (by decide) rfl
    have hFc := va_free (wc := [(h0, .inr (5, [.ref tp, .ref td, .int x0, .int x1, .int x2, .int x3, .int (nI F), .int (nI P), .int x6, .int x7, .int x8, .int x9]))]) hD hS hA [0] rfl
    refine va_calli (va_runV (As := [.int 6, .int (nI T)]) (rest := []) ⟨hx, hb, hml, hown, hg⟩ (c_X5_refuse l dC dI G _ h0 tp td x0 x1 x2 x3 (nI F) (nI P) x6 x7 x8 x9 6 (nI T) ) (kwV hg mfX5_refuse wt_386 ⟨Nat.le_of_ble_eq_true rfl, Nat.le_of_ble_eq_true rfl⟩) (preVW hK hPc hDc (ci := 5) rfl rfl) rfl rfl hl.1 rfl (lv_room (Nat.le_of_ble_eq_true rfl)) dX5_lookBehindAll_38 ⟨Nat.le_of_ble_eq_true rfl, Nat.le_of_ble_eq_true rfl⟩) hS (fun q _ h => hFc q h) hFc (fun r2 ur2 t H1 locs ht hvm w3 hB hz1 hk1 hS => ?_)
    obtain ⟨u4, u5⟩ := ur2
    obtain ⟨hP1, hD1⟩ := hB
    rw [ht] at hP1
    obtain ⟨hP, hD⟩ := va_join (wr := [(tp, .inr (7, [.int (nI T), .ref ta])), (td, .inr (9, [.int (nI N), .int (nI B), .int (nI D), .ref a1, .ref a2, .ref a3, .ref a4, .ref a5, .ref a6]))]) (w1 := [(h0, .inr (5, [.ref tp, .ref td, .int u4, .int u5, .int x2, .int x3, .int (nI F), .int (nI P), .int x6, .int x7, .int x8, .int x9]))]) hP hD [0] [1, 2] rfl rfl (by decide) (by decide) hk1 hFc hP1 hD1
    generalize H1 = H at hP hS ⊢
    have hP : va_P (dC, dI) vwCl [(tp, .inr (7, [.int (nI T), .ref ta])), (td, .inr (9, [.int (nI N), .int (nI B), .int (nI D), .ref a1, .ref a2, .ref a3, .ref a4, .ref a5, .ref a6])), (h0, .inr (5, [.ref tp, .ref td, .int u4, .int u5, .int x2, .int x3, .int (nI F), .int (nI P), .int x6, .int x7, .int x8, .int x9]))] H := hP
    have hD : va_D A [(tp, .inr (7, [.int (nI T), .ref ta])), (td, .inr (9, [.int (nI N), .int (nI B), .int (nI D), .ref a1, .ref a2, .ref a3, .ref a4, .ref a5, .ref a6])), (h0, .inr (5, [.ref tp, .ref td, .int u4, .int u5, .int x2, .int x3, .int (nI F), .int (nI P), .int x6, .int x7, .int x8, .int x9]))] := hD
    obtain ⟨w3, w3x⟩ := w3
    subst w3
    refine lv_pop hx hb dX5_lookBehindAll_41 rfl ?_
    refine lv_goto (tgt := 79) hx hb dX5_lookBehindAll_42 (by decide) ?_
    have hP9 := hP.sub (ws' := [(h0, .inr (5, [.ref tp, .ref td, .int u4, .int u5, .int x2, .int x3, .int (nI F), .int (nI P), .int x6, .int x7, .int x8, .int x9])), (tp, .inr (7, [.int (nI T), .ref ta])), (td, .inr (9, [.int (nI N), .int (nI B), .int (nI D), .ref a1, .ref a2, .ref a3, .ref a4, .ref a5, .ref a6]))]) [2, 0, 1] rfl
    have hD9 := hD.sub (ws' := [(h0, .inr (5, [.ref tp, .ref td, .int u4, .int u5, .int x2, .int x3, .int (nI F), .int (nI P), .int x6, .int x7, .int x8, .int x9])), (tp, .inr (7, [.int (nI T), .ref ta])), (td, .inr (9, [.int (nI N), .int (nI B), .int (nI D), .ref a1, .ref a2, .ref a3, .ref a4, .ref a5, .ref a6]))]) [2, 0, 1] (by decide) rfl
    refine W.widen (k := 0) (n := 0) (by omega) (by omega) ?_
    exact W.vret hx hb hr (fun t ht hW => ⟨⟨(u4, u5), rfl, trivial, ⟨by rw [ht]; exact hP9, hD9⟩⟩, hS.F ht⟩) hS.2.2 dX5_lookBehindAll_79
  · skip
    refine lv_aload_n hx hb dX5_lookBehindAll_14 rfl (lv_at hl 0 rfl) ?_
    refine va_get (D := (dC, dI)) (ci := 5) (v := .int x9) (C := RX5) (T := TX5) (N := 12) hx hb hg inG5 hown hK.1 hP 0 rfl rfl 11 (by decide) (hg _ wt_121) (fun _ h9 => h9) rfl dX5_lookBehindAll_15 ?_
    refine lv_aload_n hx hb dX5_lookBehindAll_18 rfl (lv_at hl 0 rfl) ?_
    refine va_get (D := (dC, dI)) (ci := 5) (v := .ref td) (C := RX5) (T := TX5) (N := 12) hx hb hg inG5 hown hK.1 hP 0 rfl rfl 1 (by decide) (hg _ wt_107) (fun _ h9 => h9) rfl dX5_lookBehindAll_19 ?_
    refine va_getN (D := (dC, dI)) (ci := 9) (v := .int (nI B)) (C := RX9) (T := TX9) (N := 9) hx hb hg inG9 hown hK.1 hP 2 rfl rfl 1 (by decide) (hK.nest wn_65) (fun _ h9 => h9) rfl dX5_lookBehindAll_22 ?_
    refine lv_icmp_lt (tgt := 45) hx hb dX5_lookBehindAll_25 (by decide) (fun c6 => ?_) (fun c6 => ?_)
    · skip
      refine lv_aload_n hx hb dX5_lookBehindAll_45 rfl (lv_at hl 0 rfl) ?_
      refine va_get (D := (dC, dI)) (ci := 5) (v := .ref td) (C := RX5) (T := TX5) (N := 12) hx hb hg inG5 hown hK.1 hP 0 rfl rfl 1 (by decide) (hg _ wt_107) (fun _ h9 => h9) rfl dX5_lookBehindAll_46 ?_
      refine va_getN (D := (dC, dI)) (ci := 9) (v := .int (nI N)) (C := RX9) (T := TX9) (N := 9) hx hb hg inG9 hown hK.1 hP 2 rfl rfl 0 (by decide) (hK.nest wn_61) (fun _ h9 => h9) rfl dX5_lookBehindAll_49 ?_
      refine lv_if_le (tgt := 79) hx hb dX5_lookBehindAll_52 (by decide) (fun c7 => ?_) (fun c7 => ?_)
      · skip
        have n8 : N ≤ 0 := by have t := leI c7; rw [nI_toInt (n := N) (by omega)] at t; have : (0 : Int32).toInt = 0 := (by decide); omega
        have hP9 := hP.sub (ws' := [(h0, .inr (5, [.ref tp, .ref td, .int x0, .int x1, .int x2, .int x3, .int (nI F), .int (nI P), .int x6, .int x7, .int x8, .int x9])), (tp, .inr (7, [.int (nI T), .ref ta])), (td, .inr (9, [.int (nI N), .int (nI B), .int (nI D), .ref a1, .ref a2, .ref a3, .ref a4, .ref a5, .ref a6]))]) [0, 1, 2] rfl
        have hD9 := hD.sub (ws' := [(h0, .inr (5, [.ref tp, .ref td, .int x0, .int x1, .int x2, .int x3, .int (nI F), .int (nI P), .int x6, .int x7, .int x8, .int x9])), (tp, .inr (7, [.int (nI T), .ref ta])), (td, .inr (9, [.int (nI N), .int (nI B), .int (nI D), .ref a1, .ref a2, .ref a3, .ref a4, .ref a5, .ref a6]))]) [0, 1, 2] (by decide) rfl
        refine W.widen (k := 0) (n := 0) (by omega) (by omega) ?_
        exact W.vret hx hb hr (fun t ht hW => ⟨⟨(x0, x1), rfl, trivial, ⟨by rw [ht]; exact hP9, hD9⟩⟩, hS.F ht⟩) hS.2.2 dX5_lookBehindAll_79
      · skip
        have n9 : 0 < N := by have t := nleI c7; rw [nI_toInt (n := N) (by omega)] at t; have : (0 : Int32).toInt = 0 := (by decide); omega
        refine lv_aload_n hx hb dX5_lookBehindAll_55 rfl (lv_at hl 0 rfl) ?_
        refine va_get (D := (dC, dI)) (ci := 5) (v := .ref td) (C := RX5) (T := TX5) (N := 12) hx hb hg inG5 hown hK.1 hP 0 rfl rfl 1 (by decide) (hg _ wt_107) (fun _ h9 => h9) rfl dX5_lookBehindAll_56 ?_
        refine va_getN (D := (dC, dI)) (ci := 9) (v := .int (nI B)) (C := RX9) (T := TX9) (N := 9) hx hb hg inG9 hown hK.1 hP 2 rfl rfl 1 (by decide) (hK.nest wn_65) (fun _ h9 => h9) rfl dX5_lookBehindAll_59 ?_
        refine lv_if_ne (tgt := 79) hx hb dX5_lookBehindAll_62 (by decide) (fun c10 => ?_) (fun c10 => ?_)
        · skip
          have n11 : B ≠ 0 := by have t := neI c10; rw [nI_toInt (n := B) (by omega)] at t; have : (0 : Int32).toInt = 0 := (by decide); omega
          have hP9 := hP.sub (ws' := [(h0, .inr (5, [.ref tp, .ref td, .int x0, .int x1, .int x2, .int x3, .int (nI F), .int (nI P), .int x6, .int x7, .int x8, .int x9])), (tp, .inr (7, [.int (nI T), .ref ta])), (td, .inr (9, [.int (nI N), .int (nI B), .int (nI D), .ref a1, .ref a2, .ref a3, .ref a4, .ref a5, .ref a6]))]) [0, 1, 2] rfl
          have hD9 := hD.sub (ws' := [(h0, .inr (5, [.ref tp, .ref td, .int x0, .int x1, .int x2, .int x3, .int (nI F), .int (nI P), .int x6, .int x7, .int x8, .int x9])), (tp, .inr (7, [.int (nI T), .ref ta])), (td, .inr (9, [.int (nI N), .int (nI B), .int (nI D), .ref a1, .ref a2, .ref a3, .ref a4, .ref a5, .ref a6]))]) [0, 1, 2] (by decide) rfl
          refine W.widen (k := 0) (n := 0) (by omega) (by omega) ?_
          exact W.vret hx hb hr (fun t ht hW => ⟨⟨(x0, x1), rfl, trivial, ⟨by rw [ht]; exact hP9, hD9⟩⟩, hS.F ht⟩) hS.2.2 dX5_lookBehindAll_79
        · skip
          have n12 : B = 0 := by have t := eqI c10; rw [nI_toInt (n := B) (by omega)] at t; have : (0 : Int32).toInt = 0 := (by decide); omega
          refine lv_aload_n hx hb dX5_lookBehindAll_65 rfl (lv_at hl 0 rfl) ?_
          refine lv_bipush (v := 7) hx hb dX5_lookBehindAll_66 (by decide) ?_
          refine lv_aload_n hx hb dX5_lookBehindAll_68 rfl (lv_at hl 0 rfl) ?_
          refine va_get (D := (dC, dI)) (ci := 5) (v := .ref tp) (C := RX5) (T := TX5) (N := 12) hx hb hg inG5 hown hK.1 hP 0 rfl rfl 0 (by decide) (hg _ wt_105) (fun _ h9 => h9) rfl dX5_lookBehindAll_69 ?_
          refine va_getN (D := (dC, dI)) (ci := 7) (v := .int (nI T)) (C := RX7) (T := TX7) (N := 2) hx hb hg inG7 hown hK.1 hP 1 rfl rfl 0 (by decide) (hK.nest wn_41) (fun _ h9 => h9) rfl dX5_lookBehindAll_72 ?_
          have hPc := hP.sub (ws' := [(h0, .inr (5, [.ref tp, .ref td, .int x0, .int x1, .int x2, .int x3, .int (nI F), .int (nI P), .int x6, .int x7, .int x8, .int x9]))]) [0] rfl
          have hDc := hD.sub (ws' := [(h0, .inr (5, [.ref tp, .ref td, .int x0, .int x1, .int x2, .int x3, .int (nI F), .int (nI P), .int x6, .int x7, .int x8, .int x9]))]) [0] (by decide) rfl
          have hFc := va_free (wc := [(h0, .inr (5, [.ref tp, .ref td, .int x0, .int x1, .int x2, .int x3, .int (nI F), .int (nI P), .int x6, .int x7, .int x8, .int x9]))]) hD hS hA [0] rfl
          refine va_calli (va_runV (As := [.int 7, .int (nI T)]) (rest := []) ⟨hx, hb, hml, hown, hg⟩ (c_X5_refuse l dC dI G _ h0 tp td x0 x1 x2 x3 (nI F) (nI P) x6 x7 x8 x9 7 (nI T) ) (kwV hg mfX5_refuse wt_386 ⟨Nat.le_of_ble_eq_true rfl, Nat.le_of_ble_eq_true rfl⟩) (preVW hK hPc hDc (ci := 5) rfl rfl) rfl rfl hl.1 rfl (lv_room (Nat.le_of_ble_eq_true rfl)) dX5_lookBehindAll_75 ⟨Nat.le_of_ble_eq_true rfl, Nat.le_of_ble_eq_true rfl⟩) hS (fun q _ h => hFc q h) hFc (fun r13 ur13 t H1 locs ht hvm w14 hB hz1 hk1 hS => ?_)
          obtain ⟨u15, u16⟩ := ur13
          obtain ⟨hP1, hD1⟩ := hB
          rw [ht] at hP1
          obtain ⟨hP, hD⟩ := va_join (wr := [(tp, .inr (7, [.int (nI T), .ref ta])), (td, .inr (9, [.int (nI N), .int (nI B), .int (nI D), .ref a1, .ref a2, .ref a3, .ref a4, .ref a5, .ref a6]))]) (w1 := [(h0, .inr (5, [.ref tp, .ref td, .int u15, .int u16, .int x2, .int x3, .int (nI F), .int (nI P), .int x6, .int x7, .int x8, .int x9]))]) hP hD [0] [1, 2] rfl rfl (by decide) (by decide) hk1 hFc hP1 hD1
          generalize H1 = H at hP hS ⊢
          have hP : va_P (dC, dI) vwCl [(tp, .inr (7, [.int (nI T), .ref ta])), (td, .inr (9, [.int (nI N), .int (nI B), .int (nI D), .ref a1, .ref a2, .ref a3, .ref a4, .ref a5, .ref a6])), (h0, .inr (5, [.ref tp, .ref td, .int u15, .int u16, .int x2, .int x3, .int (nI F), .int (nI P), .int x6, .int x7, .int x8, .int x9]))] H := hP
          have hD : va_D A [(tp, .inr (7, [.int (nI T), .ref ta])), (td, .inr (9, [.int (nI N), .int (nI B), .int (nI D), .ref a1, .ref a2, .ref a3, .ref a4, .ref a5, .ref a6])), (h0, .inr (5, [.ref tp, .ref td, .int u15, .int u16, .int x2, .int x3, .int (nI F), .int (nI P), .int x6, .int x7, .int x8, .int x9]))] := hD
          obtain ⟨w14, w14x⟩ := w14
          subst w14
          refine lv_pop hx hb dX5_lookBehindAll_78 rfl ?_
          have hP9 := hP.sub (ws' := [(h0, .inr (5, [.ref tp, .ref td, .int u15, .int u16, .int x2, .int x3, .int (nI F), .int (nI P), .int x6, .int x7, .int x8, .int x9])), (tp, .inr (7, [.int (nI T), .ref ta])), (td, .inr (9, [.int (nI N), .int (nI B), .int (nI D), .ref a1, .ref a2, .ref a3, .ref a4, .ref a5, .ref a6]))]) [2, 0, 1] rfl
          have hD9 := hD.sub (ws' := [(h0, .inr (5, [.ref tp, .ref td, .int u15, .int u16, .int x2, .int x3, .int (nI F), .int (nI P), .int x6, .int x7, .int x8, .int x9])), (tp, .inr (7, [.int (nI T), .ref ta])), (td, .inr (9, [.int (nI N), .int (nI B), .int (nI D), .ref a1, .ref a2, .ref a3, .ref a4, .ref a5, .ref a6]))]) [2, 0, 1] (by decide) rfl
          refine W.widen (k := 0) (n := 0) (by omega) (by omega) ?_
          exact W.vret hx hb hr (fun t ht hW => ⟨⟨(u15, u16), rfl, trivial, ⟨by rw [ht]; exact hP9, hD9⟩⟩, hS.F ht⟩) hS.2.2 dX5_lookBehindAll_79
    · skip
      refine lv_aload_n hx hb dX5_lookBehindAll_28 rfl (lv_at hl 0 rfl) ?_
      refine lv_bipush (v := 6) hx hb dX5_lookBehindAll_29 (by decide) ?_
      refine lv_aload_n hx hb dX5_lookBehindAll_31 rfl (lv_at hl 0 rfl) ?_
      refine va_get (D := (dC, dI)) (ci := 5) (v := .ref tp) (C := RX5) (T := TX5) (N := 12) hx hb hg inG5 hown hK.1 hP 0 rfl rfl 0 (by decide) (hg _ wt_105) (fun _ h9 => h9) rfl dX5_lookBehindAll_32 ?_
      refine va_getN (D := (dC, dI)) (ci := 7) (v := .int (nI T)) (C := RX7) (T := TX7) (N := 2) hx hb hg inG7 hown hK.1 hP 1 rfl rfl 0 (by decide) (hK.nest wn_41) (fun _ h9 => h9) rfl dX5_lookBehindAll_35 ?_
      have hPc := hP.sub (ws' := [(h0, .inr (5, [.ref tp, .ref td, .int x0, .int x1, .int x2, .int x3, .int (nI F), .int (nI P), .int x6, .int x7, .int x8, .int x9]))]) [0] rfl
      have hDc := hD.sub (ws' := [(h0, .inr (5, [.ref tp, .ref td, .int x0, .int x1, .int x2, .int x3, .int (nI F), .int (nI P), .int x6, .int x7, .int x8, .int x9]))]) [0] (by decide) rfl
      have hFc := va_free (wc := [(h0, .inr (5, [.ref tp, .ref td, .int x0, .int x1, .int x2, .int x3, .int (nI F), .int (nI P), .int x6, .int x7, .int x8, .int x9]))]) hD hS hA [0] rfl
      refine va_calli (va_runV (As := [.int 6, .int (nI T)]) (rest := []) ⟨hx, hb, hml, hown, hg⟩ (c_X5_refuse l dC dI G _ h0 tp td x0 x1 x2 x3 (nI F) (nI P) x6 x7 x8 x9 6 (nI T) ) (kwV hg mfX5_refuse wt_386 ⟨Nat.le_of_ble_eq_true rfl, Nat.le_of_ble_eq_true rfl⟩) (preVW hK hPc hDc (ci := 5) rfl rfl) rfl rfl hl.1 rfl (lv_room (Nat.le_of_ble_eq_true rfl)) dX5_lookBehindAll_38 ⟨Nat.le_of_ble_eq_true rfl, Nat.le_of_ble_eq_true rfl⟩) hS (fun q _ h => hFc q h) hFc (fun r17 ur17 t H1 locs ht hvm w18 hB hz1 hk1 hS => ?_)
      obtain ⟨u19, u20⟩ := ur17
      obtain ⟨hP1, hD1⟩ := hB
      rw [ht] at hP1
      obtain ⟨hP, hD⟩ := va_join (wr := [(tp, .inr (7, [.int (nI T), .ref ta])), (td, .inr (9, [.int (nI N), .int (nI B), .int (nI D), .ref a1, .ref a2, .ref a3, .ref a4, .ref a5, .ref a6]))]) (w1 := [(h0, .inr (5, [.ref tp, .ref td, .int u19, .int u20, .int x2, .int x3, .int (nI F), .int (nI P), .int x6, .int x7, .int x8, .int x9]))]) hP hD [0] [1, 2] rfl rfl (by decide) (by decide) hk1 hFc hP1 hD1
      generalize H1 = H at hP hS ⊢
      have hP : va_P (dC, dI) vwCl [(tp, .inr (7, [.int (nI T), .ref ta])), (td, .inr (9, [.int (nI N), .int (nI B), .int (nI D), .ref a1, .ref a2, .ref a3, .ref a4, .ref a5, .ref a6])), (h0, .inr (5, [.ref tp, .ref td, .int u19, .int u20, .int x2, .int x3, .int (nI F), .int (nI P), .int x6, .int x7, .int x8, .int x9]))] H := hP
      have hD : va_D A [(tp, .inr (7, [.int (nI T), .ref ta])), (td, .inr (9, [.int (nI N), .int (nI B), .int (nI D), .ref a1, .ref a2, .ref a3, .ref a4, .ref a5, .ref a6])), (h0, .inr (5, [.ref tp, .ref td, .int u19, .int u20, .int x2, .int x3, .int (nI F), .int (nI P), .int x6, .int x7, .int x8, .int x9]))] := hD
      obtain ⟨w18, w18x⟩ := w18
      subst w18
      refine lv_pop hx hb dX5_lookBehindAll_41 rfl ?_
      refine lv_goto (tgt := 79) hx hb dX5_lookBehindAll_42 (by decide) ?_
      have hP9 := hP.sub (ws' := [(h0, .inr (5, [.ref tp, .ref td, .int u19, .int u20, .int x2, .int x3, .int (nI F), .int (nI P), .int x6, .int x7, .int x8, .int x9])), (tp, .inr (7, [.int (nI T), .ref ta])), (td, .inr (9, [.int (nI N), .int (nI B), .int (nI D), .ref a1, .ref a2, .ref a3, .ref a4, .ref a5, .ref a6]))]) [2, 0, 1] rfl
      have hD9 := hD.sub (ws' := [(h0, .inr (5, [.ref tp, .ref td, .int u19, .int u20, .int x2, .int x3, .int (nI F), .int (nI P), .int x6, .int x7, .int x8, .int x9])), (tp, .inr (7, [.int (nI T), .ref ta])), (td, .inr (9, [.int (nI N), .int (nI B), .int (nI D), .ref a1, .ref a2, .ref a3, .ref a4, .ref a5, .ref a6]))]) [2, 0, 1] (by decide) rfl
      refine W.widen (k := 0) (n := 0) (by omega) (by omega) ?_
      exact W.vret hx hb hr (fun t ht hW => ⟨⟨(u19, u20), rfl, trivial, ⟨by rw [ht]; exact hP9, hD9⟩⟩, hS.F ht⟩) hS.2.2 dX5_lookBehindAll_79
