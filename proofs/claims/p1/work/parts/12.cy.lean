set_option maxHeartbeats 4000000 in
set_option maxRecDepth 100000 in
theorem c_X0_slot (l : Launch) (dC : Nat → ClassId) (dI : Nat → Nat → Nat) (G : Nat → ClassId) (sz : Nat)   : Met l yX0_slot (Cond.code yX0_slot cX0_slot 2 (some .int) :: GT) ({ frames := 0, cells := 0, slots := 0, locals := 0 } : Room) (PcR [.int (-4), .int 5] dC dI G [] sz) (va_Qi (fun (r : Int32) (u : Unit) => match u with | _ => (r = 5) ∧ True) (fun _ _ => True) (fun q : Nat => sz ≤ q)) 0 0 (fun q : Nat => sz ≤ q) := by
  refine Met.ofW (cc := cX0_slot) (maxL := 2) (ret := (some .int)) (by decide) rfl ?_
  intro p e s m args below meth c s₁ B hml hv
  obtain ⟨rfl, hsz, hP, hK⟩ := hv
  have hx := B.exec
  have hb := B.bytes
  have hr := B.returns
  have hg : ∀ w ∈ GT, w.before ([.int (-4), .int 5] : List Value).toArray s = true := fun w h => atoms_spec (ws := Cond.code yX0_slot cX0_slot 2 (some .int) :: GT) B.pre w (List.mem_cons_of_mem _ h)
  have hown : s.vm.findClass RX0 = some m.cls := findClass_of_methodNamed B.named
  have hlocks := B.notSynchronized
  subst hsz
  have hA : ∀ q : Nat, s.heap.size ≤ q → (fun q : Nat => s.heap.size ≤ q) q := fun _ h => h
  have hS : va_S (fun q : Nat => s.heap.size ≤ q) s.heap s.heap [] := va_S.rf
  have hl := lv_entry ([.int (-4), .int 5]) (n := 2) (Nat.le_of_ble_eq_true rfl)
  rw [lg_entry_eq]
  generalize (lg_sl ([.int (-4), .int 5]) ++ List.replicate (2 - (lg_sl ([.int (-4), .int 5])).length) Slot.unset).toArray = ls at hl ⊢
  have hl : lv_has ls 2 [(0, .int (-4)), (1, .int 5)] := hl
  refine lv_iload_n hx hb dX0_slot_0 rfl (lv_at hl 0 rfl) ?_
  refine lv_bipush (v := (-4)) hx hb dX0_slot_1 (by decide) ?_
  refine lv_icmp_ne (tgt := 10) hx hb dX0_slot_3 (by decide) (fun c1 => ?_) (fun c1 => ?_)
  · skip
    exact absurd c1 (by decide)
  · skip
    refine lv_iconst (v := 0) hx hb dX0_slot_6 (by decide) ?_
    refine lv_goto (tgt := 13) hx hb dX0_slot_7 (by decide) ?_
    refine lv_bipush (v := 10) hx hb dX0_slot_13 (by decide) ?_
    refine lv_imul hx hb dX0_slot_15 ?_
    refine lv_cg (y := 0) (by decide) ?_
    refine lv_iload_n hx hb dX0_slot_16 rfl (lv_at hl 1 rfl) ?_
    refine lv_iadd hx hb dX0_slot_17 ?_
    refine lv_cg (y := 5) (by decide) ?_
    have hpost : (5 : Int32) = 5 := by
      have t_c1 := eqI c1
      have : ((-4) : Int32).toInt = -4 := (by decide)
      first | rfl | ((repeat' split) <;> first | rfl | omega)
    refine W.widen (k := 0) (n := 0) (by omega) (by omega) ?_
    exact W.iret (v := 5) hx hb hr (fun t ht hW => ⟨⟨5, (), rfl, ⟨hpost, trivial⟩, trivial⟩, hS.F ht⟩) hS.2.2 dX0_slot_18

set_option maxHeartbeats 4000000 in
set_option maxRecDepth 100000 in
theorem c_X0_plan (l : Launch) (dC : Nat → ClassId) (dI : Nat → Nat → Nat) (G : Nat → ClassId) (sz : Nat) (h0 wk cs wy a1 a2 a3 a4 a5 a6 : Nat) (rw : Nat → Nat) (w0 : Int64) (f : Nat → Int64)  : Met l yX0_plan (Cond.code yX0_plan cX0_plan 5 none :: GT) ({ frames := 0, cells := 0, slots := 0, locals := 0 } : Room) (PcW [.ref h0, .ref wy, .int (-4)] dC dI G [(h0, .inr (0, [.long w0, .ref wk, .ref cs])), (wk, .inl (G 5, 11, .inr (.inr (.inr (.inr (fun i => if i < 11 then some (rw i) else none)))))), ((rw 0), .inl (G 1, 70, .inr (.inl f))), (wy, .inr (9, [.int 0, .int 0, .int 5, .ref a1, .ref a2, .ref a3, .ref a4, .ref a5, .ref a6]))] sz) (va_Qv (fun (u : Nat → Int64) => match u with | u => u 5 = 0) (fun (u : Nat → Int64) (t : State) => match u with | u => va_P (dC, dI) vwCl [(h0, .inr (0, [.long 1, .ref wk, .ref cs])), (wk, .inl (G 5, 11, .inr (.inr (.inr (.inr (fun i => if i < 11 then some (rw i) else none)))))), ((rw 0), .inl (G 1, 70, .inr (.inl u))), (wy, .inr (9, [.int 0, .int 0, .int 5, .ref a1, .ref a2, .ref a3, .ref a4, .ref a5, .ref a6]))] t.heap ∧ va_D (va_A [(h0, .inr (0, [.long w0, .ref wk, .ref cs])), (wk, .inl (G 5, 11, .inr (.inr (.inr (.inr (fun i => if i < 11 then some (rw i) else none)))))), ((rw 0), .inl (G 1, 70, .inr (.inl f))), (wy, .inr (9, [.int 0, .int 0, .int 5, .ref a1, .ref a2, .ref a3, .ref a4, .ref a5, .ref a6]))] sz) [(h0, .inr (0, [.long 1, .ref wk, .ref cs])), (wk, .inl (G 5, 11, .inr (.inr (.inr (.inr (fun i => if i < 11 then some (rw i) else none)))))), ((rw 0), .inl (G 1, 70, .inr (.inl u))), (wy, .inr (9, [.int 0, .int 0, .int 5, .ref a1, .ref a2, .ref a3, .ref a4, .ref a5, .ref a6]))]) (va_A [(h0, .inr (0, [.long w0, .ref wk, .ref cs])), (wk, .inl (G 5, 11, .inr (.inr (.inr (.inr (fun i => if i < 11 then some (rw i) else none)))))), ((rw 0), .inl (G 1, 70, .inr (.inl f))), (wy, .inr (9, [.int 0, .int 0, .int 5, .ref a1, .ref a2, .ref a3, .ref a4, .ref a5, .ref a6]))] sz)) 0 0 (va_A [(h0, .inr (0, [.long w0, .ref wk, .ref cs])), (wk, .inl (G 5, 11, .inr (.inr (.inr (.inr (fun i => if i < 11 then some (rw i) else none)))))), ((rw 0), .inl (G 1, 70, .inr (.inl f))), (wy, .inr (9, [.int 0, .int 0, .int 5, .ref a1, .ref a2, .ref a3, .ref a4, .ref a5, .ref a6]))] sz) := by
  refine Met.ofW (cc := cX0_plan) (maxL := 5) (ret := none) (by decide) rfl ?_
  intro p e s m args below meth c s₁ B hml hv
  obtain ⟨rfl, hsz, hP, hK, hD0⟩ := hv
  have hx := B.exec
  have hb := B.bytes
  have hr := B.returns
  have hg : ∀ w ∈ GT, w.before ([.ref h0, .ref wy, .int (-4)] : List Value).toArray s = true := fun w h => atoms_spec (ws := Cond.code yX0_plan cX0_plan 5 none :: GT) B.pre w (List.mem_cons_of_mem _ h)
  have hown : s.vm.findClass RX0 = some m.cls := findClass_of_methodNamed B.named
  have hlocks := B.notSynchronized
  subst hsz
  have hD := hD0.self (sz := s.heap.size)
  generalize hAe : va_A [(h0, .inr (0, [.long w0, .ref wk, .ref cs])), (wk, .inl (G 5, 11, .inr (.inr (.inr (.inr (fun i => if i < 11 then some (rw i) else none)))))), ((rw 0), .inl (G 1, 70, .inr (.inl f))), (wy, .inr (9, [.int 0, .int 0, .int 5, .ref a1, .ref a2, .ref a3, .ref a4, .ref a5, .ref a6]))] s.heap.size = A at hD ⊢
  have hA : ∀ q : Nat, s.heap.size ≤ q → A q := fun q h => by rw [← hAe]; exact Or.inr h
  have hS : va_S A s.heap s.heap [] := va_S.rf
  have hl := lv_entry ([.ref h0, .ref wy, .int (-4)]) (n := 5) (Nat.le_of_ble_eq_true rfl)
  rw [lg_entry_eq]
  generalize (lg_sl ([.ref h0, .ref wy, .int (-4)]) ++ List.replicate (5 - (lg_sl ([.ref h0, .ref wy, .int (-4)])).length) Slot.unset).toArray = ls at hl ⊢
  have hl : lv_has ls 5 [(0, .ref h0), (1, .ref wy), (2, .int (-4))] := hl
  refine lv_aload_n hx hb dX0_plan_0 rfl (lv_at hl 0 rfl) ?_
  refine lv_lconst (v := 1) hx hb dX0_plan_1 (by decide) ?_
  refine va_put (D := (dC, dI)) (ci := 0) (v := .long 1) (ty := .long) (C := RX0) (T := TX0) (N := 3) hx hb hg inG0 tyX0 tyX0_ok nmX0 hown hK.1 hP hD hS 0 rfl rfl 0 (by decide) (hg _ wt_180) (fun _ h9 => h9) rfl (by decide +kernel) rfl rfl (Nat.le_of_ble_eq_true rfl) dX0_plan_2 (fun H locs hP hD hS => ?_)
  have hP : va_P (dC, dI) vwCl [(h0, .inr (0, [.long 1, .ref wk, .ref cs])), (wk, .inl (G 5, 11, .inr (.inr (.inr (.inr (fun i => if i < 11 then some (rw i) else none)))))), ((rw 0), .inl (G 1, 70, .inr (.inl f))), (wy, .inr (9, [.int 0, .int 0, .int 5, .ref a1, .ref a2, .ref a3, .ref a4, .ref a5, .ref a6]))] H := hP
  have hD : va_D A [(h0, .inr (0, [.long 1, .ref wk, .ref cs])), (wk, .inl (G 5, 11, .inr (.inr (.inr (.inr (fun i => if i < 11 then some (rw i) else none)))))), ((rw 0), .inl (G 1, 70, .inr (.inl f))), (wy, .inr (9, [.int 0, .int 0, .int 5, .ref a1, .ref a2, .ref a3, .ref a4, .ref a5, .ref a6]))] := hD
  refine lv_iconst (v := 0) hx hb dX0_plan_5 (by decide) ?_
  refine lv_istore_n (lv' := [(3, .int 0), (0, .ref h0), (1, .ref wy), (2, .int (-4))]) hx hb dX0_plan_6 rfl hl (by decide) rfl (fun ls hl => ?_)
  have loop7 : ∀ (nf j : Nat), 70 + 1 ≤ j + nf → j ≤ 70 → ∀ (g : Nat → Int64) (H : Heap) (locs : List Loc), (5 < j → g 5 = 0) → va_P (dC, dI) vwCl [(h0, .inr (0, [.long 1, .ref wk, .ref cs])), (wk, .inl (G 5, 11, .inr (.inr (.inr (.inr (fun i => if i < 11 then some (rw i) else none)))))), ((rw 0), .inl (G 1, 70, .inr (.inl g))), (wy, .inr (9, [.int 0, .int 0, .int 5, .ref a1, .ref a2, .ref a3, .ref a4, .ref a5, .ref a6]))] H → va_D A [(h0, .inr (0, [.long 1, .ref wk, .ref cs])), (wk, .inl (G 5, 11, .inr (.inr (.inr (.inr (fun i => if i < 11 then some (rw i) else none)))))), ((rw 0), .inl (G 1, 70, .inr (.inl g))), (wy, .inr (9, [.int 0, .int 0, .int 5, .ref a1, .ref a2, .ref a3, .ref a4, .ref a5, .ref a6]))] → va_S A s.heap H locs → ∀ (ls : Array Slot), lv_has ls 5 [(3, .int (nI j)), (0, .ref h0), (1, .ref wy), (2, .int (-4))] → W p l e (headSpec (Cond.code yX0_plan cX0_plan 5 none :: GT) ({ frames := 0, cells := 0, slots := 0, locals := 0 } : Room)).room s m ([.ref h0, .ref wy, .int (-4)] : List Value).toArray below meth c H locs 0 0 (MQ below (va_Qv (fun (u : Nat → Int64) => match u with | u => u 5 = 0) (fun (u : Nat → Int64) (t : State) => match u with | u => va_P (dC, dI) vwCl [(h0, .inr (0, [.long 1, .ref wk, .ref cs])), (wk, .inl (G 5, 11, .inr (.inr (.inr (.inr (fun i => if i < 11 then some (rw i) else none)))))), ((rw 0), .inl (G 1, 70, .inr (.inl u))), (wy, .inr (9, [.int 0, .int 0, .int 5, .ref a1, .ref a2, .ref a3, .ref a4, .ref a5, .ref a6]))] t.heap ∧ va_D A [(h0, .inr (0, [.long 1, .ref wk, .ref cs])), (wk, .inl (G 5, 11, .inr (.inr (.inr (.inr (fun i => if i < 11 then some (rw i) else none)))))), ((rw 0), .inl (G 1, 70, .inr (.inl u))), (wy, .inr (9, [.int 0, .int 0, .int 5, .ref a1, .ref a2, .ref a3, .ref a4, .ref a5, .ref a6]))]) A) ([.ref h0, .ref wy, .int (-4)] : List Value).toArray s 0 0 A) (F0 m 7 ls []) := by
    intro nf
    induction nf with
    | zero => intro j h1 h2; exact absurd h1 (by omega)
    | succ nf ih7 =>
      intro j hn1 hj2 g H locs hinv hP hD hS ls hl
      refine lv_iload_n hx hb dX0_plan_7 rfl (lv_at hl 0 rfl) ?_
      refine lv_bipush (v := 70) hx hb dX0_plan_8 (by decide) ?_
      refine lv_icmp_ge (tgt := 42) hx hb dX0_plan_10 (by decide) (fun c3 => ?_) (fun c3 => ?_)
      · skip
        have n4 : 70 ≤ j := by have t := leI c3; rw [nI_toInt (n := j) (by omega)] at t; have : (70 : Int32).toInt = 70 := (by decide); omega
        refine lv_aload_n hx hb dX0_plan_42 rfl (lv_at hl 2 rfl) ?_
        refine va_getN (D := (dC, dI)) (ci := 9) (v := .int 0) (C := RX9) (T := TX9) (N := 9) hx hb hg inG9 hown hK.1 hP 3 rfl rfl 0 (by decide) (hK.nest wn_59) (fun _ h9 => h9) rfl dX0_plan_43 ?_
        refine lv_iconst (v := 1) hx hb dX0_plan_46 (by decide) ?_
        refine lv_isub hx hb dX0_plan_47 ?_
        refine lv_cg (y := (-1)) (by decide) ?_
        refine lv_istore_n (lv' := [(3, .int (-1)), (0, .ref h0), (1, .ref wy), (2, .int (-4))]) hx hb dX0_plan_48 rfl hl (by decide) rfl (fun ls hl => ?_)
        refine lv_iload_n hx hb dX0_plan_49 rfl (lv_at hl 0 rfl) ?_
        refine lv_if_lt (tgt := 107) hx hb dX0_plan_50 (by decide) (fun c5 => ?_) (fun c5 => ?_)
        · skip
          have hP9 := hP.sub (ws' := [(h0, .inr (0, [.long 1, .ref wk, .ref cs])), (wk, .inl (G 5, 11, .inr (.inr (.inr (.inr (fun i => if i < 11 then some (rw i) else none)))))), ((rw 0), .inl (G 1, 70, .inr (.inl g))), (wy, .inr (9, [.int 0, .int 0, .int 5, .ref a1, .ref a2, .ref a3, .ref a4, .ref a5, .ref a6]))]) [0, 1, 2, 3] rfl
          have hD9 := hD.sub (ws' := [(h0, .inr (0, [.long 1, .ref wk, .ref cs])), (wk, .inl (G 5, 11, .inr (.inr (.inr (.inr (fun i => if i < 11 then some (rw i) else none)))))), ((rw 0), .inl (G 1, 70, .inr (.inl g))), (wy, .inr (9, [.int 0, .int 0, .int 5, .ref a1, .ref a2, .ref a3, .ref a4, .ref a5, .ref a6]))]) [0, 1, 2, 3] (by decide) rfl
          refine W.widen (k := 0) (n := 0) (by omega) (by omega) ?_
          exact W.vret hx hb hr (fun t ht hW => ⟨⟨g, rfl, (hinv (by omega)), ⟨by rw [ht]; exact hP9, hD9⟩⟩, hS.F ht⟩) hS.2.2 dX0_plan_107
        · skip
          exact absurd c5 (by decide)
      · skip
        have n6 : j < 70 := by have t := nleI c3; rw [nI_toInt (n := j) (by omega)] at t; have : (70 : Int32).toInt = 70 := (by decide); omega
        refine lv_aload_n hx hb dX0_plan_13 rfl (lv_at hl 1 rfl) ?_
        refine va_get (D := (dC, dI)) (ci := 0) (v := .ref wk) (C := RX0) (T := TX0) (N := 3) hx hb hg inG0 hown hK.1 hP 0 rfl rfl 1 (by decide) (hg _ wt_182) (fun _ h9 => h9) rfl dX0_plan_14 ?_
        refine lv_aload_n hx hb dX0_plan_17 rfl (lv_at hl 2 rfl) ?_
        refine va_getN (D := (dC, dI)) (ci := 9) (v := .int 0) (C := RX9) (T := TX9) (N := 9) hx hb hg inG9 hown hK.1 hP 3 rfl rfl 0 (by decide) (hK.nest wn_59) (fun _ h9 => h9) rfl dX0_plan_18 ?_
        refine va_aldA hx hb hK.1 hP 1 5 rfl rfl (vp_in_iff.mpr ⟨by decide, by decide⟩) dX0_plan_21 ?_
        refine lv_cgv (y := .ref (rw 0)) (by rfl) ?_
        refine lv_iload_n hx hb dX0_plan_22 rfl (lv_at hl 0 rfl) ?_
        refine lv_iload_n hx hb dX0_plan_23 rfl (lv_at hl 0 rfl) ?_
        refine lv_bipush (v := 10) hx hb dX0_plan_24 (by decide) ?_
        refine lv_irem hx hb dX0_plan_26 (by decide) ?_
        refine lv_cg (y := nI (j % 10)) (by rw [show (10 : Int32) = nI 10 from rfl]; exact pk_rem (by omega) (by omega) (by omega)) ?_
        refine lv_if_ne (tgt := 34) hx hb dX0_plan_27 (by decide) (fun c7 => ?_) (fun c7 => ?_)
        · skip
          have n8 : (j % 10) ≠ 0 := by have t := neI c7; rw [nI_toInt (n := (j % 10)) (by omega)] at t; have : (0 : Int32).toInt = 0 := (by decide); omega
          refine lv_lconst (v := 0) hx hb dX0_plan_34 (by decide) ?_
          refine va_last hx hb hK.1 hP hD hS 2 1 rfl rfl (vp_in_nI (by omega) (by decide)) dX0_plan_35 (fun H locs hP hD hS => ?_)
          rw [nI_clamp (by omega)] at hP hD
          have hP : va_P (dC, dI) vwCl [(h0, .inr (0, [.long 1, .ref wk, .ref cs])), (wk, .inl (G 5, 11, .inr (.inr (.inr (.inr (fun i => if i < 11 then some (rw i) else none)))))), ((rw 0), .inl (G 1, 70, .inr (.inl (vp_updL g j 0)))), (wy, .inr (9, [.int 0, .int 0, .int 5, .ref a1, .ref a2, .ref a3, .ref a4, .ref a5, .ref a6]))] H := hP
          have hD : va_D A [(h0, .inr (0, [.long 1, .ref wk, .ref cs])), (wk, .inl (G 5, 11, .inr (.inr (.inr (.inr (fun i => if i < 11 then some (rw i) else none)))))), ((rw 0), .inl (G 1, 70, .inr (.inl (vp_updL g j 0)))), (wy, .inr (9, [.int 0, .int 0, .int 5, .ref a1, .ref a2, .ref a3, .ref a4, .ref a5, .ref a6]))] := hD
          refine lv_iinc (v := nI (j + 1)) (lv' := [(3, .int (nI (j + 1))), (0, .ref h0), (1, .ref wy), (2, .int (-4))]) hx hb dX0_plan_36 hl (k := 0) rfl (by rw [show Int32.ofInt 1 = nI 1 from by decide]; exact nI_add _ _) (by decide) rfl (fun ls hl => ?_)
          refine lv_goto (tgt := 7) hx hb dX0_plan_39 (by decide) ?_
          exact ih7 ((j + 1)) (by omega) (by omega) (vp_updL g j 0) _ _ (fun h5 => if e5 : 5 = j then (by subst e5; first | rfl | (exfalso; omega)) else (pk_uLn e5).trans (hinv (by omega))) hP hD hS ls (lv_sub hl [0, 1, 2, 3] rfl)
        · skip
          have n9 : (j % 10) = 0 := by have t := eqI c7; rw [nI_toInt (n := (j % 10)) (by omega)] at t; have : (0 : Int32).toInt = 0 := (by decide); omega
          refine lv_lconst (v := 1) hx hb dX0_plan_30 (by decide) ?_
          refine lv_goto (tgt := 35) hx hb dX0_plan_31 (by decide) ?_
          refine va_last hx hb hK.1 hP hD hS 2 1 rfl rfl (vp_in_nI (by omega) (by decide)) dX0_plan_35 (fun H locs hP hD hS => ?_)
          rw [nI_clamp (by omega)] at hP hD
          have hP : va_P (dC, dI) vwCl [(h0, .inr (0, [.long 1, .ref wk, .ref cs])), (wk, .inl (G 5, 11, .inr (.inr (.inr (.inr (fun i => if i < 11 then some (rw i) else none)))))), ((rw 0), .inl (G 1, 70, .inr (.inl (vp_updL g j 1)))), (wy, .inr (9, [.int 0, .int 0, .int 5, .ref a1, .ref a2, .ref a3, .ref a4, .ref a5, .ref a6]))] H := hP
          have hD : va_D A [(h0, .inr (0, [.long 1, .ref wk, .ref cs])), (wk, .inl (G 5, 11, .inr (.inr (.inr (.inr (fun i => if i < 11 then some (rw i) else none)))))), ((rw 0), .inl (G 1, 70, .inr (.inl (vp_updL g j 1)))), (wy, .inr (9, [.int 0, .int 0, .int 5, .ref a1, .ref a2, .ref a3, .ref a4, .ref a5, .ref a6]))] := hD
          refine lv_iinc (v := nI (j + 1)) (lv' := [(3, .int (nI (j + 1))), (0, .ref h0), (1, .ref wy), (2, .int (-4))]) hx hb dX0_plan_36 hl (k := 0) rfl (by rw [show Int32.ofInt 1 = nI 1 from by decide]; exact nI_add _ _) (by decide) rfl (fun ls hl => ?_)
          refine lv_goto (tgt := 7) hx hb dX0_plan_39 (by decide) ?_
          exact ih7 ((j + 1)) (by omega) (by omega) (vp_updL g j 1) _ _ (fun h5 => if e5 : 5 = j then (by subst e5; first | rfl | (exfalso; omega)) else (pk_uLn e5).trans (hinv (by omega))) hP hD hS ls (lv_sub hl [0, 1, 2, 3] rfl)
  exact loop7 (70 + 1) 0 (by omega) (by omega) f _ _ (fun h => absurd h (by omega)) hP hD hS ls (lv_sub hl [0, 1, 2, 3] rfl)

set_option maxHeartbeats 4000000 in
set_option maxRecDepth 100000 in
theorem c_X0_wakingAtFirst (l : Launch) (dC : Nat → ClassId) (dI : Nat → Nat → Nat) (G : Nat → ClassId) (sz : Nat) (h0 wk cs wy a1 a2 a3 a4 a5 a6 : Nat) (rw : Nat → Nat) (f : Nat → Int64)  : Met l yX0_wakingAtFirst (Cond.code yX0_wakingAtFirst cX0_wakingAtFirst 2 (some .long) :: GT) ({ frames := 1, cells := 0, slots := 0, locals := 21 } : Room) (PcR [.ref h0, .ref wy] dC dI G [(h0, .inr (0, [.long 1, .ref wk, .ref cs])), (wk, .inl (G 5, 11, .inr (.inr (.inr (.inr (fun i => if i < 11 then some (rw i) else none)))))), ((rw 0), .inl (G 1, 70, .inr (.inl f))), (wy, .inr (9, [.int 0, .int 0, .int 5, .ref a1, .ref a2, .ref a3, .ref a4, .ref a5, .ref a6]))] sz) (va_Ql (fun (r : Int64) (u : Unit) => match u with | _ => (r = f 5) ∧ True) (fun _ _ => True) (fun q : Nat => sz ≤ q)) 0 0 (fun q : Nat => sz ≤ q) := by
  refine Met.ofW (cc := cX0_wakingAtFirst) (maxL := 2) (ret := (some .long)) (by decide) rfl ?_
  intro p e s m args below meth c s₁ B hml hv
  obtain ⟨rfl, hsz, hP, hK⟩ := hv
  have hx := B.exec
  have hb := B.bytes
  have hr := B.returns
  have hg : ∀ w ∈ GT, w.before ([.ref h0, .ref wy] : List Value).toArray s = true := fun w h => atoms_spec (ws := Cond.code yX0_wakingAtFirst cX0_wakingAtFirst 2 (some .long) :: GT) B.pre w (List.mem_cons_of_mem _ h)
  have hown : s.vm.findClass RX0 = some m.cls := findClass_of_methodNamed B.named
  have hlocks := B.notSynchronized
  subst hsz
  have hA : ∀ q : Nat, s.heap.size ≤ q → (fun q : Nat => s.heap.size ≤ q) q := fun _ h => h
  have hS : va_S (fun q : Nat => s.heap.size ≤ q) s.heap s.heap [] := va_S.rf
  have hl := lv_entry ([.ref h0, .ref wy]) (n := 2) (Nat.le_of_ble_eq_true rfl)
  rw [lg_entry_eq]
  generalize (lg_sl ([.ref h0, .ref wy]) ++ List.replicate (2 - (lg_sl ([.ref h0, .ref wy])).length) Slot.unset).toArray = ls at hl ⊢
  have hl : lv_has ls 2 [(0, .ref h0), (1, .ref wy)] := hl
  refine lv_aload_n hx hb dX0_wakingAtFirst_0 rfl (lv_at hl 0 rfl) ?_
  refine va_get (D := (dC, dI)) (ci := 0) (v := .ref wk) (C := RX0) (T := TX0) (N := 3) hx hb hg inG0 hown hK.1 hP 0 rfl rfl 1 (by decide) (hg _ wt_182) (fun _ h9 => h9) rfl dX0_wakingAtFirst_1 ?_
  refine lv_iconst (v := 0) hx hb dX0_wakingAtFirst_4 (by decide) ?_
  refine va_aldA hx hb hK.1 hP 1 5 rfl rfl (vp_in_iff.mpr ⟨by decide, by decide⟩) dX0_wakingAtFirst_5 ?_
  refine lv_cgv (y := .ref (rw 0)) (by rfl) ?_
  refine lv_bipush (v := (-4)) hx hb dX0_wakingAtFirst_6 (by decide) ?_
  refine lv_aload_n hx hb dX0_wakingAtFirst_8 rfl (lv_at hl 1 rfl) ?_
  refine va_getN (D := (dC, dI)) (ci := 9) (v := .int 5) (C := RX9) (T := TX9) (N := 9) hx hb hg inG9 hown hK.1 hP 3 rfl rfl 2 (by decide) (hK.nest wn_70) (fun _ h9 => h9) rfl dX0_wakingAtFirst_9 ?_
  have hPc := hP.sub (ws' := []) [] rfl
  refine va_calli (va_runS (As := [.int (-4), .int 5]) (rest := [.ref (rw 0)]) ⟨hx, hb, hml, hown, hg⟩ (c_X0_slot l dC dI G _  ) (kwS hg mfX0_slot wt_666 ⟨Nat.le_of_ble_eq_true rfl, Nat.le_of_ble_eq_true rfl⟩) (preSR hK hPc) rfl rfl hl.1 rfl (lv_room (Nat.le_of_ble_eq_true rfl)) dX0_wakingAtFirst_12 ⟨Nat.le_of_ble_eq_true rfl, Nat.le_of_ble_eq_true rfl⟩) hS (fun q h1 h2 => absurd h2 (Nat.not_le.mpr h1)) (fun q h => hA q (Nat.le_trans hS.1 h)) (fun r1 ur1 t H1 locs ht hvm w2 hB hz1 hk1 hS => ?_)
  have hP := keepR hP hk1
  obtain ⟨w2, w2x⟩ := w2
  subst w2
  refine va_lald hx hb hK.1 hP 2 1 rfl rfl (vp_in_iff.mpr ⟨by decide, by decide⟩) dX0_wakingAtFirst_15 ?_
  refine lv_cgl (y := f 5) (by rfl) ?_
  have hpost : (f 5 : Int64) = f 5 := by
    first | rfl | ((repeat' split) <;> first | rfl | omega)
  refine W.widen (k := 0) (n := 0) (by omega) (by omega) ?_
  exact W.lret (v := f 5) hx hb hr (fun t ht hW => ⟨⟨f 5, (), rfl, ⟨hpost, trivial⟩, trivial⟩, hS.F ht⟩) hS.2.2 dX0_wakingAtFirst_16

set_option maxHeartbeats 4000000 in
set_option maxRecDepth 100000 in
theorem c_X1_cross (l : Launch) (dC : Nat → ClassId) (dI : Nat → Nat → Nat) (G : Nat → ClassId) (sz : Nat) (h0 wy a1 a2 a3 a4 a5 a6 : Nat) (x1 x2 x3 seed : Int32)  : Met l yX1_cross (Cond.code yX1_cross cX1_cross 5 none :: GT) ({ frames := 0, cells := 0, slots := 0, locals := 0 } : Room) (PcW [.ref h0, .ref wy, .int seed] dC dI G [(h0, .inr (1, [.int x1, .int x2, .int x3])), (wy, .inr (9, [.int 0, .int 0, .int 5, .ref a1, .ref a2, .ref a3, .ref a4, .ref a5, .ref a6]))] sz) (va_Qv (fun (u : Unit) => match u with | _ => True) (fun (u : Unit) (t : State) => match u with | _ => va_P (dC, dI) vwCl [(h0, .inr (1, [.int 5, .int 0, .int (-4)])), (wy, .inr (9, [.int 0, .int 0, .int 5, .ref a1, .ref a2, .ref a3, .ref a4, .ref a5, .ref a6]))] t.heap ∧ va_D (va_A [(h0, .inr (1, [.int x1, .int x2, .int x3])), (wy, .inr (9, [.int 0, .int 0, .int 5, .ref a1, .ref a2, .ref a3, .ref a4, .ref a5, .ref a6]))] sz) [(h0, .inr (1, [.int 5, .int 0, .int (-4)])), (wy, .inr (9, [.int 0, .int 0, .int 5, .ref a1, .ref a2, .ref a3, .ref a4, .ref a5, .ref a6]))]) (va_A [(h0, .inr (1, [.int x1, .int x2, .int x3])), (wy, .inr (9, [.int 0, .int 0, .int 5, .ref a1, .ref a2, .ref a3, .ref a4, .ref a5, .ref a6]))] sz)) 0 0 (va_A [(h0, .inr (1, [.int x1, .int x2, .int x3])), (wy, .inr (9, [.int 0, .int 0, .int 5, .ref a1, .ref a2, .ref a3, .ref a4, .ref a5, .ref a6]))] sz) := by
  refine Met.ofW (cc := cX1_cross) (maxL := 5) (ret := none) (by decide) rfl ?_
  intro p e s m args below meth c s₁ B hml hv
  obtain ⟨rfl, hsz, hP, hK, hD0⟩ := hv
  have hx := B.exec
  have hb := B.bytes
  have hr := B.returns
  have hg : ∀ w ∈ GT, w.before ([.ref h0, .ref wy, .int seed] : List Value).toArray s = true := fun w h => atoms_spec (ws := Cond.code yX1_cross cX1_cross 5 none :: GT) B.pre w (List.mem_cons_of_mem _ h)
  have hown : s.vm.findClass RX1 = some m.cls := findClass_of_methodNamed B.named
  have hlocks := B.notSynchronized
  subst hsz
  have hD := hD0.self (sz := s.heap.size)
  generalize hAe : va_A [(h0, .inr (1, [.int x1, .int x2, .int x3])), (wy, .inr (9, [.int 0, .int 0, .int 5, .ref a1, .ref a2, .ref a3, .ref a4, .ref a5, .ref a6]))] s.heap.size = A at hD ⊢
  have hA : ∀ q : Nat, s.heap.size ≤ q → A q := fun q h => by rw [← hAe]; exact Or.inr h
  have hS : va_S A s.heap s.heap [] := va_S.rf
  have hl := lv_entry ([.ref h0, .ref wy, .int seed]) (n := 5) (Nat.le_of_ble_eq_true rfl)
  rw [lg_entry_eq]
  generalize (lg_sl ([.ref h0, .ref wy, .int seed]) ++ List.replicate (5 - (lg_sl ([.ref h0, .ref wy, .int seed])).length) Slot.unset).toArray = ls at hl ⊢
  have hl : lv_has ls 5 [(0, .ref h0), (1, .ref wy), (2, .int seed)] := hl
  refine lv_aload_n hx hb dX1_cross_0 rfl (lv_at hl 0 rfl) ?_
  refine lv_aload_n hx hb dX1_cross_1 rfl (lv_at hl 1 rfl) ?_
  refine va_getN (D := (dC, dI)) (ci := 9) (v := .int 5) (C := RX9) (T := TX9) (N := 9) hx hb hg inG9 hown hK.1 hP 1 rfl rfl 2 (by decide) (hK.nest wn_68) (fun _ h9 => h9) rfl dX1_cross_2 ?_
  refine va_put (D := (dC, dI)) (ci := 1) (v := .int 5) (ty := .int) (C := RX1) (T := TX1) (N := 3) hx hb hg inG1 tyX1 tyX1_ok nmX1 hown hK.1 hP hD hS 0 rfl rfl 0 (by decide) (hg _ wt_198) (fun _ h9 => h9) rfl (by decide +kernel) rfl rfl (Nat.le_of_ble_eq_true rfl) dX1_cross_5 (fun H locs hP hD hS => ?_)
  have hP : va_P (dC, dI) vwCl [(h0, .inr (1, [.int 5, .int x2, .int x3])), (wy, .inr (9, [.int 0, .int 0, .int 5, .ref a1, .ref a2, .ref a3, .ref a4, .ref a5, .ref a6]))] H := hP
  have hD : va_D A [(h0, .inr (1, [.int 5, .int x2, .int x3])), (wy, .inr (9, [.int 0, .int 0, .int 5, .ref a1, .ref a2, .ref a3, .ref a4, .ref a5, .ref a6]))] := hD
  refine lv_aload_n hx hb dX1_cross_8 rfl (lv_at hl 0 rfl) ?_
  refine lv_iconst (v := 0) hx hb dX1_cross_9 (by decide) ?_
  refine va_put (D := (dC, dI)) (ci := 1) (v := .int 0) (ty := .int) (C := RX1) (T := TX1) (N := 3) hx hb hg inG1 tyX1 tyX1_ok nmX1 hown hK.1 hP hD hS 0 rfl rfl 1 (by decide) (hg _ wt_200) (fun _ h9 => h9) rfl (by decide +kernel) rfl rfl (Nat.le_of_ble_eq_true rfl) dX1_cross_10 (fun H locs hP hD hS => ?_)
  have hP : va_P (dC, dI) vwCl [(h0, .inr (1, [.int 5, .int 0, .int x3])), (wy, .inr (9, [.int 0, .int 0, .int 5, .ref a1, .ref a2, .ref a3, .ref a4, .ref a5, .ref a6]))] H := hP
  have hD : va_D A [(h0, .inr (1, [.int 5, .int 0, .int x3])), (wy, .inr (9, [.int 0, .int 0, .int 5, .ref a1, .ref a2, .ref a3, .ref a4, .ref a5, .ref a6]))] := hD
  refine lv_aload_n hx hb dX1_cross_13 rfl (lv_at hl 0 rfl) ?_
  refine lv_bipush (v := (-4)) hx hb dX1_cross_14 (by decide) ?_
  refine va_put (D := (dC, dI)) (ci := 1) (v := .int (-4)) (ty := .int) (C := RX1) (T := TX1) (N := 3) hx hb hg inG1 tyX1 tyX1_ok nmX1 hown hK.1 hP hD hS 0 rfl rfl 2 (by decide) (hg _ wt_202) (fun _ h9 => h9) rfl (by decide +kernel) rfl rfl (Nat.le_of_ble_eq_true rfl) dX1_cross_16 (fun H locs hP hD hS => ?_)
  have hP : va_P (dC, dI) vwCl [(h0, .inr (1, [.int 5, .int 0, .int (-4)])), (wy, .inr (9, [.int 0, .int 0, .int 5, .ref a1, .ref a2, .ref a3, .ref a4, .ref a5, .ref a6]))] H := hP
  have hD : va_D A [(h0, .inr (1, [.int 5, .int 0, .int (-4)])), (wy, .inr (9, [.int 0, .int 0, .int 5, .ref a1, .ref a2, .ref a3, .ref a4, .ref a5, .ref a6]))] := hD
  refine lv_iload_n hx hb dX1_cross_19 rfl (lv_at hl 2 rfl) ?_
  refine lv_istore_n (lv' := [(3, .int seed), (0, .ref h0), (1, .ref wy), (2, .int seed)]) hx hb dX1_cross_20 rfl hl (by decide) rfl (fun ls hl => ?_)
  refine lv_iconst (v := 0) hx hb dX1_cross_21 (by decide) ?_
  refine lv_istore (lv' := [(4, .int 0), (3, .int seed), (0, .ref h0), (1, .ref wy), (2, .int seed)]) hx hb dX1_cross_22 hl (by decide) rfl (fun ls hl => ?_)
  refine lv_iload hx hb dX1_cross_24 (lv_at hl 0 rfl) ?_
  refine lv_aload_n hx hb dX1_cross_26 rfl (lv_at hl 3 rfl) ?_
  refine va_getN (D := (dC, dI)) (ci := 9) (v := .int 0) (C := RX9) (T := TX9) (N := 9) hx hb hg inG9 hown hK.1 hP 1 rfl rfl 0 (by decide) (hK.nest wn_57) (fun _ h9 => h9) rfl dX1_cross_27 ?_
  refine lv_icmp_ge (tgt := 126) hx hb dX1_cross_30 (by decide) (fun c1 => ?_) (fun c1 => ?_)
  · skip
    have hP9 := hP.sub (ws' := [(h0, .inr (1, [.int 5, .int 0, .int (-4)])), (wy, .inr (9, [.int 0, .int 0, .int 5, .ref a1, .ref a2, .ref a3, .ref a4, .ref a5, .ref a6]))]) [0, 1] rfl
    have hD9 := hD.sub (ws' := [(h0, .inr (1, [.int 5, .int 0, .int (-4)])), (wy, .inr (9, [.int 0, .int 0, .int 5, .ref a1, .ref a2, .ref a3, .ref a4, .ref a5, .ref a6]))]) [0, 1] (by decide) rfl
    refine W.widen (k := 0) (n := 0) (by omega) (by omega) ?_
    exact W.vret hx hb hr (fun t ht hW => ⟨⟨(), rfl, trivial, ⟨by rw [ht]; exact hP9, hD9⟩⟩, hS.F ht⟩) hS.2.2 dX1_cross_126
  · skip
    exact absurd c1 (by decide)

set_option maxHeartbeats 4000000 in
set_option maxRecDepth 100000 in
theorem c_X8_explore (l : Launch) (dC : Nat → ClassId) (dI : Nat → Nat → Nat) (G : Nat → ClassId) (sz : Nat) (h0 ti to wy mk a1 a2 a3 a4 a5 a6 : Nat) (ri ro : Nat → Nat) (tt : Int32) (fi fo : Nat → Int32)  : Met l yX8_explore (Cond.code yX8_explore cX8_explore 4 none :: GT) ({ frames := 0, cells := 0, slots := 0, locals := 0 } : Room) (PcW [.ref h0, .ref wy, .ref mk] dC dI G [(h0, .inr (8, [.int tt, .ref ti, .ref to])), (ti, .inl (G 4, 11, .inr (.inr (.inr (.inr (fun i => if i < 11 then some (ri i) else none)))))), ((ri 0), .inl (G 0, 10, .inl fi)), (to, .inl (G 4, 11, .inr (.inr (.inr (.inr (fun i => if i < 11 then some (ro i) else none)))))), ((ro 0), .inl (G 0, 10, .inl fo)), (wy, .inr (9, [.int 0, .int 0, .int 5, .ref a1, .ref a2, .ref a3, .ref a4, .ref a5, .ref a6]))] sz) (va_Qv (fun (u : Unit) => match u with | _ => True) (fun (u : Unit) (t : State) => match u with | _ => va_P (dC, dI) vwCl [(h0, .inr (8, [.int 1, .ref ti, .ref to])), (wy, .inr (9, [.int 0, .int 0, .int 5, .ref a1, .ref a2, .ref a3, .ref a4, .ref a5, .ref a6]))] t.heap ∧ va_D (va_A [(h0, .inr (8, [.int tt, .ref ti, .ref to])), (ti, .inl (G 4, 11, .inr (.inr (.inr (.inr (fun i => if i < 11 then some (ri i) else none)))))), ((ri 0), .inl (G 0, 10, .inl fi)), (to, .inl (G 4, 11, .inr (.inr (.inr (.inr (fun i => if i < 11 then some (ro i) else none)))))), ((ro 0), .inl (G 0, 10, .inl fo)), (wy, .inr (9, [.int 0, .int 0, .int 5, .ref a1, .ref a2, .ref a3, .ref a4, .ref a5, .ref a6]))] sz) [(h0, .inr (8, [.int 1, .ref ti, .ref to])), (wy, .inr (9, [.int 0, .int 0, .int 5, .ref a1, .ref a2, .ref a3, .ref a4, .ref a5, .ref a6]))]) (va_A [(h0, .inr (8, [.int tt, .ref ti, .ref to])), (ti, .inl (G 4, 11, .inr (.inr (.inr (.inr (fun i => if i < 11 then some (ri i) else none)))))), ((ri 0), .inl (G 0, 10, .inl fi)), (to, .inl (G 4, 11, .inr (.inr (.inr (.inr (fun i => if i < 11 then some (ro i) else none)))))), ((ro 0), .inl (G 0, 10, .inl fo)), (wy, .inr (9, [.int 0, .int 0, .int 5, .ref a1, .ref a2, .ref a3, .ref a4, .ref a5, .ref a6]))] sz)) 0 0 (va_A [(h0, .inr (8, [.int tt, .ref ti, .ref to])), (ti, .inl (G 4, 11, .inr (.inr (.inr (.inr (fun i => if i < 11 then some (ri i) else none)))))), ((ri 0), .inl (G 0, 10, .inl fi)), (to, .inl (G 4, 11, .inr (.inr (.inr (.inr (fun i => if i < 11 then some (ro i) else none)))))), ((ro 0), .inl (G 0, 10, .inl fo)), (wy, .inr (9, [.int 0, .int 0, .int 5, .ref a1, .ref a2, .ref a3, .ref a4, .ref a5, .ref a6]))] sz) := by
  refine Met.ofW (cc := cX8_explore) (maxL := 4) (ret := none) (by decide) rfl ?_
  intro p e s m args below meth c s₁ B hml hv
  obtain ⟨rfl, hsz, hP, hK, hD0⟩ := hv
  have hx := B.exec
  have hb := B.bytes
  have hr := B.returns
  have hg : ∀ w ∈ GT, w.before ([.ref h0, .ref wy, .ref mk] : List Value).toArray s = true := fun w h => atoms_spec (ws := Cond.code yX8_explore cX8_explore 4 none :: GT) B.pre w (List.mem_cons_of_mem _ h)
  have hown : s.vm.findClass RX8 = some m.cls := findClass_of_methodNamed B.named
  have hlocks := B.notSynchronized
  subst hsz
  have hD := hD0.self (sz := s.heap.size)
  generalize hAe : va_A [(h0, .inr (8, [.int tt, .ref ti, .ref to])), (ti, .inl (G 4, 11, .inr (.inr (.inr (.inr (fun i => if i < 11 then some (ri i) else none)))))), ((ri 0), .inl (G 0, 10, .inl fi)), (to, .inl (G 4, 11, .inr (.inr (.inr (.inr (fun i => if i < 11 then some (ro i) else none)))))), ((ro 0), .inl (G 0, 10, .inl fo)), (wy, .inr (9, [.int 0, .int 0, .int 5, .ref a1, .ref a2, .ref a3, .ref a4, .ref a5, .ref a6]))] s.heap.size = A at hD ⊢
  have hA : ∀ q : Nat, s.heap.size ≤ q → A q := fun q h => by rw [← hAe]; exact Or.inr h
  have hS : va_S A s.heap s.heap [] := va_S.rf
  have hl := lv_entry ([.ref h0, .ref wy, .ref mk]) (n := 4) (Nat.le_of_ble_eq_true rfl)
  rw [lg_entry_eq]
  generalize (lg_sl ([.ref h0, .ref wy, .ref mk]) ++ List.replicate (4 - (lg_sl ([.ref h0, .ref wy, .ref mk])).length) Slot.unset).toArray = ls at hl ⊢
  have hl : lv_has ls 4 [(0, .ref h0), (1, .ref wy), (2, .ref mk)] := hl
  refine lv_iconst (v := 0) hx hb dX8_explore_0 (by decide) ?_
  refine lv_istore_n (lv' := [(3, .int 0), (0, .ref h0), (1, .ref wy), (2, .ref mk)]) hx hb dX8_explore_1 rfl hl (by decide) rfl (fun ls hl => ?_)
  have loop2 : ∀ (nf j : Nat), 10 + 1 ≤ j + nf → j ≤ 10 → ∀ (g : Nat → Int32) (g2 : Nat → Int32) (H : Heap) (locs : List Loc), (5 < j → g2 5 = 1) → va_P (dC, dI) vwCl [(h0, .inr (8, [.int tt, .ref ti, .ref to])), (ti, .inl (G 4, 11, .inr (.inr (.inr (.inr (fun i => if i < 11 then some (ri i) else none)))))), ((ri 0), .inl (G 0, 10, .inl g)), (to, .inl (G 4, 11, .inr (.inr (.inr (.inr (fun i => if i < 11 then some (ro i) else none)))))), ((ro 0), .inl (G 0, 10, .inl g2)), (wy, .inr (9, [.int 0, .int 0, .int 5, .ref a1, .ref a2, .ref a3, .ref a4, .ref a5, .ref a6]))] H → va_D A [(h0, .inr (8, [.int tt, .ref ti, .ref to])), (ti, .inl (G 4, 11, .inr (.inr (.inr (.inr (fun i => if i < 11 then some (ri i) else none)))))), ((ri 0), .inl (G 0, 10, .inl g)), (to, .inl (G 4, 11, .inr (.inr (.inr (.inr (fun i => if i < 11 then some (ro i) else none)))))), ((ro 0), .inl (G 0, 10, .inl g2)), (wy, .inr (9, [.int 0, .int 0, .int 5, .ref a1, .ref a2, .ref a3, .ref a4, .ref a5, .ref a6]))] → va_S A s.heap H locs → ∀ (ls : Array Slot), lv_has ls 4 [(3, .int (nI j)), (0, .ref h0), (1, .ref wy), (2, .ref mk)] → W p l e (headSpec (Cond.code yX8_explore cX8_explore 4 none :: GT) ({ frames := 0, cells := 0, slots := 0, locals := 0 } : Room)).room s m ([.ref h0, .ref wy, .ref mk] : List Value).toArray below meth c H locs 0 0 (MQ below (va_Qv (fun (u : Unit) => match u with | _ => True) (fun (u : Unit) (t : State) => match u with | _ => va_P (dC, dI) vwCl [(h0, .inr (8, [.int 1, .ref ti, .ref to])), (wy, .inr (9, [.int 0, .int 0, .int 5, .ref a1, .ref a2, .ref a3, .ref a4, .ref a5, .ref a6]))] t.heap ∧ va_D A [(h0, .inr (8, [.int 1, .ref ti, .ref to])), (wy, .inr (9, [.int 0, .int 0, .int 5, .ref a1, .ref a2, .ref a3, .ref a4, .ref a5, .ref a6]))]) A) ([.ref h0, .ref wy, .ref mk] : List Value).toArray s 0 0 A) (F0 m 2 ls []) := by
    intro nf
    induction nf with
    | zero => intro j h1 h2; exact absurd h1 (by omega)
    | succ nf ih2 =>
      intro j hn1 hj2 g g2 H locs hinv hP hD hS ls hl
      refine lv_iload_n hx hb dX8_explore_2 rfl (lv_at hl 0 rfl) ?_
      refine lv_bipush (v := 10) hx hb dX8_explore_3 (by decide) ?_
      refine lv_icmp_ge (tgt := 47) hx hb dX8_explore_5 (by decide) (fun c3 => ?_) (fun c3 => ?_)
      · skip
        have n4 : 10 ≤ j := by have t := leI c3; rw [nI_toInt (n := j) (by omega)] at t; have : (10 : Int32).toInt = 10 := (by decide); omega
        refine lv_iconst (v := 0) hx hb dX8_explore_47 (by decide) ?_
        refine lv_istore_n (lv' := [(3, .int 0), (0, .ref h0), (1, .ref wy), (2, .ref mk)]) hx hb dX8_explore_48 rfl hl (by decide) rfl (fun ls hl => ?_)
        refine lv_iload_n hx hb dX8_explore_49 rfl (lv_at hl 0 rfl) ?_
        refine lv_aload_n hx hb dX8_explore_50 rfl (lv_at hl 2 rfl) ?_
        refine va_getN (D := (dC, dI)) (ci := 9) (v := .int 0) (C := RX9) (T := TX9) (N := 9) hx hb hg inG9 hown hK.1 hP 5 rfl rfl 0 (by decide) (hK.nest wn_58) (fun _ h9 => h9) rfl dX8_explore_51 ?_
        refine lv_icmp_ge (tgt := 86) hx hb dX8_explore_54 (by decide) (fun c5 => ?_) (fun c5 => ?_)
        · skip
          refine lv_aload_n hx hb dX8_explore_86 rfl (lv_at hl 2 rfl) ?_
          refine va_getN (D := (dC, dI)) (ci := 9) (v := .int 0) (C := RX9) (T := TX9) (N := 9) hx hb hg inG9 hown hK.1 hP 5 rfl rfl 0 (by decide) (hK.nest wn_58) (fun _ h9 => h9) rfl dX8_explore_87 ?_
          refine lv_iconst (v := 1) hx hb dX8_explore_90 (by decide) ?_
          refine lv_isub hx hb dX8_explore_91 ?_
          refine lv_cg (y := (-1)) (by decide) ?_
          refine lv_istore_n (lv' := [(3, .int (-1)), (0, .ref h0), (1, .ref wy), (2, .ref mk)]) hx hb dX8_explore_92 rfl hl (by decide) rfl (fun ls hl => ?_)
          refine lv_iload_n hx hb dX8_explore_93 rfl (lv_at hl 0 rfl) ?_
          refine lv_if_lt (tgt := 126) hx hb dX8_explore_94 (by decide) (fun c6 => ?_) (fun c6 => ?_)
          · skip
            refine lv_aload_n hx hb dX8_explore_126 rfl (lv_at hl 1 rfl) ?_
            refine lv_aload_n hx hb dX8_explore_127 rfl (lv_at hl 1 rfl) ?_
            refine va_get (D := (dC, dI)) (ci := 8) (v := .ref to) (C := RX8) (T := TX8) (N := 3) hx hb hg inG8 hown hK.1 hP 0 rfl rfl 2 (by decide) (hg _ wt_261) (fun _ h9 => h9) rfl dX8_explore_128 ?_
            refine lv_iconst (v := 0) hx hb dX8_explore_131 (by decide) ?_
            refine va_aldA hx hb hK.1 hP 3 4 rfl rfl (vp_in_iff.mpr ⟨by decide, by decide⟩) dX8_explore_132 ?_
            refine lv_cgv (y := .ref (ro 0)) (by rfl) ?_
            refine lv_aload_n hx hb dX8_explore_133 rfl (lv_at hl 2 rfl) ?_
            refine va_getN (D := (dC, dI)) (ci := 9) (v := .int 5) (C := RX9) (T := TX9) (N := 9) hx hb hg inG9 hown hK.1 hP 5 rfl rfl 2 (by decide) (hK.nest wn_69) (fun _ h9 => h9) rfl dX8_explore_134 ?_
            refine va_iald hx hb hK.1 hP 4 0 rfl rfl (vp_in_iff.mpr ⟨by decide, by decide⟩) dX8_explore_137 ?_
            refine lv_cg (y := g2 5) (by rfl) ?_
            refine lv_cg (y := 1) (hinv (by omega)) ?_
            refine va_put (D := (dC, dI)) (ci := 8) (v := .int 1) (ty := .int) (C := RX8) (T := TX8) (N := 3) hx hb hg inG8 tyX8 tyX8_ok nmX8 hown hK.1 hP hD hS 0 rfl rfl 0 (by decide) (hg _ wt_258) (fun _ h9 => h9) rfl (by decide +kernel) rfl rfl (Nat.le_of_ble_eq_true rfl) dX8_explore_138 (fun H locs hP hD hS => ?_)
            have hP : va_P (dC, dI) vwCl [(h0, .inr (8, [.int 1, .ref ti, .ref to])), (ti, .inl (G 4, 11, .inr (.inr (.inr (.inr (fun i => if i < 11 then some (ri i) else none)))))), ((ri 0), .inl (G 0, 10, .inl g)), (to, .inl (G 4, 11, .inr (.inr (.inr (.inr (fun i => if i < 11 then some (ro i) else none)))))), ((ro 0), .inl (G 0, 10, .inl g2)), (wy, .inr (9, [.int 0, .int 0, .int 5, .ref a1, .ref a2, .ref a3, .ref a4, .ref a5, .ref a6]))] H := hP
            have hD : va_D A [(h0, .inr (8, [.int 1, .ref ti, .ref to])), (ti, .inl (G 4, 11, .inr (.inr (.inr (.inr (fun i => if i < 11 then some (ri i) else none)))))), ((ri 0), .inl (G 0, 10, .inl g)), (to, .inl (G 4, 11, .inr (.inr (.inr (.inr (fun i => if i < 11 then some (ro i) else none)))))), ((ro 0), .inl (G 0, 10, .inl g2)), (wy, .inr (9, [.int 0, .int 0, .int 5, .ref a1, .ref a2, .ref a3, .ref a4, .ref a5, .ref a6]))] := hD
            have hP9 := hP.sub (ws' := [(h0, .inr (8, [.int 1, .ref ti, .ref to])), (wy, .inr (9, [.int 0, .int 0, .int 5, .ref a1, .ref a2, .ref a3, .ref a4, .ref a5, .ref a6]))]) [0, 5] rfl
            have hD9 := hD.sub (ws' := [(h0, .inr (8, [.int 1, .ref ti, .ref to])), (wy, .inr (9, [.int 0, .int 0, .int 5, .ref a1, .ref a2, .ref a3, .ref a4, .ref a5, .ref a6]))]) [0, 5] (by decide) rfl
            refine W.widen (k := 0) (n := 0) (by omega) (by omega) ?_
            exact W.vret hx hb hr (fun t ht hW => ⟨⟨(), rfl, trivial, ⟨by rw [ht]; exact hP9, hD9⟩⟩, hS.F ht⟩) hS.2.2 dX8_explore_141
          · skip
            exact absurd c6 (by decide)
        · skip
          exact absurd c5 (by decide)
      · skip
        have n7 : j < 10 := by have t := nleI c3; rw [nI_toInt (n := j) (by omega)] at t; have : (10 : Int32).toInt = 10 := (by decide); omega
        refine lv_aload_n hx hb dX8_explore_8 rfl (lv_at hl 1 rfl) ?_
        refine va_get (D := (dC, dI)) (ci := 8) (v := .ref ti) (C := RX8) (T := TX8) (N := 3) hx hb hg inG8 hown hK.1 hP 0 rfl rfl 1 (by decide) (hg _ wt_260) (fun _ h9 => h9) rfl dX8_explore_9 ?_
        refine lv_iconst (v := 0) hx hb dX8_explore_12 (by decide) ?_
        refine va_aldA hx hb hK.1 hP 1 4 rfl rfl (vp_in_iff.mpr ⟨by decide, by decide⟩) dX8_explore_13 ?_
        refine lv_cgv (y := .ref (ri 0)) (by rfl) ?_
        refine lv_iload_n hx hb dX8_explore_14 rfl (lv_at hl 0 rfl) ?_
        refine lv_iload_n hx hb dX8_explore_15 rfl (lv_at hl 0 rfl) ?_
        refine lv_aload_n hx hb dX8_explore_16 rfl (lv_at hl 2 rfl) ?_
        refine va_getN (D := (dC, dI)) (ci := 9) (v := .int 5) (C := RX9) (T := TX9) (N := 9) hx hb hg inG9 hown hK.1 hP 5 rfl rfl 2 (by decide) (hK.nest wn_69) (fun _ h9 => h9) rfl dX8_explore_17 ?_
        refine lv_icmp_ne (tgt := 27) hx hb dX8_explore_20 (by decide) (fun c8 => ?_) (fun c8 => ?_)
        · skip
          have n9 : j ≠ 5 := by have t := neI c8; rw [nI_toInt (n := j) (by omega)] at t; have : (5 : Int32).toInt = 5 := (by decide); omega
          refine lv_iconst (v := 0) hx hb dX8_explore_27 (by decide) ?_
          refine va_iast hx hb hK.1 hP hD hS 2 0 rfl rfl (vp_in_nI (by omega) (by decide)) dX8_explore_28 (fun H locs hP hD hS => ?_)
          rw [nI_clamp (by omega)] at hP hD
          have hP : va_P (dC, dI) vwCl [(h0, .inr (8, [.int tt, .ref ti, .ref to])), (ti, .inl (G 4, 11, .inr (.inr (.inr (.inr (fun i => if i < 11 then some (ri i) else none)))))), ((ri 0), .inl (G 0, 10, .inl (upd g j 0))), (to, .inl (G 4, 11, .inr (.inr (.inr (.inr (fun i => if i < 11 then some (ro i) else none)))))), ((ro 0), .inl (G 0, 10, .inl g2)), (wy, .inr (9, [.int 0, .int 0, .int 5, .ref a1, .ref a2, .ref a3, .ref a4, .ref a5, .ref a6]))] H := hP
          have hD : va_D A [(h0, .inr (8, [.int tt, .ref ti, .ref to])), (ti, .inl (G 4, 11, .inr (.inr (.inr (.inr (fun i => if i < 11 then some (ri i) else none)))))), ((ri 0), .inl (G 0, 10, .inl (upd g j 0))), (to, .inl (G 4, 11, .inr (.inr (.inr (.inr (fun i => if i < 11 then some (ro i) else none)))))), ((ro 0), .inl (G 0, 10, .inl g2)), (wy, .inr (9, [.int 0, .int 0, .int 5, .ref a1, .ref a2, .ref a3, .ref a4, .ref a5, .ref a6]))] := hD
          refine lv_aload_n hx hb dX8_explore_29 rfl (lv_at hl 1 rfl) ?_
          refine va_get (D := (dC, dI)) (ci := 8) (v := .ref to) (C := RX8) (T := TX8) (N := 3) hx hb hg inG8 hown hK.1 hP 0 rfl rfl 2 (by decide) (hg _ wt_261) (fun _ h9 => h9) rfl dX8_explore_30 ?_
          refine lv_aload_n hx hb dX8_explore_33 rfl (lv_at hl 2 rfl) ?_
          refine va_getN (D := (dC, dI)) (ci := 9) (v := .int 0) (C := RX9) (T := TX9) (N := 9) hx hb hg inG9 hown hK.1 hP 5 rfl rfl 0 (by decide) (hK.nest wn_58) (fun _ h9 => h9) rfl dX8_explore_34 ?_
          refine va_aldA hx hb hK.1 hP 3 4 rfl rfl (vp_in_iff.mpr ⟨by decide, by decide⟩) dX8_explore_37 ?_
          refine lv_cgv (y := .ref (ro 0)) (by rfl) ?_
          refine lv_iload_n hx hb dX8_explore_38 rfl (lv_at hl 0 rfl) ?_
          refine lv_iconst (v := 1) hx hb dX8_explore_39 (by decide) ?_
          refine va_iast hx hb hK.1 hP hD hS 4 0 rfl rfl (vp_in_nI (by omega) (by decide)) dX8_explore_40 (fun H locs hP hD hS => ?_)
          rw [nI_clamp (by omega)] at hP hD
          have hP : va_P (dC, dI) vwCl [(h0, .inr (8, [.int tt, .ref ti, .ref to])), (ti, .inl (G 4, 11, .inr (.inr (.inr (.inr (fun i => if i < 11 then some (ri i) else none)))))), ((ri 0), .inl (G 0, 10, .inl (upd g j 0))), (to, .inl (G 4, 11, .inr (.inr (.inr (.inr (fun i => if i < 11 then some (ro i) else none)))))), ((ro 0), .inl (G 0, 10, .inl (upd g2 j 1))), (wy, .inr (9, [.int 0, .int 0, .int 5, .ref a1, .ref a2, .ref a3, .ref a4, .ref a5, .ref a6]))] H := hP
          have hD : va_D A [(h0, .inr (8, [.int tt, .ref ti, .ref to])), (ti, .inl (G 4, 11, .inr (.inr (.inr (.inr (fun i => if i < 11 then some (ri i) else none)))))), ((ri 0), .inl (G 0, 10, .inl (upd g j 0))), (to, .inl (G 4, 11, .inr (.inr (.inr (.inr (fun i => if i < 11 then some (ro i) else none)))))), ((ro 0), .inl (G 0, 10, .inl (upd g2 j 1))), (wy, .inr (9, [.int 0, .int 0, .int 5, .ref a1, .ref a2, .ref a3, .ref a4, .ref a5, .ref a6]))] := hD
          refine lv_iinc (v := nI (j + 1)) (lv' := [(3, .int (nI (j + 1))), (0, .ref h0), (1, .ref wy), (2, .ref mk)]) hx hb dX8_explore_41 hl (k := 0) rfl (by rw [show Int32.ofInt 1 = nI 1 from by decide]; exact nI_add _ _) (by decide) rfl (fun ls hl => ?_)
          refine lv_goto (tgt := 2) hx hb dX8_explore_44 (by decide) ?_
          exact ih2 ((j + 1)) (by omega) (by omega) (upd g j 0) (upd g2 j 1) _ _ (fun h5 => if e5 : 5 = j then (by subst e5; rfl) else (pk_un e5).trans (hinv (by omega))) hP hD hS ls (lv_sub hl [0, 1, 2, 3] rfl)
        · skip
          have n10 : j = 5 := by have t := eqI c8; rw [nI_toInt (n := j) (by omega)] at t; have : (5 : Int32).toInt = 5 := (by decide); omega
          refine lv_iconst (v := 1) hx hb dX8_explore_23 (by decide) ?_
          refine lv_goto (tgt := 28) hx hb dX8_explore_24 (by decide) ?_
          refine va_iast hx hb hK.1 hP hD hS 2 0 rfl rfl (vp_in_nI (by omega) (by decide)) dX8_explore_28 (fun H locs hP hD hS => ?_)
          rw [nI_clamp (by omega)] at hP hD
          have hP : va_P (dC, dI) vwCl [(h0, .inr (8, [.int tt, .ref ti, .ref to])), (ti, .inl (G 4, 11, .inr (.inr (.inr (.inr (fun i => if i < 11 then some (ri i) else none)))))), ((ri 0), .inl (G 0, 10, .inl (upd g j 1))), (to, .inl (G 4, 11, .inr (.inr (.inr (.inr (fun i => if i < 11 then some (ro i) else none)))))), ((ro 0), .inl (G 0, 10, .inl g2)), (wy, .inr (9, [.int 0, .int 0, .int 5, .ref a1, .ref a2, .ref a3, .ref a4, .ref a5, .ref a6]))] H := hP
          have hD : va_D A [(h0, .inr (8, [.int tt, .ref ti, .ref to])), (ti, .inl (G 4, 11, .inr (.inr (.inr (.inr (fun i => if i < 11 then some (ri i) else none)))))), ((ri 0), .inl (G 0, 10, .inl (upd g j 1))), (to, .inl (G 4, 11, .inr (.inr (.inr (.inr (fun i => if i < 11 then some (ro i) else none)))))), ((ro 0), .inl (G 0, 10, .inl g2)), (wy, .inr (9, [.int 0, .int 0, .int 5, .ref a1, .ref a2, .ref a3, .ref a4, .ref a5, .ref a6]))] := hD
          refine lv_aload_n hx hb dX8_explore_29 rfl (lv_at hl 1 rfl) ?_
          refine va_get (D := (dC, dI)) (ci := 8) (v := .ref to) (C := RX8) (T := TX8) (N := 3) hx hb hg inG8 hown hK.1 hP 0 rfl rfl 2 (by decide) (hg _ wt_261) (fun _ h9 => h9) rfl dX8_explore_30 ?_
          refine lv_aload_n hx hb dX8_explore_33 rfl (lv_at hl 2 rfl) ?_
          refine va_getN (D := (dC, dI)) (ci := 9) (v := .int 0) (C := RX9) (T := TX9) (N := 9) hx hb hg inG9 hown hK.1 hP 5 rfl rfl 0 (by decide) (hK.nest wn_58) (fun _ h9 => h9) rfl dX8_explore_34 ?_
          refine va_aldA hx hb hK.1 hP 3 4 rfl rfl (vp_in_iff.mpr ⟨by decide, by decide⟩) dX8_explore_37 ?_
          refine lv_cgv (y := .ref (ro 0)) (by rfl) ?_
          refine lv_iload_n hx hb dX8_explore_38 rfl (lv_at hl 0 rfl) ?_
          refine lv_iconst (v := 1) hx hb dX8_explore_39 (by decide) ?_
          refine va_iast hx hb hK.1 hP hD hS 4 0 rfl rfl (vp_in_nI (by omega) (by decide)) dX8_explore_40 (fun H locs hP hD hS => ?_)
          rw [nI_clamp (by omega)] at hP hD
          have hP : va_P (dC, dI) vwCl [(h0, .inr (8, [.int tt, .ref ti, .ref to])), (ti, .inl (G 4, 11, .inr (.inr (.inr (.inr (fun i => if i < 11 then some (ri i) else none)))))), ((ri 0), .inl (G 0, 10, .inl (upd g j 1))), (to, .inl (G 4, 11, .inr (.inr (.inr (.inr (fun i => if i < 11 then some (ro i) else none)))))), ((ro 0), .inl (G 0, 10, .inl (upd g2 j 1))), (wy, .inr (9, [.int 0, .int 0, .int 5, .ref a1, .ref a2, .ref a3, .ref a4, .ref a5, .ref a6]))] H := hP
          have hD : va_D A [(h0, .inr (8, [.int tt, .ref ti, .ref to])), (ti, .inl (G 4, 11, .inr (.inr (.inr (.inr (fun i => if i < 11 then some (ri i) else none)))))), ((ri 0), .inl (G 0, 10, .inl (upd g j 1))), (to, .inl (G 4, 11, .inr (.inr (.inr (.inr (fun i => if i < 11 then some (ro i) else none)))))), ((ro 0), .inl (G 0, 10, .inl (upd g2 j 1))), (wy, .inr (9, [.int 0, .int 0, .int 5, .ref a1, .ref a2, .ref a3, .ref a4, .ref a5, .ref a6]))] := hD
          refine lv_iinc (v := nI (j + 1)) (lv' := [(3, .int (nI (j + 1))), (0, .ref h0), (1, .ref wy), (2, .ref mk)]) hx hb dX8_explore_41 hl (k := 0) rfl (by rw [show Int32.ofInt 1 = nI 1 from by decide]; exact nI_add _ _) (by decide) rfl (fun ls hl => ?_)
          refine lv_goto (tgt := 2) hx hb dX8_explore_44 (by decide) ?_
          exact ih2 ((j + 1)) (by omega) (by omega) (upd g j 1) (upd g2 j 1) _ _ (fun h5 => if e5 : 5 = j then (by subst e5; rfl) else (pk_un e5).trans (hinv (by omega))) hP hD hS ls (lv_sub hl [0, 1, 2, 3] rfl)
  exact loop2 (10 + 1) 0 (by omega) (by omega) fi fo _ _ (fun h => absurd h (by omega)) hP hD hS ls (lv_sub hl [0, 1, 2, 3] rfl)

set_option maxHeartbeats 4000000 in
set_option maxRecDepth 100000 in
theorem c_X6_faultAt (l : Launch) (dC : Nat → ClassId) (dI : Nat → Nat → Nat) (G : Nat → ClassId) (sz : Nat) (h0 la si ce fi se : Nat) (x1 x2 k : Int32) (i : Int64) (hk0 : 0 ≤ k.toInt ∧ k.toInt < 4) : Met l yX6_faultAt (Cond.code yX6_faultAt cX6_faultAt 4 (some .int) :: GT) ({ frames := 0, cells := 0, slots := 0, locals := 0 } : Room) (PcR [.ref h0, .int k, .long i] dC dI G [(h0, .inr (6, [.ref la, .ref si, .ref ce, .int x1, .int x2, .ref fi, .ref se])), (la, .inl (G 0, 4, .inl (upd (upd (upd (upd (fun _ => 0) 0 (-1)) 1 (-1)) 2 (-1)) 3 (-1))))] sz) (va_Qi (fun (r : Int32) (u : Unit) => match u with | _ => (r = 1) ∧ True) (fun _ _ => True) (fun q : Nat => sz ≤ q)) 0 0 (fun q : Nat => sz ≤ q) := by
  refine Met.ofW (cc := cX6_faultAt) (maxL := 4) (ret := (some .int)) (by decide) rfl ?_
  intro p e s m args below meth c s₁ B hml hv
  obtain ⟨rfl, hsz, hP, hK⟩ := hv
  have hx := B.exec
  have hb := B.bytes
  have hr := B.returns
  have hg : ∀ w ∈ GT, w.before ([.ref h0, .int k, .long i] : List Value).toArray s = true := fun w h => atoms_spec (ws := Cond.code yX6_faultAt cX6_faultAt 4 (some .int) :: GT) B.pre w (List.mem_cons_of_mem _ h)
  have hown : s.vm.findClass RX6 = some m.cls := findClass_of_methodNamed B.named
  have hlocks := B.notSynchronized
  subst hsz
  have hA : ∀ q : Nat, s.heap.size ≤ q → (fun q : Nat => s.heap.size ≤ q) q := fun _ h => h
  have hS : va_S (fun q : Nat => s.heap.size ≤ q) s.heap s.heap [] := va_S.rf
  have hl := lv_entry ([.ref h0, .int k, .long i]) (n := 4) (Nat.le_of_ble_eq_true rfl)
  rw [lg_entry_eq]
  generalize (lg_sl ([.ref h0, .int k, .long i]) ++ List.replicate (4 - (lg_sl ([.ref h0, .int k, .long i])).length) Slot.unset).toArray = ls at hl ⊢
  have hl : lv_has ls 4 [(0, .ref h0), (1, .int k), (2, .long i)] := hl
  have hsp : k = 0 ∨ k = 1 ∨ k = 2 ∨ k = 3 := by
    have : (0 : Int32).toInt = 0 := by decide
    have : (1 : Int32).toInt = 1 := by decide
    have : (2 : Int32).toInt = 2 := by decide
    have : (3 : Int32).toInt = 3 := by decide
    rcases (show k.toInt = 0 ∨ k.toInt = 1 ∨ k.toInt = 2 ∨ k.toInt = 3 by omega) with q | q | q | q
    · exact Or.inl (Int32.toInt_inj.mp (by rw [q]; rfl))
    · exact Or.inr (Or.inl (Int32.toInt_inj.mp (by rw [q]; rfl)))
    · exact Or.inr (Or.inr (Or.inl (Int32.toInt_inj.mp (by rw [q]; rfl))))
    · exact Or.inr (Or.inr (Or.inr ((Int32.toInt_inj.mp (by rw [q]; rfl)))))
  rcases hsp with rfl | rfl | rfl | rfl
  · skip
    refine lv_aload_n hx hb dX6_faultAt_0 rfl (lv_at hl 0 rfl) ?_
    refine va_get (D := (dC, dI)) (ci := 6) (v := .ref la) (C := RX6) (T := TX6) (N := 7) hx hb hg inG6 hown hK.1 hP 0 rfl rfl 0 (by decide) (hg _ wt_276) (fun _ h9 => h9) rfl dX6_faultAt_1 ?_
    refine lv_iload_n hx hb dX6_faultAt_4 rfl (lv_at hl 1 rfl) ?_
    refine va_iald hx hb hK.1 hP 1 0 rfl rfl (vp_in_iff.mpr ⟨by decide, by decide⟩) dX6_faultAt_5 ?_
    refine lv_cg (y := (-1)) (by rfl) ?_
    refine lv_iconst (v := (-1)) hx hb dX6_faultAt_6 (by decide) ?_
    refine lv_icmp_ne (tgt := 12) hx hb dX6_faultAt_7 (by decide) (fun c1 => ?_) (fun c1 => ?_)
    · skip
      exact absurd c1 (by decide)
    · skip
      refine lv_iconst (v := 1) hx hb dX6_faultAt_10 (by decide) ?_
      have hpost : (1 : Int32) = 1 := by
        have t_c1 := eqI c1
        have : ((-1) : Int32).toInt = -1 := (by decide)
        first | rfl | ((repeat' split) <;> first | rfl | omega)
      refine W.widen (k := 0) (n := 0) (by omega) (by omega) ?_
      exact W.iret (v := 1) hx hb hr (fun t ht hW => ⟨⟨1, (), rfl, ⟨hpost, trivial⟩, trivial⟩, hS.F ht⟩) hS.2.2 dX6_faultAt_11
  · skip
    refine lv_aload_n hx hb dX6_faultAt_0 rfl (lv_at hl 0 rfl) ?_
    refine va_get (D := (dC, dI)) (ci := 6) (v := .ref la) (C := RX6) (T := TX6) (N := 7) hx hb hg inG6 hown hK.1 hP 0 rfl rfl 0 (by decide) (hg _ wt_276) (fun _ h9 => h9) rfl dX6_faultAt_1 ?_
    refine lv_iload_n hx hb dX6_faultAt_4 rfl (lv_at hl 1 rfl) ?_
    refine va_iald hx hb hK.1 hP 1 0 rfl rfl (vp_in_iff.mpr ⟨by decide, by decide⟩) dX6_faultAt_5 ?_
    refine lv_cg (y := (-1)) (by rfl) ?_
    refine lv_iconst (v := (-1)) hx hb dX6_faultAt_6 (by decide) ?_
    refine lv_icmp_ne (tgt := 12) hx hb dX6_faultAt_7 (by decide) (fun c2 => ?_) (fun c2 => ?_)
    · skip
      exact absurd c2 (by decide)
    · skip
      refine lv_iconst (v := 1) hx hb dX6_faultAt_10 (by decide) ?_
      have hpost : (1 : Int32) = 1 := by
        have t_c2 := eqI c2
        have : ((-1) : Int32).toInt = -1 := (by decide)
        first | rfl | ((repeat' split) <;> first | rfl | omega)
      refine W.widen (k := 0) (n := 0) (by omega) (by omega) ?_
      exact W.iret (v := 1) hx hb hr (fun t ht hW => ⟨⟨1, (), rfl, ⟨hpost, trivial⟩, trivial⟩, hS.F ht⟩) hS.2.2 dX6_faultAt_11
  · skip
    refine lv_aload_n hx hb dX6_faultAt_0 rfl (lv_at hl 0 rfl) ?_
    refine va_get (D := (dC, dI)) (ci := 6) (v := .ref la) (C := RX6) (T := TX6) (N := 7) hx hb hg inG6 hown hK.1 hP 0 rfl rfl 0 (by decide) (hg _ wt_276) (fun _ h9 => h9) rfl dX6_faultAt_1 ?_
    refine lv_iload_n hx hb dX6_faultAt_4 rfl (lv_at hl 1 rfl) ?_
    refine va_iald hx hb hK.1 hP 1 0 rfl rfl (vp_in_iff.mpr ⟨by decide, by decide⟩) dX6_faultAt_5 ?_
    refine lv_cg (y := (-1)) (by rfl) ?_
    refine lv_iconst (v := (-1)) hx hb dX6_faultAt_6 (by decide) ?_
    refine lv_icmp_ne (tgt := 12) hx hb dX6_faultAt_7 (by decide) (fun c3 => ?_) (fun c3 => ?_)
    · skip
      exact absurd c3 (by decide)
    · skip
      refine lv_iconst (v := 1) hx hb dX6_faultAt_10 (by decide) ?_
      have hpost : (1 : Int32) = 1 := by
        have t_c3 := eqI c3
        have : ((-1) : Int32).toInt = -1 := (by decide)
        first | rfl | ((repeat' split) <;> first | rfl | omega)
      refine W.widen (k := 0) (n := 0) (by omega) (by omega) ?_
      exact W.iret (v := 1) hx hb hr (fun t ht hW => ⟨⟨1, (), rfl, ⟨hpost, trivial⟩, trivial⟩, hS.F ht⟩) hS.2.2 dX6_faultAt_11
  · skip
    refine lv_aload_n hx hb dX6_faultAt_0 rfl (lv_at hl 0 rfl) ?_
    refine va_get (D := (dC, dI)) (ci := 6) (v := .ref la) (C := RX6) (T := TX6) (N := 7) hx hb hg inG6 hown hK.1 hP 0 rfl rfl 0 (by decide) (hg _ wt_276) (fun _ h9 => h9) rfl dX6_faultAt_1 ?_
    refine lv_iload_n hx hb dX6_faultAt_4 rfl (lv_at hl 1 rfl) ?_
    refine va_iald hx hb hK.1 hP 1 0 rfl rfl (vp_in_iff.mpr ⟨by decide, by decide⟩) dX6_faultAt_5 ?_
    refine lv_cg (y := (-1)) (by rfl) ?_
    refine lv_iconst (v := (-1)) hx hb dX6_faultAt_6 (by decide) ?_
    refine lv_icmp_ne (tgt := 12) hx hb dX6_faultAt_7 (by decide) (fun c4 => ?_) (fun c4 => ?_)
    · skip
      exact absurd c4 (by decide)
    · skip
      refine lv_iconst (v := 1) hx hb dX6_faultAt_10 (by decide) ?_
      have hpost : (1 : Int32) = 1 := by
        have t_c4 := eqI c4
        have : ((-1) : Int32).toInt = -1 := (by decide)
        first | rfl | ((repeat' split) <;> first | rfl | omega)
      refine W.widen (k := 0) (n := 0) (by omega) (by omega) ?_
      exact W.iret (v := 1) hx hb hr (fun t ht hW => ⟨⟨1, (), rfl, ⟨hpost, trivial⟩, trivial⟩, hS.F ht⟩) hS.2.2 dX6_faultAt_11

set_option maxHeartbeats 4000000 in
set_option maxRecDepth 100000 in
theorem c_X6_sizeOf (l : Launch) (dC : Nat → ClassId) (dI : Nat → Nat → Nat) (G : Nat → ClassId) (sz : Nat) (h0 la si ce fi se : Nat)  : Met l yX6_sizeOf (Cond.code yX6_sizeOf cX6_sizeOf 2 (some .int) :: GT) ({ frames := 0, cells := 0, slots := 0, locals := 0 } : Room) (PcR [.ref h0, .int 0] dC dI G [(h0, .inr (6, [.ref la, .ref si, .ref ce, .int 0, .int 0, .ref fi, .ref se])), (la, .inl (G 0, 4, .inl (upd (upd (upd (upd (fun _ => 0) 0 (-1)) 1 (-1)) 2 (-1)) 3 (-1))))] sz) (va_Qi (fun (r : Int32) (u : Unit) => match u with | _ => (r = -4) ∧ True) (fun _ _ => True) (fun q : Nat => sz ≤ q)) 0 0 (fun q : Nat => sz ≤ q) := by
  refine Met.ofW (cc := cX6_sizeOf) (maxL := 2) (ret := (some .int)) (by decide) rfl ?_
  intro p e s m args below meth c s₁ B hml hv
  obtain ⟨rfl, hsz, hP, hK⟩ := hv
  have hx := B.exec
  have hb := B.bytes
  have hr := B.returns
  have hg : ∀ w ∈ GT, w.before ([.ref h0, .int 0] : List Value).toArray s = true := fun w h => atoms_spec (ws := Cond.code yX6_sizeOf cX6_sizeOf 2 (some .int) :: GT) B.pre w (List.mem_cons_of_mem _ h)
  have hown : s.vm.findClass RX6 = some m.cls := findClass_of_methodNamed B.named
  have hlocks := B.notSynchronized
  subst hsz
  have hA : ∀ q : Nat, s.heap.size ≤ q → (fun q : Nat => s.heap.size ≤ q) q := fun _ h => h
  have hS : va_S (fun q : Nat => s.heap.size ≤ q) s.heap s.heap [] := va_S.rf
  have hl := lv_entry ([.ref h0, .int 0]) (n := 2) (Nat.le_of_ble_eq_true rfl)
  rw [lg_entry_eq]
  generalize (lg_sl ([.ref h0, .int 0]) ++ List.replicate (2 - (lg_sl ([.ref h0, .int 0])).length) Slot.unset).toArray = ls at hl ⊢
  have hl : lv_has ls 2 [(0, .ref h0), (1, .int 0)] := hl
  refine lv_aload_n hx hb dX6_sizeOf_0 rfl (lv_at hl 0 rfl) ?_
  refine va_get (D := (dC, dI)) (ci := 6) (v := .ref la) (C := RX6) (T := TX6) (N := 7) hx hb hg inG6 hown hK.1 hP 0 rfl rfl 0 (by decide) (hg _ wt_276) (fun _ h9 => h9) rfl dX6_sizeOf_1 ?_
  refine lv_iload_n hx hb dX6_sizeOf_4 rfl (lv_at hl 1 rfl) ?_
  refine va_iald hx hb hK.1 hP 1 0 rfl rfl (vp_in_iff.mpr ⟨by decide, by decide⟩) dX6_sizeOf_5 ?_
  refine lv_cg (y := (-1)) (by rfl) ?_
  refine lv_iconst (v := (-1)) hx hb dX6_sizeOf_6 (by decide) ?_
  refine lv_icmp_ne (tgt := 15) hx hb dX6_sizeOf_7 (by decide) (fun c1 => ?_) (fun c1 => ?_)
  · skip
    exact absurd c1 (by decide)
  · skip
    refine lv_bipush (v := (-4)) hx hb dX6_sizeOf_10 (by decide) ?_
    refine lv_goto (tgt := 21) hx hb dX6_sizeOf_12 (by decide) ?_
    have hpost : ((-4) : Int32) = -4 := by
      have t_c1 := eqI c1
      have : ((-1) : Int32).toInt = -1 := (by decide)
      first | rfl | ((repeat' split) <;> first | rfl | omega)
    refine W.widen (k := 0) (n := 0) (by omega) (by omega) ?_
    exact W.iret (v := (-4)) hx hb hr (fun t ht hW => ⟨⟨(-4), (), rfl, ⟨hpost, trivial⟩, trivial⟩, hS.F ht⟩) hS.2.2 dX6_sizeOf_21

set_option maxHeartbeats 4000000 in
set_option maxRecDepth 100000 in
theorem c_X6_renew (l : Launch) (dC : Nat → ClassId) (dI : Nat → Nat → Nat) (G : Nat → ClassId) (sz : Nat) (h0 la si ce fi se nn : Nat) (rc : Nat → Nat) (k lane : Int32) (hk0 : 0 ≤ k.toInt ∧ k.toInt < 4) (hn0 : nn ≤ 40) : Met l yX6_renew (Cond.code yX6_renew cX6_renew 5 none :: GT) ({ frames := 1, cells := 0, slots := 0, locals := 20 } : Room) (PcW [.ref h0, .int k, .int lane, .int (nI nn)] dC dI G [(h0, .inr (6, [.ref la, .ref si, .ref ce, .int 0, .int 0, .ref fi, .ref se])), (la, .inl (G 0, 4, .inl (upd (upd (upd (upd (fun _ => 0) 0 (-1)) 1 (-1)) 2 (-1)) 3 (-1)))), (si, .inl (G 0, 4, .inl (fun _ => 0))), (ce, .inl (G 4, 4, .inr (.inr (.inr (.inr (fun i => if i < 4 then some (rc i) else none)))))), ((rc 0), .inl (G 0, 40, .inl (fun _ => 0))), ((rc 1), .inl (G 0, 40, .inl (fun _ => 0))), ((rc 2), .inl (G 0, 40, .inl (fun _ => 0))), ((rc 3), .inl (G 0, 40, .inl (fun _ => 0)))] sz) (va_Qv (fun (u : Unit) => match u with | _ => True) (fun (u : Unit) (t : State) => match u with | _ => va_P (dC, dI) vwCl [] t.heap ∧ va_D (va_A [(h0, .inr (6, [.ref la, .ref si, .ref ce, .int 0, .int 0, .ref fi, .ref se])), (la, .inl (G 0, 4, .inl (upd (upd (upd (upd (fun _ => 0) 0 (-1)) 1 (-1)) 2 (-1)) 3 (-1)))), (si, .inl (G 0, 4, .inl (fun _ => 0))), (ce, .inl (G 4, 4, .inr (.inr (.inr (.inr (fun i => if i < 4 then some (rc i) else none)))))), ((rc 0), .inl (G 0, 40, .inl (fun _ => 0))), ((rc 1), .inl (G 0, 40, .inl (fun _ => 0))), ((rc 2), .inl (G 0, 40, .inl (fun _ => 0))), ((rc 3), .inl (G 0, 40, .inl (fun _ => 0)))] sz) []) (va_A [(h0, .inr (6, [.ref la, .ref si, .ref ce, .int 0, .int 0, .ref fi, .ref se])), (la, .inl (G 0, 4, .inl (upd (upd (upd (upd (fun _ => 0) 0 (-1)) 1 (-1)) 2 (-1)) 3 (-1)))), (si, .inl (G 0, 4, .inl (fun _ => 0))), (ce, .inl (G 4, 4, .inr (.inr (.inr (.inr (fun i => if i < 4 then some (rc i) else none)))))), ((rc 0), .inl (G 0, 40, .inl (fun _ => 0))), ((rc 1), .inl (G 0, 40, .inl (fun _ => 0))), ((rc 2), .inl (G 0, 40, .inl (fun _ => 0))), ((rc 3), .inl (G 0, 40, .inl (fun _ => 0)))] sz)) 0 0 (va_A [(h0, .inr (6, [.ref la, .ref si, .ref ce, .int 0, .int 0, .ref fi, .ref se])), (la, .inl (G 0, 4, .inl (upd (upd (upd (upd (fun _ => 0) 0 (-1)) 1 (-1)) 2 (-1)) 3 (-1)))), (si, .inl (G 0, 4, .inl (fun _ => 0))), (ce, .inl (G 4, 4, .inr (.inr (.inr (.inr (fun i => if i < 4 then some (rc i) else none)))))), ((rc 0), .inl (G 0, 40, .inl (fun _ => 0))), ((rc 1), .inl (G 0, 40, .inl (fun _ => 0))), ((rc 2), .inl (G 0, 40, .inl (fun _ => 0))), ((rc 3), .inl (G 0, 40, .inl (fun _ => 0)))] sz) := by
  refine Met.ofW (cc := cX6_renew) (maxL := 5) (ret := none) (by decide) rfl ?_
  intro p e s m args below meth c s₁ B hml hv
  obtain ⟨rfl, hsz, hP, hK, hD0⟩ := hv
  have hx := B.exec
  have hb := B.bytes
  have hr := B.returns
  have hg : ∀ w ∈ GT, w.before ([.ref h0, .int k, .int lane, .int (nI nn)] : List Value).toArray s = true := fun w h => atoms_spec (ws := Cond.code yX6_renew cX6_renew 5 none :: GT) B.pre w (List.mem_cons_of_mem _ h)
  have hown : s.vm.findClass RX6 = some m.cls := findClass_of_methodNamed B.named
  have hlocks := B.notSynchronized
  subst hsz
  have hD := hD0.self (sz := s.heap.size)
  generalize hAe : va_A [(h0, .inr (6, [.ref la, .ref si, .ref ce, .int 0, .int 0, .ref fi, .ref se])), (la, .inl (G 0, 4, .inl (upd (upd (upd (upd (fun _ => 0) 0 (-1)) 1 (-1)) 2 (-1)) 3 (-1)))), (si, .inl (G 0, 4, .inl (fun _ => 0))), (ce, .inl (G 4, 4, .inr (.inr (.inr (.inr (fun i => if i < 4 then some (rc i) else none)))))), ((rc 0), .inl (G 0, 40, .inl (fun _ => 0))), ((rc 1), .inl (G 0, 40, .inl (fun _ => 0))), ((rc 2), .inl (G 0, 40, .inl (fun _ => 0))), ((rc 3), .inl (G 0, 40, .inl (fun _ => 0)))] s.heap.size = A at hD ⊢
  have hA : ∀ q : Nat, s.heap.size ≤ q → A q := fun q h => by rw [← hAe]; exact Or.inr h
  have hS : va_S A s.heap s.heap [] := va_S.rf
  have hl := lv_entry ([.ref h0, .int k, .int lane, .int (nI nn)]) (n := 5) (Nat.le_of_ble_eq_true rfl)
  rw [lg_entry_eq]
  generalize (lg_sl ([.ref h0, .int k, .int lane, .int (nI nn)]) ++ List.replicate (5 - (lg_sl ([.ref h0, .int k, .int lane, .int (nI nn)])).length) Slot.unset).toArray = ls at hl ⊢
  have hl : lv_has ls 5 [(0, .ref h0), (1, .int k), (2, .int lane), (3, .int (nI nn))] := hl
  have hsp : k = 0 ∨ k = 1 ∨ k = 2 ∨ k = 3 := by
    have : (0 : Int32).toInt = 0 := by decide
    have : (1 : Int32).toInt = 1 := by decide
    have : (2 : Int32).toInt = 2 := by decide
    have : (3 : Int32).toInt = 3 := by decide
    rcases (show k.toInt = 0 ∨ k.toInt = 1 ∨ k.toInt = 2 ∨ k.toInt = 3 by omega) with q | q | q | q
    · exact Or.inl (Int32.toInt_inj.mp (by rw [q]; rfl))
    · exact Or.inr (Or.inl (Int32.toInt_inj.mp (by rw [q]; rfl)))
    · exact Or.inr (Or.inr (Or.inl (Int32.toInt_inj.mp (by rw [q]; rfl))))
    · exact Or.inr (Or.inr (Or.inr ((Int32.toInt_inj.mp (by rw [q]; rfl)))))
  rcases hsp with rfl | rfl | rfl | rfl
  · skip
    refine lv_iload_n hx hb dX6_renew_0 rfl (lv_at hl 1 rfl) ?_
    have hPc := hP.sub (ws' := []) [] rfl
    refine va_calli (va_runS (As := [.int 0]) (rest := []) ⟨hx, hb, hml, hown, hg⟩ (c_X6_isSheet l dC dI G _ 0 ) (kwS hg mfX6_isSheet wt_833 ⟨Nat.le_of_ble_eq_true rfl, Nat.le_of_ble_eq_true rfl⟩) (preSR hK hPc) rfl rfl hl.1 rfl (lv_room (Nat.le_of_ble_eq_true rfl)) dX6_renew_1 ⟨Nat.le_of_ble_eq_true rfl, Nat.le_of_ble_eq_true rfl⟩) hS (fun q h1 h2 => absurd h2 (Nat.not_le.mpr h1)) (fun q h => hA q (Nat.le_trans hS.1 h)) (fun r1 ur1 t H1 locs ht hvm w2 hB hz1 hk1 hS => ?_)
    have hP := keepR hP hk1
    obtain ⟨w2, w2x⟩ := w2
    try simp only [l_ii, show (0 : Int32).toInt = 0 from by decide, show (0 : Int32).toInt = 0 from by decide, show (4 : Int32).toInt = 4 from by decide] at w2
    have w2 : r1 = 1 := w2.trans (if_pos (by omega))
    subst w2
    refine lv_if_eq (tgt := 17) hx hb dX6_renew_4 (by decide) (fun c3 => ?_) (fun c3 => ?_)
    · skip
      exact absurd c3 (by decide)
    · skip
      refine lv_iload_n hx hb dX6_renew_7 rfl (lv_at hl 3 rfl) ?_
      refine lv_if_lt (tgt := 17) hx hb dX6_renew_8 (by decide) (fun c4 => ?_) (fun c4 => ?_)
      · skip
        have n5 : nn < 0 := by have t := ltI c4; rw [nI_toInt (n := nn) (by omega)] at t; have : (0 : Int32).toInt = 0 := (by decide); omega
        have hP9 := hP.sub (ws' := []) [] rfl
        have hD9 := hD.sub (ws' := []) [] (by decide) rfl
        refine W.widen (k := 0) (n := 0) (by omega) (by omega) ?_
        exact W.vret hx hb hr (fun t ht hW => ⟨⟨(), rfl, trivial, ⟨by rw [ht]; exact hP9, hD9⟩⟩, hS.F ht⟩) hS.2.2 dX6_renew_17
      · skip
        have n6 : 0 ≤ nn := by have t := nltI c4; rw [nI_toInt (n := nn) (by omega)] at t; have : (0 : Int32).toInt = 0 := (by decide); omega
        refine lv_iload_n hx hb dX6_renew_11 rfl (lv_at hl 3 rfl) ?_
        refine lv_bipush (v := 40) hx hb dX6_renew_12 (by decide) ?_
        refine lv_icmp_le (tgt := 18) hx hb dX6_renew_14 (by decide) (fun c7 => ?_) (fun c7 => ?_)
        · skip
          have n8 : nn ≤ 40 := by have t := leI c7; rw [nI_toInt (n := nn) (by omega)] at t; have : (40 : Int32).toInt = 40 := (by decide); omega
          refine lv_aload_n hx hb dX6_renew_18 rfl (lv_at hl 0 rfl) ?_
          refine va_get (D := (dC, dI)) (ci := 6) (v := .ref la) (C := RX6) (T := TX6) (N := 7) hx hb hg inG6 hown hK.1 hP 0 rfl rfl 0 (by decide) (hg _ wt_276) (fun _ h9 => h9) rfl dX6_renew_19 ?_
          refine lv_iload_n hx hb dX6_renew_22 rfl (lv_at hl 1 rfl) ?_
          refine lv_iload_n hx hb dX6_renew_23 rfl (lv_at hl 2 rfl) ?_
          refine va_iast hx hb hK.1 hP hD hS 1 0 rfl rfl (vp_in_iff.mpr ⟨by decide, by decide⟩) dX6_renew_24 (fun H locs hP hD hS => ?_)
          have hP : va_P (dC, dI) vwCl [(h0, .inr (6, [.ref la, .ref si, .ref ce, .int 0, .int 0, .ref fi, .ref se])), (la, .inl (G 0, 4, .inl (upd (upd (upd (upd (upd (fun _ => 0) 0 (-1)) 1 (-1)) 2 (-1)) 3 (-1)) 0 lane))), (si, .inl (G 0, 4, .inl (fun _ => 0))), (ce, .inl (G 4, 4, .inr (.inr (.inr (.inr (fun i => if i < 4 then some (rc i) else none)))))), ((rc 0), .inl (G 0, 40, .inl (fun _ => 0))), ((rc 1), .inl (G 0, 40, .inl (fun _ => 0))), ((rc 2), .inl (G 0, 40, .inl (fun _ => 0))), ((rc 3), .inl (G 0, 40, .inl (fun _ => 0)))] H := hP
          have hD : va_D A [(h0, .inr (6, [.ref la, .ref si, .ref ce, .int 0, .int 0, .ref fi, .ref se])), (la, .inl (G 0, 4, .inl (upd (upd (upd (upd (upd (fun _ => 0) 0 (-1)) 1 (-1)) 2 (-1)) 3 (-1)) 0 lane))), (si, .inl (G 0, 4, .inl (fun _ => 0))), (ce, .inl (G 4, 4, .inr (.inr (.inr (.inr (fun i => if i < 4 then some (rc i) else none)))))), ((rc 0), .inl (G 0, 40, .inl (fun _ => 0))), ((rc 1), .inl (G 0, 40, .inl (fun _ => 0))), ((rc 2), .inl (G 0, 40, .inl (fun _ => 0))), ((rc 3), .inl (G 0, 40, .inl (fun _ => 0)))] := hD
          refine lv_aload_n hx hb dX6_renew_25 rfl (lv_at hl 0 rfl) ?_
          refine va_get (D := (dC, dI)) (ci := 6) (v := .ref si) (C := RX6) (T := TX6) (N := 7) hx hb hg inG6 hown hK.1 hP 0 rfl rfl 1 (by decide) (hg _ wt_277) (fun _ h9 => h9) rfl dX6_renew_26 ?_
          refine lv_iload_n hx hb dX6_renew_29 rfl (lv_at hl 1 rfl) ?_
          refine lv_iload_n hx hb dX6_renew_30 rfl (lv_at hl 3 rfl) ?_
          refine va_iast hx hb hK.1 hP hD hS 2 0 rfl rfl (vp_in_iff.mpr ⟨by decide, by decide⟩) dX6_renew_31 (fun H locs hP hD hS => ?_)
          have hP : va_P (dC, dI) vwCl [(h0, .inr (6, [.ref la, .ref si, .ref ce, .int 0, .int 0, .ref fi, .ref se])), (la, .inl (G 0, 4, .inl (upd (upd (upd (upd (upd (fun _ => 0) 0 (-1)) 1 (-1)) 2 (-1)) 3 (-1)) 0 lane))), (si, .inl (G 0, 4, .inl (upd (fun _ => 0) 0 (nI nn)))), (ce, .inl (G 4, 4, .inr (.inr (.inr (.inr (fun i => if i < 4 then some (rc i) else none)))))), ((rc 0), .inl (G 0, 40, .inl (fun _ => 0))), ((rc 1), .inl (G 0, 40, .inl (fun _ => 0))), ((rc 2), .inl (G 0, 40, .inl (fun _ => 0))), ((rc 3), .inl (G 0, 40, .inl (fun _ => 0)))] H := hP
          have hD : va_D A [(h0, .inr (6, [.ref la, .ref si, .ref ce, .int 0, .int 0, .ref fi, .ref se])), (la, .inl (G 0, 4, .inl (upd (upd (upd (upd (upd (fun _ => 0) 0 (-1)) 1 (-1)) 2 (-1)) 3 (-1)) 0 lane))), (si, .inl (G 0, 4, .inl (upd (fun _ => 0) 0 (nI nn)))), (ce, .inl (G 4, 4, .inr (.inr (.inr (.inr (fun i => if i < 4 then some (rc i) else none)))))), ((rc 0), .inl (G 0, 40, .inl (fun _ => 0))), ((rc 1), .inl (G 0, 40, .inl (fun _ => 0))), ((rc 2), .inl (G 0, 40, .inl (fun _ => 0))), ((rc 3), .inl (G 0, 40, .inl (fun _ => 0)))] := hD
          refine lv_iconst (v := 0) hx hb dX6_renew_32 (by decide) ?_
          refine lv_istore (lv' := [(4, .int 0), (0, .ref h0), (1, .int 0), (2, .int lane), (3, .int (nI nn))]) hx hb dX6_renew_33 hl (by decide) rfl (fun ls hl => ?_)
          have loop35 : ∀ (nf j : Nat), nn + 1 ≤ j + nf → j ≤ nn → ∀ (g : Nat → Int32) (H : Heap) (locs : List Loc), va_P (dC, dI) vwCl [(h0, .inr (6, [.ref la, .ref si, .ref ce, .int 0, .int 0, .ref fi, .ref se])), (la, .inl (G 0, 4, .inl (upd (upd (upd (upd (upd (fun _ => 0) 0 (-1)) 1 (-1)) 2 (-1)) 3 (-1)) 0 lane))), (si, .inl (G 0, 4, .inl (upd (fun _ => 0) 0 (nI nn)))), (ce, .inl (G 4, 4, .inr (.inr (.inr (.inr (fun i => if i < 4 then some (rc i) else none)))))), ((rc 0), .inl (G 0, 40, .inl g)), ((rc 1), .inl (G 0, 40, .inl (fun _ => 0))), ((rc 2), .inl (G 0, 40, .inl (fun _ => 0))), ((rc 3), .inl (G 0, 40, .inl (fun _ => 0)))] H → va_D A [(h0, .inr (6, [.ref la, .ref si, .ref ce, .int 0, .int 0, .ref fi, .ref se])), (la, .inl (G 0, 4, .inl (upd (upd (upd (upd (upd (fun _ => 0) 0 (-1)) 1 (-1)) 2 (-1)) 3 (-1)) 0 lane))), (si, .inl (G 0, 4, .inl (upd (fun _ => 0) 0 (nI nn)))), (ce, .inl (G 4, 4, .inr (.inr (.inr (.inr (fun i => if i < 4 then some (rc i) else none)))))), ((rc 0), .inl (G 0, 40, .inl g)), ((rc 1), .inl (G 0, 40, .inl (fun _ => 0))), ((rc 2), .inl (G 0, 40, .inl (fun _ => 0))), ((rc 3), .inl (G 0, 40, .inl (fun _ => 0)))] → va_S A s.heap H locs → ∀ (ls : Array Slot), lv_has ls 5 [(4, .int (nI j)), (0, .ref h0), (1, .int 0), (2, .int lane), (3, .int (nI nn))] → W p l e (headSpec (Cond.code yX6_renew cX6_renew 5 none :: GT) ({ frames := 1, cells := 0, slots := 0, locals := 20 } : Room)).room s m ([.ref h0, .int (0 : Int32), .int lane, .int (nI nn)] : List Value).toArray below meth c H locs 0 0 (MQ below (va_Qv (fun (u : Unit) => match u with | _ => True) (fun (u : Unit) (t : State) => match u with | _ => va_P (dC, dI) vwCl [] t.heap ∧ va_D A []) A) ([.ref h0, .int (0 : Int32), .int lane, .int (nI nn)] : List Value).toArray s 0 0 A) (F0 m 35 ls []) := by
            intro nf
            induction nf with
            | zero => intro j h1 h2; exact absurd h1 (by omega)
            | succ nf ih35 =>
              intro j hn9 hj10 g H locs hP hD hS ls hl
              refine lv_iload hx hb dX6_renew_35 (lv_at hl 0 rfl) ?_
              refine lv_iload_n hx hb dX6_renew_37 rfl (lv_at hl 4 rfl) ?_
              refine lv_icmp_ge (tgt := 57) hx hb dX6_renew_38 (by decide) (fun c11 => ?_) (fun c11 => ?_)
              · skip
                have n12 : nn ≤ j := by have t := leI c11; rw [nI_toInt (n := j) (by omega)] at t; rw [nI_toInt (n := nn) (by omega)] at t; omega
                have hP9 := hP.sub (ws' := []) [] rfl
                have hD9 := hD.sub (ws' := []) [] (by decide) rfl
                refine W.widen (k := 0) (n := 0) (by omega) (by omega) ?_
                exact W.vret hx hb hr (fun t ht hW => ⟨⟨(), rfl, trivial, ⟨by rw [ht]; exact hP9, hD9⟩⟩, hS.F ht⟩) hS.2.2 dX6_renew_57
              · skip
                have n13 : j < nn := by have t := nleI c11; rw [nI_toInt (n := j) (by omega)] at t; rw [nI_toInt (n := nn) (by omega)] at t; omega
                refine lv_aload_n hx hb dX6_renew_41 rfl (lv_at hl 1 rfl) ?_
                refine va_get (D := (dC, dI)) (ci := 6) (v := .ref ce) (C := RX6) (T := TX6) (N := 7) hx hb hg inG6 hown hK.1 hP 0 rfl rfl 2 (by decide) (hg _ wt_278) (fun _ h9 => h9) rfl dX6_renew_42 ?_
                refine lv_iload_n hx hb dX6_renew_45 rfl (lv_at hl 2 rfl) ?_
                refine va_aldA hx hb hK.1 hP 3 4 rfl rfl (vp_in_iff.mpr ⟨by decide, by decide⟩) dX6_renew_46 ?_
                refine lv_cgv (y := .ref (rc 0)) (by rfl) ?_
                refine lv_iload hx hb dX6_renew_47 (lv_at hl 0 rfl) ?_
                refine lv_iconst (v := 0) hx hb dX6_renew_49 (by decide) ?_
                refine va_iast hx hb hK.1 hP hD hS 4 0 rfl rfl (vp_in_nI (by omega) (by decide)) dX6_renew_50 (fun H locs hP hD hS => ?_)
                rw [nI_clamp (by omega)] at hP hD
                have hP : va_P (dC, dI) vwCl [(h0, .inr (6, [.ref la, .ref si, .ref ce, .int 0, .int 0, .ref fi, .ref se])), (la, .inl (G 0, 4, .inl (upd (upd (upd (upd (upd (fun _ => 0) 0 (-1)) 1 (-1)) 2 (-1)) 3 (-1)) 0 lane))), (si, .inl (G 0, 4, .inl (upd (fun _ => 0) 0 (nI nn)))), (ce, .inl (G 4, 4, .inr (.inr (.inr (.inr (fun i => if i < 4 then some (rc i) else none)))))), ((rc 0), .inl (G 0, 40, .inl (upd g j 0))), ((rc 1), .inl (G 0, 40, .inl (fun _ => 0))), ((rc 2), .inl (G 0, 40, .inl (fun _ => 0))), ((rc 3), .inl (G 0, 40, .inl (fun _ => 0)))] H := hP
                have hD : va_D A [(h0, .inr (6, [.ref la, .ref si, .ref ce, .int 0, .int 0, .ref fi, .ref se])), (la, .inl (G 0, 4, .inl (upd (upd (upd (upd (upd (fun _ => 0) 0 (-1)) 1 (-1)) 2 (-1)) 3 (-1)) 0 lane))), (si, .inl (G 0, 4, .inl (upd (fun _ => 0) 0 (nI nn)))), (ce, .inl (G 4, 4, .inr (.inr (.inr (.inr (fun i => if i < 4 then some (rc i) else none)))))), ((rc 0), .inl (G 0, 40, .inl (upd g j 0))), ((rc 1), .inl (G 0, 40, .inl (fun _ => 0))), ((rc 2), .inl (G 0, 40, .inl (fun _ => 0))), ((rc 3), .inl (G 0, 40, .inl (fun _ => 0)))] := hD
                refine lv_iinc (v := nI (j + 1)) (lv' := [(4, .int (nI (j + 1))), (0, .ref h0), (1, .int 0), (2, .int lane), (3, .int (nI nn))]) hx hb dX6_renew_51 hl (k := 0) rfl (by rw [show Int32.ofInt 1 = nI 1 from by decide]; exact nI_add _ _) (by decide) rfl (fun ls hl => ?_)
                refine lv_goto (tgt := 35) hx hb dX6_renew_54 (by decide) ?_
                exact ih35 ((j + 1)) (by omega) (by omega) (upd g j 0) _ _ hP hD hS ls (lv_sub hl [0, 1, 2, 3, 4] rfl)
          exact loop35 (nn + 1) 0 (by omega) (by omega) (fun _ => 0) _ _ hP hD hS ls (lv_sub hl [0, 1, 2, 3, 4] rfl)
        · skip
          have n14 : 40 < nn := by have t := nleI c7; rw [nI_toInt (n := nn) (by omega)] at t; have : (40 : Int32).toInt = 40 := (by decide); omega
          have hP9 := hP.sub (ws' := []) [] rfl
          have hD9 := hD.sub (ws' := []) [] (by decide) rfl
          refine W.widen (k := 0) (n := 0) (by omega) (by omega) ?_
          exact W.vret hx hb hr (fun t ht hW => ⟨⟨(), rfl, trivial, ⟨by rw [ht]; exact hP9, hD9⟩⟩, hS.F ht⟩) hS.2.2 dX6_renew_17
  · skip
    refine lv_iload_n hx hb dX6_renew_0 rfl (lv_at hl 1 rfl) ?_
    have hPc := hP.sub (ws' := []) [] rfl
    refine va_calli (va_runS (As := [.int 1]) (rest := []) ⟨hx, hb, hml, hown, hg⟩ (c_X6_isSheet l dC dI G _ 1 ) (kwS hg mfX6_isSheet wt_833 ⟨Nat.le_of_ble_eq_true rfl, Nat.le_of_ble_eq_true rfl⟩) (preSR hK hPc) rfl rfl hl.1 rfl (lv_room (Nat.le_of_ble_eq_true rfl)) dX6_renew_1 ⟨Nat.le_of_ble_eq_true rfl, Nat.le_of_ble_eq_true rfl⟩) hS (fun q h1 h2 => absurd h2 (Nat.not_le.mpr h1)) (fun q h => hA q (Nat.le_trans hS.1 h)) (fun r15 ur15 t H1 locs ht hvm w16 hB hz1 hk1 hS => ?_)
    have hP := keepR hP hk1
    obtain ⟨w16, w16x⟩ := w16
    try simp only [l_ii, show (0 : Int32).toInt = 0 from by decide, show (1 : Int32).toInt = 1 from by decide, show (4 : Int32).toInt = 4 from by decide] at w16
    have w16 : r15 = 1 := w16.trans (if_pos (by omega))
    subst w16
    refine lv_if_eq (tgt := 17) hx hb dX6_renew_4 (by decide) (fun c17 => ?_) (fun c17 => ?_)
    · skip
      exact absurd c17 (by decide)
    · skip
      refine lv_iload_n hx hb dX6_renew_7 rfl (lv_at hl 3 rfl) ?_
      refine lv_if_lt (tgt := 17) hx hb dX6_renew_8 (by decide) (fun c18 => ?_) (fun c18 => ?_)
      · skip
        have n19 : nn < 0 := by have t := ltI c18; rw [nI_toInt (n := nn) (by omega)] at t; have : (0 : Int32).toInt = 0 := (by decide); omega
        have hP9 := hP.sub (ws' := []) [] rfl
        have hD9 := hD.sub (ws' := []) [] (by decide) rfl
        refine W.widen (k := 0) (n := 0) (by omega) (by omega) ?_
        exact W.vret hx hb hr (fun t ht hW => ⟨⟨(), rfl, trivial, ⟨by rw [ht]; exact hP9, hD9⟩⟩, hS.F ht⟩) hS.2.2 dX6_renew_17
      · skip
        have n20 : 0 ≤ nn := by have t := nltI c18; rw [nI_toInt (n := nn) (by omega)] at t; have : (0 : Int32).toInt = 0 := (by decide); omega
        refine lv_iload_n hx hb dX6_renew_11 rfl (lv_at hl 3 rfl) ?_
        refine lv_bipush (v := 40) hx hb dX6_renew_12 (by decide) ?_
        refine lv_icmp_le (tgt := 18) hx hb dX6_renew_14 (by decide) (fun c21 => ?_) (fun c21 => ?_)
        · skip
          have n22 : nn ≤ 40 := by have t := leI c21; rw [nI_toInt (n := nn) (by omega)] at t; have : (40 : Int32).toInt = 40 := (by decide); omega
          refine lv_aload_n hx hb dX6_renew_18 rfl (lv_at hl 0 rfl) ?_
          refine va_get (D := (dC, dI)) (ci := 6) (v := .ref la) (C := RX6) (T := TX6) (N := 7) hx hb hg inG6 hown hK.1 hP 0 rfl rfl 0 (by decide) (hg _ wt_276) (fun _ h9 => h9) rfl dX6_renew_19 ?_
          refine lv_iload_n hx hb dX6_renew_22 rfl (lv_at hl 1 rfl) ?_
          refine lv_iload_n hx hb dX6_renew_23 rfl (lv_at hl 2 rfl) ?_
          refine va_iast hx hb hK.1 hP hD hS 1 0 rfl rfl (vp_in_iff.mpr ⟨by decide, by decide⟩) dX6_renew_24 (fun H locs hP hD hS => ?_)
          have hP : va_P (dC, dI) vwCl [(h0, .inr (6, [.ref la, .ref si, .ref ce, .int 0, .int 0, .ref fi, .ref se])), (la, .inl (G 0, 4, .inl (upd (upd (upd (upd (upd (fun _ => 0) 0 (-1)) 1 (-1)) 2 (-1)) 3 (-1)) 1 lane))), (si, .inl (G 0, 4, .inl (fun _ => 0))), (ce, .inl (G 4, 4, .inr (.inr (.inr (.inr (fun i => if i < 4 then some (rc i) else none)))))), ((rc 0), .inl (G 0, 40, .inl (fun _ => 0))), ((rc 1), .inl (G 0, 40, .inl (fun _ => 0))), ((rc 2), .inl (G 0, 40, .inl (fun _ => 0))), ((rc 3), .inl (G 0, 40, .inl (fun _ => 0)))] H := hP
          have hD : va_D A [(h0, .inr (6, [.ref la, .ref si, .ref ce, .int 0, .int 0, .ref fi, .ref se])), (la, .inl (G 0, 4, .inl (upd (upd (upd (upd (upd (fun _ => 0) 0 (-1)) 1 (-1)) 2 (-1)) 3 (-1)) 1 lane))), (si, .inl (G 0, 4, .inl (fun _ => 0))), (ce, .inl (G 4, 4, .inr (.inr (.inr (.inr (fun i => if i < 4 then some (rc i) else none)))))), ((rc 0), .inl (G 0, 40, .inl (fun _ => 0))), ((rc 1), .inl (G 0, 40, .inl (fun _ => 0))), ((rc 2), .inl (G 0, 40, .inl (fun _ => 0))), ((rc 3), .inl (G 0, 40, .inl (fun _ => 0)))] := hD
          refine lv_aload_n hx hb dX6_renew_25 rfl (lv_at hl 0 rfl) ?_
          refine va_get (D := (dC, dI)) (ci := 6) (v := .ref si) (C := RX6) (T := TX6) (N := 7) hx hb hg inG6 hown hK.1 hP 0 rfl rfl 1 (by decide) (hg _ wt_277) (fun _ h9 => h9) rfl dX6_renew_26 ?_
          refine lv_iload_n hx hb dX6_renew_29 rfl (lv_at hl 1 rfl) ?_
          refine lv_iload_n hx hb dX6_renew_30 rfl (lv_at hl 3 rfl) ?_
          refine va_iast hx hb hK.1 hP hD hS 2 0 rfl rfl (vp_in_iff.mpr ⟨by decide, by decide⟩) dX6_renew_31 (fun H locs hP hD hS => ?_)
          have hP : va_P (dC, dI) vwCl [(h0, .inr (6, [.ref la, .ref si, .ref ce, .int 0, .int 0, .ref fi, .ref se])), (la, .inl (G 0, 4, .inl (upd (upd (upd (upd (upd (fun _ => 0) 0 (-1)) 1 (-1)) 2 (-1)) 3 (-1)) 1 lane))), (si, .inl (G 0, 4, .inl (upd (fun _ => 0) 1 (nI nn)))), (ce, .inl (G 4, 4, .inr (.inr (.inr (.inr (fun i => if i < 4 then some (rc i) else none)))))), ((rc 0), .inl (G 0, 40, .inl (fun _ => 0))), ((rc 1), .inl (G 0, 40, .inl (fun _ => 0))), ((rc 2), .inl (G 0, 40, .inl (fun _ => 0))), ((rc 3), .inl (G 0, 40, .inl (fun _ => 0)))] H := hP
          have hD : va_D A [(h0, .inr (6, [.ref la, .ref si, .ref ce, .int 0, .int 0, .ref fi, .ref se])), (la, .inl (G 0, 4, .inl (upd (upd (upd (upd (upd (fun _ => 0) 0 (-1)) 1 (-1)) 2 (-1)) 3 (-1)) 1 lane))), (si, .inl (G 0, 4, .inl (upd (fun _ => 0) 1 (nI nn)))), (ce, .inl (G 4, 4, .inr (.inr (.inr (.inr (fun i => if i < 4 then some (rc i) else none)))))), ((rc 0), .inl (G 0, 40, .inl (fun _ => 0))), ((rc 1), .inl (G 0, 40, .inl (fun _ => 0))), ((rc 2), .inl (G 0, 40, .inl (fun _ => 0))), ((rc 3), .inl (G 0, 40, .inl (fun _ => 0)))] := hD
          refine lv_iconst (v := 0) hx hb dX6_renew_32 (by decide) ?_
          refine lv_istore (lv' := [(4, .int 0), (0, .ref h0), (1, .int 1), (2, .int lane), (3, .int (nI nn))]) hx hb dX6_renew_33 hl (by decide) rfl (fun ls hl => ?_)
          have loop35 : ∀ (nf j : Nat), nn + 1 ≤ j + nf → j ≤ nn → ∀ (g : Nat → Int32) (H : Heap) (locs : List Loc), va_P (dC, dI) vwCl [(h0, .inr (6, [.ref la, .ref si, .ref ce, .int 0, .int 0, .ref fi, .ref se])), (la, .inl (G 0, 4, .inl (upd (upd (upd (upd (upd (fun _ => 0) 0 (-1)) 1 (-1)) 2 (-1)) 3 (-1)) 1 lane))), (si, .inl (G 0, 4, .inl (upd (fun _ => 0) 1 (nI nn)))), (ce, .inl (G 4, 4, .inr (.inr (.inr (.inr (fun i => if i < 4 then some (rc i) else none)))))), ((rc 0), .inl (G 0, 40, .inl (fun _ => 0))), ((rc 1), .inl (G 0, 40, .inl g)), ((rc 2), .inl (G 0, 40, .inl (fun _ => 0))), ((rc 3), .inl (G 0, 40, .inl (fun _ => 0)))] H → va_D A [(h0, .inr (6, [.ref la, .ref si, .ref ce, .int 0, .int 0, .ref fi, .ref se])), (la, .inl (G 0, 4, .inl (upd (upd (upd (upd (upd (fun _ => 0) 0 (-1)) 1 (-1)) 2 (-1)) 3 (-1)) 1 lane))), (si, .inl (G 0, 4, .inl (upd (fun _ => 0) 1 (nI nn)))), (ce, .inl (G 4, 4, .inr (.inr (.inr (.inr (fun i => if i < 4 then some (rc i) else none)))))), ((rc 0), .inl (G 0, 40, .inl (fun _ => 0))), ((rc 1), .inl (G 0, 40, .inl g)), ((rc 2), .inl (G 0, 40, .inl (fun _ => 0))), ((rc 3), .inl (G 0, 40, .inl (fun _ => 0)))] → va_S A s.heap H locs → ∀ (ls : Array Slot), lv_has ls 5 [(4, .int (nI j)), (0, .ref h0), (1, .int 1), (2, .int lane), (3, .int (nI nn))] → W p l e (headSpec (Cond.code yX6_renew cX6_renew 5 none :: GT) ({ frames := 1, cells := 0, slots := 0, locals := 20 } : Room)).room s m ([.ref h0, .int (1 : Int32), .int lane, .int (nI nn)] : List Value).toArray below meth c H locs 0 0 (MQ below (va_Qv (fun (u : Unit) => match u with | _ => True) (fun (u : Unit) (t : State) => match u with | _ => va_P (dC, dI) vwCl [] t.heap ∧ va_D A []) A) ([.ref h0, .int (1 : Int32), .int lane, .int (nI nn)] : List Value).toArray s 0 0 A) (F0 m 35 ls []) := by
            intro nf
            induction nf with
            | zero => intro j h1 h2; exact absurd h1 (by omega)
            | succ nf ih35 =>
              intro j hn23 hj24 g H locs hP hD hS ls hl
              refine lv_iload hx hb dX6_renew_35 (lv_at hl 0 rfl) ?_
              refine lv_iload_n hx hb dX6_renew_37 rfl (lv_at hl 4 rfl) ?_
              refine lv_icmp_ge (tgt := 57) hx hb dX6_renew_38 (by decide) (fun c25 => ?_) (fun c25 => ?_)
              · skip
                have n26 : nn ≤ j := by have t := leI c25; rw [nI_toInt (n := j) (by omega)] at t; rw [nI_toInt (n := nn) (by omega)] at t; omega
                have hP9 := hP.sub (ws' := []) [] rfl
                have hD9 := hD.sub (ws' := []) [] (by decide) rfl
                refine W.widen (k := 0) (n := 0) (by omega) (by omega) ?_
                exact W.vret hx hb hr (fun t ht hW => ⟨⟨(), rfl, trivial, ⟨by rw [ht]; exact hP9, hD9⟩⟩, hS.F ht⟩) hS.2.2 dX6_renew_57
              · skip
                have n27 : j < nn := by have t := nleI c25; rw [nI_toInt (n := j) (by omega)] at t; rw [nI_toInt (n := nn) (by omega)] at t; omega
                refine lv_aload_n hx hb dX6_renew_41 rfl (lv_at hl 1 rfl) ?_
                refine va_get (D := (dC, dI)) (ci := 6) (v := .ref ce) (C := RX6) (T := TX6) (N := 7) hx hb hg inG6 hown hK.1 hP 0 rfl rfl 2 (by decide) (hg _ wt_278) (fun _ h9 => h9) rfl dX6_renew_42 ?_
                refine lv_iload_n hx hb dX6_renew_45 rfl (lv_at hl 2 rfl) ?_
                refine va_aldA hx hb hK.1 hP 3 4 rfl rfl (vp_in_iff.mpr ⟨by decide, by decide⟩) dX6_renew_46 ?_
                refine lv_cgv (y := .ref (rc 1)) (by rfl) ?_
                refine lv_iload hx hb dX6_renew_47 (lv_at hl 0 rfl) ?_
                refine lv_iconst (v := 0) hx hb dX6_renew_49 (by decide) ?_
                refine va_iast hx hb hK.1 hP hD hS 5 0 rfl rfl (vp_in_nI (by omega) (by decide)) dX6_renew_50 (fun H locs hP hD hS => ?_)
                rw [nI_clamp (by omega)] at hP hD
                have hP : va_P (dC, dI) vwCl [(h0, .inr (6, [.ref la, .ref si, .ref ce, .int 0, .int 0, .ref fi, .ref se])), (la, .inl (G 0, 4, .inl (upd (upd (upd (upd (upd (fun _ => 0) 0 (-1)) 1 (-1)) 2 (-1)) 3 (-1)) 1 lane))), (si, .inl (G 0, 4, .inl (upd (fun _ => 0) 1 (nI nn)))), (ce, .inl (G 4, 4, .inr (.inr (.inr (.inr (fun i => if i < 4 then some (rc i) else none)))))), ((rc 0), .inl (G 0, 40, .inl (fun _ => 0))), ((rc 1), .inl (G 0, 40, .inl (upd g j 0))), ((rc 2), .inl (G 0, 40, .inl (fun _ => 0))), ((rc 3), .inl (G 0, 40, .inl (fun _ => 0)))] H := hP
                have hD : va_D A [(h0, .inr (6, [.ref la, .ref si, .ref ce, .int 0, .int 0, .ref fi, .ref se])), (la, .inl (G 0, 4, .inl (upd (upd (upd (upd (upd (fun _ => 0) 0 (-1)) 1 (-1)) 2 (-1)) 3 (-1)) 1 lane))), (si, .inl (G 0, 4, .inl (upd (fun _ => 0) 1 (nI nn)))), (ce, .inl (G 4, 4, .inr (.inr (.inr (.inr (fun i => if i < 4 then some (rc i) else none)))))), ((rc 0), .inl (G 0, 40, .inl (fun _ => 0))), ((rc 1), .inl (G 0, 40, .inl (upd g j 0))), ((rc 2), .inl (G 0, 40, .inl (fun _ => 0))), ((rc 3), .inl (G 0, 40, .inl (fun _ => 0)))] := hD
                refine lv_iinc (v := nI (j + 1)) (lv' := [(4, .int (nI (j + 1))), (0, .ref h0), (1, .int 1), (2, .int lane), (3, .int (nI nn))]) hx hb dX6_renew_51 hl (k := 0) rfl (by rw [show Int32.ofInt 1 = nI 1 from by decide]; exact nI_add _ _) (by decide) rfl (fun ls hl => ?_)
                refine lv_goto (tgt := 35) hx hb dX6_renew_54 (by decide) ?_
                exact ih35 ((j + 1)) (by omega) (by omega) (upd g j 0) _ _ hP hD hS ls (lv_sub hl [0, 1, 2, 3, 4] rfl)
          exact loop35 (nn + 1) 0 (by omega) (by omega) (fun _ => 0) _ _ hP hD hS ls (lv_sub hl [0, 1, 2, 3, 4] rfl)
        · skip
          have n28 : 40 < nn := by have t := nleI c21; rw [nI_toInt (n := nn) (by omega)] at t; have : (40 : Int32).toInt = 40 := (by decide); omega
          have hP9 := hP.sub (ws' := []) [] rfl
          have hD9 := hD.sub (ws' := []) [] (by decide) rfl
          refine W.widen (k := 0) (n := 0) (by omega) (by omega) ?_
          exact W.vret hx hb hr (fun t ht hW => ⟨⟨(), rfl, trivial, ⟨by rw [ht]; exact hP9, hD9⟩⟩, hS.F ht⟩) hS.2.2 dX6_renew_17
  · skip
    refine lv_iload_n hx hb dX6_renew_0 rfl (lv_at hl 1 rfl) ?_
    have hPc := hP.sub (ws' := []) [] rfl
    refine va_calli (va_runS (As := [.int 2]) (rest := []) ⟨hx, hb, hml, hown, hg⟩ (c_X6_isSheet l dC dI G _ 2 ) (kwS hg mfX6_isSheet wt_833 ⟨Nat.le_of_ble_eq_true rfl, Nat.le_of_ble_eq_true rfl⟩) (preSR hK hPc) rfl rfl hl.1 rfl (lv_room (Nat.le_of_ble_eq_true rfl)) dX6_renew_1 ⟨Nat.le_of_ble_eq_true rfl, Nat.le_of_ble_eq_true rfl⟩) hS (fun q h1 h2 => absurd h2 (Nat.not_le.mpr h1)) (fun q h => hA q (Nat.le_trans hS.1 h)) (fun r29 ur29 t H1 locs ht hvm w30 hB hz1 hk1 hS => ?_)
    have hP := keepR hP hk1
    obtain ⟨w30, w30x⟩ := w30
    try simp only [l_ii, show (0 : Int32).toInt = 0 from by decide, show (2 : Int32).toInt = 2 from by decide, show (4 : Int32).toInt = 4 from by decide] at w30
    have w30 : r29 = 1 := w30.trans (if_pos (by omega))
    subst w30
    refine lv_if_eq (tgt := 17) hx hb dX6_renew_4 (by decide) (fun c31 => ?_) (fun c31 => ?_)
    · skip
      exact absurd c31 (by decide)
    · skip
      refine lv_iload_n hx hb dX6_renew_7 rfl (lv_at hl 3 rfl) ?_
      refine lv_if_lt (tgt := 17) hx hb dX6_renew_8 (by decide) (fun c32 => ?_) (fun c32 => ?_)
      · skip
        have n33 : nn < 0 := by have t := ltI c32; rw [nI_toInt (n := nn) (by omega)] at t; have : (0 : Int32).toInt = 0 := (by decide); omega
        have hP9 := hP.sub (ws' := []) [] rfl
        have hD9 := hD.sub (ws' := []) [] (by decide) rfl
        refine W.widen (k := 0) (n := 0) (by omega) (by omega) ?_
        exact W.vret hx hb hr (fun t ht hW => ⟨⟨(), rfl, trivial, ⟨by rw [ht]; exact hP9, hD9⟩⟩, hS.F ht⟩) hS.2.2 dX6_renew_17
      · skip
        have n34 : 0 ≤ nn := by have t := nltI c32; rw [nI_toInt (n := nn) (by omega)] at t; have : (0 : Int32).toInt = 0 := (by decide); omega
        refine lv_iload_n hx hb dX6_renew_11 rfl (lv_at hl 3 rfl) ?_
        refine lv_bipush (v := 40) hx hb dX6_renew_12 (by decide) ?_
        refine lv_icmp_le (tgt := 18) hx hb dX6_renew_14 (by decide) (fun c35 => ?_) (fun c35 => ?_)
        · skip
          have n36 : nn ≤ 40 := by have t := leI c35; rw [nI_toInt (n := nn) (by omega)] at t; have : (40 : Int32).toInt = 40 := (by decide); omega
          refine lv_aload_n hx hb dX6_renew_18 rfl (lv_at hl 0 rfl) ?_
          refine va_get (D := (dC, dI)) (ci := 6) (v := .ref la) (C := RX6) (T := TX6) (N := 7) hx hb hg inG6 hown hK.1 hP 0 rfl rfl 0 (by decide) (hg _ wt_276) (fun _ h9 => h9) rfl dX6_renew_19 ?_
          refine lv_iload_n hx hb dX6_renew_22 rfl (lv_at hl 1 rfl) ?_
          refine lv_iload_n hx hb dX6_renew_23 rfl (lv_at hl 2 rfl) ?_
          refine va_iast hx hb hK.1 hP hD hS 1 0 rfl rfl (vp_in_iff.mpr ⟨by decide, by decide⟩) dX6_renew_24 (fun H locs hP hD hS => ?_)
          have hP : va_P (dC, dI) vwCl [(h0, .inr (6, [.ref la, .ref si, .ref ce, .int 0, .int 0, .ref fi, .ref se])), (la, .inl (G 0, 4, .inl (upd (upd (upd (upd (upd (fun _ => 0) 0 (-1)) 1 (-1)) 2 (-1)) 3 (-1)) 2 lane))), (si, .inl (G 0, 4, .inl (fun _ => 0))), (ce, .inl (G 4, 4, .inr (.inr (.inr (.inr (fun i => if i < 4 then some (rc i) else none)))))), ((rc 0), .inl (G 0, 40, .inl (fun _ => 0))), ((rc 1), .inl (G 0, 40, .inl (fun _ => 0))), ((rc 2), .inl (G 0, 40, .inl (fun _ => 0))), ((rc 3), .inl (G 0, 40, .inl (fun _ => 0)))] H := hP
          have hD : va_D A [(h0, .inr (6, [.ref la, .ref si, .ref ce, .int 0, .int 0, .ref fi, .ref se])), (la, .inl (G 0, 4, .inl (upd (upd (upd (upd (upd (fun _ => 0) 0 (-1)) 1 (-1)) 2 (-1)) 3 (-1)) 2 lane))), (si, .inl (G 0, 4, .inl (fun _ => 0))), (ce, .inl (G 4, 4, .inr (.inr (.inr (.inr (fun i => if i < 4 then some (rc i) else none)))))), ((rc 0), .inl (G 0, 40, .inl (fun _ => 0))), ((rc 1), .inl (G 0, 40, .inl (fun _ => 0))), ((rc 2), .inl (G 0, 40, .inl (fun _ => 0))), ((rc 3), .inl (G 0, 40, .inl (fun _ => 0)))] := hD
          refine lv_aload_n hx hb dX6_renew_25 rfl (lv_at hl 0 rfl) ?_
          refine va_get (D := (dC, dI)) (ci := 6) (v := .ref si) (C := RX6) (T := TX6) (N := 7) hx hb hg inG6 hown hK.1 hP 0 rfl rfl 1 (by decide) (hg _ wt_277) (fun _ h9 => h9) rfl dX6_renew_26 ?_
          refine lv_iload_n hx hb dX6_renew_29 rfl (lv_at hl 1 rfl) ?_
          refine lv_iload_n hx hb dX6_renew_30 rfl (lv_at hl 3 rfl) ?_
          refine va_iast hx hb hK.1 hP hD hS 2 0 rfl rfl (vp_in_iff.mpr ⟨by decide, by decide⟩) dX6_renew_31 (fun H locs hP hD hS => ?_)
          have hP : va_P (dC, dI) vwCl [(h0, .inr (6, [.ref la, .ref si, .ref ce, .int 0, .int 0, .ref fi, .ref se])), (la, .inl (G 0, 4, .inl (upd (upd (upd (upd (upd (fun _ => 0) 0 (-1)) 1 (-1)) 2 (-1)) 3 (-1)) 2 lane))), (si, .inl (G 0, 4, .inl (upd (fun _ => 0) 2 (nI nn)))), (ce, .inl (G 4, 4, .inr (.inr (.inr (.inr (fun i => if i < 4 then some (rc i) else none)))))), ((rc 0), .inl (G 0, 40, .inl (fun _ => 0))), ((rc 1), .inl (G 0, 40, .inl (fun _ => 0))), ((rc 2), .inl (G 0, 40, .inl (fun _ => 0))), ((rc 3), .inl (G 0, 40, .inl (fun _ => 0)))] H := hP
          have hD : va_D A [(h0, .inr (6, [.ref la, .ref si, .ref ce, .int 0, .int 0, .ref fi, .ref se])), (la, .inl (G 0, 4, .inl (upd (upd (upd (upd (upd (fun _ => 0) 0 (-1)) 1 (-1)) 2 (-1)) 3 (-1)) 2 lane))), (si, .inl (G 0, 4, .inl (upd (fun _ => 0) 2 (nI nn)))), (ce, .inl (G 4, 4, .inr (.inr (.inr (.inr (fun i => if i < 4 then some (rc i) else none)))))), ((rc 0), .inl (G 0, 40, .inl (fun _ => 0))), ((rc 1), .inl (G 0, 40, .inl (fun _ => 0))), ((rc 2), .inl (G 0, 40, .inl (fun _ => 0))), ((rc 3), .inl (G 0, 40, .inl (fun _ => 0)))] := hD
          refine lv_iconst (v := 0) hx hb dX6_renew_32 (by decide) ?_
          refine lv_istore (lv' := [(4, .int 0), (0, .ref h0), (1, .int 2), (2, .int lane), (3, .int (nI nn))]) hx hb dX6_renew_33 hl (by decide) rfl (fun ls hl => ?_)
          have loop35 : ∀ (nf j : Nat), nn + 1 ≤ j + nf → j ≤ nn → ∀ (g : Nat → Int32) (H : Heap) (locs : List Loc), va_P (dC, dI) vwCl [(h0, .inr (6, [.ref la, .ref si, .ref ce, .int 0, .int 0, .ref fi, .ref se])), (la, .inl (G 0, 4, .inl (upd (upd (upd (upd (upd (fun _ => 0) 0 (-1)) 1 (-1)) 2 (-1)) 3 (-1)) 2 lane))), (si, .inl (G 0, 4, .inl (upd (fun _ => 0) 2 (nI nn)))), (ce, .inl (G 4, 4, .inr (.inr (.inr (.inr (fun i => if i < 4 then some (rc i) else none)))))), ((rc 0), .inl (G 0, 40, .inl (fun _ => 0))), ((rc 1), .inl (G 0, 40, .inl (fun _ => 0))), ((rc 2), .inl (G 0, 40, .inl g)), ((rc 3), .inl (G 0, 40, .inl (fun _ => 0)))] H → va_D A [(h0, .inr (6, [.ref la, .ref si, .ref ce, .int 0, .int 0, .ref fi, .ref se])), (la, .inl (G 0, 4, .inl (upd (upd (upd (upd (upd (fun _ => 0) 0 (-1)) 1 (-1)) 2 (-1)) 3 (-1)) 2 lane))), (si, .inl (G 0, 4, .inl (upd (fun _ => 0) 2 (nI nn)))), (ce, .inl (G 4, 4, .inr (.inr (.inr (.inr (fun i => if i < 4 then some (rc i) else none)))))), ((rc 0), .inl (G 0, 40, .inl (fun _ => 0))), ((rc 1), .inl (G 0, 40, .inl (fun _ => 0))), ((rc 2), .inl (G 0, 40, .inl g)), ((rc 3), .inl (G 0, 40, .inl (fun _ => 0)))] → va_S A s.heap H locs → ∀ (ls : Array Slot), lv_has ls 5 [(4, .int (nI j)), (0, .ref h0), (1, .int 2), (2, .int lane), (3, .int (nI nn))] → W p l e (headSpec (Cond.code yX6_renew cX6_renew 5 none :: GT) ({ frames := 1, cells := 0, slots := 0, locals := 20 } : Room)).room s m ([.ref h0, .int (2 : Int32), .int lane, .int (nI nn)] : List Value).toArray below meth c H locs 0 0 (MQ below (va_Qv (fun (u : Unit) => match u with | _ => True) (fun (u : Unit) (t : State) => match u with | _ => va_P (dC, dI) vwCl [] t.heap ∧ va_D A []) A) ([.ref h0, .int (2 : Int32), .int lane, .int (nI nn)] : List Value).toArray s 0 0 A) (F0 m 35 ls []) := by
            intro nf
            induction nf with
            | zero => intro j h1 h2; exact absurd h1 (by omega)
            | succ nf ih35 =>
              intro j hn37 hj38 g H locs hP hD hS ls hl
              refine lv_iload hx hb dX6_renew_35 (lv_at hl 0 rfl) ?_
              refine lv_iload_n hx hb dX6_renew_37 rfl (lv_at hl 4 rfl) ?_
              refine lv_icmp_ge (tgt := 57) hx hb dX6_renew_38 (by decide) (fun c39 => ?_) (fun c39 => ?_)
              · skip
                have n40 : nn ≤ j := by have t := leI c39; rw [nI_toInt (n := j) (by omega)] at t; rw [nI_toInt (n := nn) (by omega)] at t; omega
                have hP9 := hP.sub (ws' := []) [] rfl
                have hD9 := hD.sub (ws' := []) [] (by decide) rfl
                refine W.widen (k := 0) (n := 0) (by omega) (by omega) ?_
                exact W.vret hx hb hr (fun t ht hW => ⟨⟨(), rfl, trivial, ⟨by rw [ht]; exact hP9, hD9⟩⟩, hS.F ht⟩) hS.2.2 dX6_renew_57
              · skip
                have n41 : j < nn := by have t := nleI c39; rw [nI_toInt (n := j) (by omega)] at t; rw [nI_toInt (n := nn) (by omega)] at t; omega
                refine lv_aload_n hx hb dX6_renew_41 rfl (lv_at hl 1 rfl) ?_
                refine va_get (D := (dC, dI)) (ci := 6) (v := .ref ce) (C := RX6) (T := TX6) (N := 7) hx hb hg inG6 hown hK.1 hP 0 rfl rfl 2 (by decide) (hg _ wt_278) (fun _ h9 => h9) rfl dX6_renew_42 ?_
                refine lv_iload_n hx hb dX6_renew_45 rfl (lv_at hl 2 rfl) ?_
                refine va_aldA hx hb hK.1 hP 3 4 rfl rfl (vp_in_iff.mpr ⟨by decide, by decide⟩) dX6_renew_46 ?_
                refine lv_cgv (y := .ref (rc 2)) (by rfl) ?_
                refine lv_iload hx hb dX6_renew_47 (lv_at hl 0 rfl) ?_
                refine lv_iconst (v := 0) hx hb dX6_renew_49 (by decide) ?_
                refine va_iast hx hb hK.1 hP hD hS 6 0 rfl rfl (vp_in_nI (by omega) (by decide)) dX6_renew_50 (fun H locs hP hD hS => ?_)
                rw [nI_clamp (by omega)] at hP hD
                have hP : va_P (dC, dI) vwCl [(h0, .inr (6, [.ref la, .ref si, .ref ce, .int 0, .int 0, .ref fi, .ref se])), (la, .inl (G 0, 4, .inl (upd (upd (upd (upd (upd (fun _ => 0) 0 (-1)) 1 (-1)) 2 (-1)) 3 (-1)) 2 lane))), (si, .inl (G 0, 4, .inl (upd (fun _ => 0) 2 (nI nn)))), (ce, .inl (G 4, 4, .inr (.inr (.inr (.inr (fun i => if i < 4 then some (rc i) else none)))))), ((rc 0), .inl (G 0, 40, .inl (fun _ => 0))), ((rc 1), .inl (G 0, 40, .inl (fun _ => 0))), ((rc 2), .inl (G 0, 40, .inl (upd g j 0))), ((rc 3), .inl (G 0, 40, .inl (fun _ => 0)))] H := hP
                have hD : va_D A [(h0, .inr (6, [.ref la, .ref si, .ref ce, .int 0, .int 0, .ref fi, .ref se])), (la, .inl (G 0, 4, .inl (upd (upd (upd (upd (upd (fun _ => 0) 0 (-1)) 1 (-1)) 2 (-1)) 3 (-1)) 2 lane))), (si, .inl (G 0, 4, .inl (upd (fun _ => 0) 2 (nI nn)))), (ce, .inl (G 4, 4, .inr (.inr (.inr (.inr (fun i => if i < 4 then some (rc i) else none)))))), ((rc 0), .inl (G 0, 40, .inl (fun _ => 0))), ((rc 1), .inl (G 0, 40, .inl (fun _ => 0))), ((rc 2), .inl (G 0, 40, .inl (upd g j 0))), ((rc 3), .inl (G 0, 40, .inl (fun _ => 0)))] := hD
                refine lv_iinc (v := nI (j + 1)) (lv' := [(4, .int (nI (j + 1))), (0, .ref h0), (1, .int 2), (2, .int lane), (3, .int (nI nn))]) hx hb dX6_renew_51 hl (k := 0) rfl (by rw [show Int32.ofInt 1 = nI 1 from by decide]; exact nI_add _ _) (by decide) rfl (fun ls hl => ?_)
                refine lv_goto (tgt := 35) hx hb dX6_renew_54 (by decide) ?_
                exact ih35 ((j + 1)) (by omega) (by omega) (upd g j 0) _ _ hP hD hS ls (lv_sub hl [0, 1, 2, 3, 4] rfl)
          exact loop35 (nn + 1) 0 (by omega) (by omega) (fun _ => 0) _ _ hP hD hS ls (lv_sub hl [0, 1, 2, 3, 4] rfl)
        · skip
          have n42 : 40 < nn := by have t := nleI c35; rw [nI_toInt (n := nn) (by omega)] at t; have : (40 : Int32).toInt = 40 := (by decide); omega
          have hP9 := hP.sub (ws' := []) [] rfl
          have hD9 := hD.sub (ws' := []) [] (by decide) rfl
          refine W.widen (k := 0) (n := 0) (by omega) (by omega) ?_
          exact W.vret hx hb hr (fun t ht hW => ⟨⟨(), rfl, trivial, ⟨by rw [ht]; exact hP9, hD9⟩⟩, hS.F ht⟩) hS.2.2 dX6_renew_17
  · skip
    refine lv_iload_n hx hb dX6_renew_0 rfl (lv_at hl 1 rfl) ?_
    have hPc := hP.sub (ws' := []) [] rfl
    refine va_calli (va_runS (As := [.int 3]) (rest := []) ⟨hx, hb, hml, hown, hg⟩ (c_X6_isSheet l dC dI G _ 3 ) (kwS hg mfX6_isSheet wt_833 ⟨Nat.le_of_ble_eq_true rfl, Nat.le_of_ble_eq_true rfl⟩) (preSR hK hPc) rfl rfl hl.1 rfl (lv_room (Nat.le_of_ble_eq_true rfl)) dX6_renew_1 ⟨Nat.le_of_ble_eq_true rfl, Nat.le_of_ble_eq_true rfl⟩) hS (fun q h1 h2 => absurd h2 (Nat.not_le.mpr h1)) (fun q h => hA q (Nat.le_trans hS.1 h)) (fun r43 ur43 t H1 locs ht hvm w44 hB hz1 hk1 hS => ?_)
    have hP := keepR hP hk1
    obtain ⟨w44, w44x⟩ := w44
    try simp only [l_ii, show (0 : Int32).toInt = 0 from by decide, show (3 : Int32).toInt = 3 from by decide, show (4 : Int32).toInt = 4 from by decide] at w44
    have w44 : r43 = 1 := w44.trans (if_pos (by omega))
    subst w44
    refine lv_if_eq (tgt := 17) hx hb dX6_renew_4 (by decide) (fun c45 => ?_) (fun c45 => ?_)
    · skip
      exact absurd c45 (by decide)
    · skip
      refine lv_iload_n hx hb dX6_renew_7 rfl (lv_at hl 3 rfl) ?_
      refine lv_if_lt (tgt := 17) hx hb dX6_renew_8 (by decide) (fun c46 => ?_) (fun c46 => ?_)
      · skip
        have n47 : nn < 0 := by have t := ltI c46; rw [nI_toInt (n := nn) (by omega)] at t; have : (0 : Int32).toInt = 0 := (by decide); omega
        have hP9 := hP.sub (ws' := []) [] rfl
        have hD9 := hD.sub (ws' := []) [] (by decide) rfl
        refine W.widen (k := 0) (n := 0) (by omega) (by omega) ?_
        exact W.vret hx hb hr (fun t ht hW => ⟨⟨(), rfl, trivial, ⟨by rw [ht]; exact hP9, hD9⟩⟩, hS.F ht⟩) hS.2.2 dX6_renew_17
      · skip
        have n48 : 0 ≤ nn := by have t := nltI c46; rw [nI_toInt (n := nn) (by omega)] at t; have : (0 : Int32).toInt = 0 := (by decide); omega
        refine lv_iload_n hx hb dX6_renew_11 rfl (lv_at hl 3 rfl) ?_
        refine lv_bipush (v := 40) hx hb dX6_renew_12 (by decide) ?_
        refine lv_icmp_le (tgt := 18) hx hb dX6_renew_14 (by decide) (fun c49 => ?_) (fun c49 => ?_)
        · skip
          have n50 : nn ≤ 40 := by have t := leI c49; rw [nI_toInt (n := nn) (by omega)] at t; have : (40 : Int32).toInt = 40 := (by decide); omega
          refine lv_aload_n hx hb dX6_renew_18 rfl (lv_at hl 0 rfl) ?_
          refine va_get (D := (dC, dI)) (ci := 6) (v := .ref la) (C := RX6) (T := TX6) (N := 7) hx hb hg inG6 hown hK.1 hP 0 rfl rfl 0 (by decide) (hg _ wt_276) (fun _ h9 => h9) rfl dX6_renew_19 ?_
          refine lv_iload_n hx hb dX6_renew_22 rfl (lv_at hl 1 rfl) ?_
          refine lv_iload_n hx hb dX6_renew_23 rfl (lv_at hl 2 rfl) ?_
          refine va_iast hx hb hK.1 hP hD hS 1 0 rfl rfl (vp_in_iff.mpr ⟨by decide, by decide⟩) dX6_renew_24 (fun H locs hP hD hS => ?_)
          have hP : va_P (dC, dI) vwCl [(h0, .inr (6, [.ref la, .ref si, .ref ce, .int 0, .int 0, .ref fi, .ref se])), (la, .inl (G 0, 4, .inl (upd (upd (upd (upd (upd (fun _ => 0) 0 (-1)) 1 (-1)) 2 (-1)) 3 (-1)) 3 lane))), (si, .inl (G 0, 4, .inl (fun _ => 0))), (ce, .inl (G 4, 4, .inr (.inr (.inr (.inr (fun i => if i < 4 then some (rc i) else none)))))), ((rc 0), .inl (G 0, 40, .inl (fun _ => 0))), ((rc 1), .inl (G 0, 40, .inl (fun _ => 0))), ((rc 2), .inl (G 0, 40, .inl (fun _ => 0))), ((rc 3), .inl (G 0, 40, .inl (fun _ => 0)))] H := hP
          have hD : va_D A [(h0, .inr (6, [.ref la, .ref si, .ref ce, .int 0, .int 0, .ref fi, .ref se])), (la, .inl (G 0, 4, .inl (upd (upd (upd (upd (upd (fun _ => 0) 0 (-1)) 1 (-1)) 2 (-1)) 3 (-1)) 3 lane))), (si, .inl (G 0, 4, .inl (fun _ => 0))), (ce, .inl (G 4, 4, .inr (.inr (.inr (.inr (fun i => if i < 4 then some (rc i) else none)))))), ((rc 0), .inl (G 0, 40, .inl (fun _ => 0))), ((rc 1), .inl (G 0, 40, .inl (fun _ => 0))), ((rc 2), .inl (G 0, 40, .inl (fun _ => 0))), ((rc 3), .inl (G 0, 40, .inl (fun _ => 0)))] := hD
          refine lv_aload_n hx hb dX6_renew_25 rfl (lv_at hl 0 rfl) ?_
          refine va_get (D := (dC, dI)) (ci := 6) (v := .ref si) (C := RX6) (T := TX6) (N := 7) hx hb hg inG6 hown hK.1 hP 0 rfl rfl 1 (by decide) (hg _ wt_277) (fun _ h9 => h9) rfl dX6_renew_26 ?_
          refine lv_iload_n hx hb dX6_renew_29 rfl (lv_at hl 1 rfl) ?_
          refine lv_iload_n hx hb dX6_renew_30 rfl (lv_at hl 3 rfl) ?_
          refine va_iast hx hb hK.1 hP hD hS 2 0 rfl rfl (vp_in_iff.mpr ⟨by decide, by decide⟩) dX6_renew_31 (fun H locs hP hD hS => ?_)
          have hP : va_P (dC, dI) vwCl [(h0, .inr (6, [.ref la, .ref si, .ref ce, .int 0, .int 0, .ref fi, .ref se])), (la, .inl (G 0, 4, .inl (upd (upd (upd (upd (upd (fun _ => 0) 0 (-1)) 1 (-1)) 2 (-1)) 3 (-1)) 3 lane))), (si, .inl (G 0, 4, .inl (upd (fun _ => 0) 3 (nI nn)))), (ce, .inl (G 4, 4, .inr (.inr (.inr (.inr (fun i => if i < 4 then some (rc i) else none)))))), ((rc 0), .inl (G 0, 40, .inl (fun _ => 0))), ((rc 1), .inl (G 0, 40, .inl (fun _ => 0))), ((rc 2), .inl (G 0, 40, .inl (fun _ => 0))), ((rc 3), .inl (G 0, 40, .inl (fun _ => 0)))] H := hP
          have hD : va_D A [(h0, .inr (6, [.ref la, .ref si, .ref ce, .int 0, .int 0, .ref fi, .ref se])), (la, .inl (G 0, 4, .inl (upd (upd (upd (upd (upd (fun _ => 0) 0 (-1)) 1 (-1)) 2 (-1)) 3 (-1)) 3 lane))), (si, .inl (G 0, 4, .inl (upd (fun _ => 0) 3 (nI nn)))), (ce, .inl (G 4, 4, .inr (.inr (.inr (.inr (fun i => if i < 4 then some (rc i) else none)))))), ((rc 0), .inl (G 0, 40, .inl (fun _ => 0))), ((rc 1), .inl (G 0, 40, .inl (fun _ => 0))), ((rc 2), .inl (G 0, 40, .inl (fun _ => 0))), ((rc 3), .inl (G 0, 40, .inl (fun _ => 0)))] := hD
          refine lv_iconst (v := 0) hx hb dX6_renew_32 (by decide) ?_
          refine lv_istore (lv' := [(4, .int 0), (0, .ref h0), (1, .int 3), (2, .int lane), (3, .int (nI nn))]) hx hb dX6_renew_33 hl (by decide) rfl (fun ls hl => ?_)
          have loop35 : ∀ (nf j : Nat), nn + 1 ≤ j + nf → j ≤ nn → ∀ (g : Nat → Int32) (H : Heap) (locs : List Loc), va_P (dC, dI) vwCl [(h0, .inr (6, [.ref la, .ref si, .ref ce, .int 0, .int 0, .ref fi, .ref se])), (la, .inl (G 0, 4, .inl (upd (upd (upd (upd (upd (fun _ => 0) 0 (-1)) 1 (-1)) 2 (-1)) 3 (-1)) 3 lane))), (si, .inl (G 0, 4, .inl (upd (fun _ => 0) 3 (nI nn)))), (ce, .inl (G 4, 4, .inr (.inr (.inr (.inr (fun i => if i < 4 then some (rc i) else none)))))), ((rc 0), .inl (G 0, 40, .inl (fun _ => 0))), ((rc 1), .inl (G 0, 40, .inl (fun _ => 0))), ((rc 2), .inl (G 0, 40, .inl (fun _ => 0))), ((rc 3), .inl (G 0, 40, .inl g))] H → va_D A [(h0, .inr (6, [.ref la, .ref si, .ref ce, .int 0, .int 0, .ref fi, .ref se])), (la, .inl (G 0, 4, .inl (upd (upd (upd (upd (upd (fun _ => 0) 0 (-1)) 1 (-1)) 2 (-1)) 3 (-1)) 3 lane))), (si, .inl (G 0, 4, .inl (upd (fun _ => 0) 3 (nI nn)))), (ce, .inl (G 4, 4, .inr (.inr (.inr (.inr (fun i => if i < 4 then some (rc i) else none)))))), ((rc 0), .inl (G 0, 40, .inl (fun _ => 0))), ((rc 1), .inl (G 0, 40, .inl (fun _ => 0))), ((rc 2), .inl (G 0, 40, .inl (fun _ => 0))), ((rc 3), .inl (G 0, 40, .inl g))] → va_S A s.heap H locs → ∀ (ls : Array Slot), lv_has ls 5 [(4, .int (nI j)), (0, .ref h0), (1, .int 3), (2, .int lane), (3, .int (nI nn))] → W p l e (headSpec (Cond.code yX6_renew cX6_renew 5 none :: GT) ({ frames := 1, cells := 0, slots := 0, locals := 20 } : Room)).room s m ([.ref h0, .int (3 : Int32), .int lane, .int (nI nn)] : List Value).toArray below meth c H locs 0 0 (MQ below (va_Qv (fun (u : Unit) => match u with | _ => True) (fun (u : Unit) (t : State) => match u with | _ => va_P (dC, dI) vwCl [] t.heap ∧ va_D A []) A) ([.ref h0, .int (3 : Int32), .int lane, .int (nI nn)] : List Value).toArray s 0 0 A) (F0 m 35 ls []) := by
            intro nf
            induction nf with
            | zero => intro j h1 h2; exact absurd h1 (by omega)
            | succ nf ih35 =>
              intro j hn51 hj52 g H locs hP hD hS ls hl
              refine lv_iload hx hb dX6_renew_35 (lv_at hl 0 rfl) ?_
              refine lv_iload_n hx hb dX6_renew_37 rfl (lv_at hl 4 rfl) ?_
              refine lv_icmp_ge (tgt := 57) hx hb dX6_renew_38 (by decide) (fun c53 => ?_) (fun c53 => ?_)
              · skip
                have n54 : nn ≤ j := by have t := leI c53; rw [nI_toInt (n := j) (by omega)] at t; rw [nI_toInt (n := nn) (by omega)] at t; omega
                have hP9 := hP.sub (ws' := []) [] rfl
                have hD9 := hD.sub (ws' := []) [] (by decide) rfl
                refine W.widen (k := 0) (n := 0) (by omega) (by omega) ?_
                exact W.vret hx hb hr (fun t ht hW => ⟨⟨(), rfl, trivial, ⟨by rw [ht]; exact hP9, hD9⟩⟩, hS.F ht⟩) hS.2.2 dX6_renew_57
              · skip
                have n55 : j < nn := by have t := nleI c53; rw [nI_toInt (n := j) (by omega)] at t; rw [nI_toInt (n := nn) (by omega)] at t; omega
                refine lv_aload_n hx hb dX6_renew_41 rfl (lv_at hl 1 rfl) ?_
                refine va_get (D := (dC, dI)) (ci := 6) (v := .ref ce) (C := RX6) (T := TX6) (N := 7) hx hb hg inG6 hown hK.1 hP 0 rfl rfl 2 (by decide) (hg _ wt_278) (fun _ h9 => h9) rfl dX6_renew_42 ?_
                refine lv_iload_n hx hb dX6_renew_45 rfl (lv_at hl 2 rfl) ?_
                refine va_aldA hx hb hK.1 hP 3 4 rfl rfl (vp_in_iff.mpr ⟨by decide, by decide⟩) dX6_renew_46 ?_
                refine lv_cgv (y := .ref (rc 3)) (by rfl) ?_
                refine lv_iload hx hb dX6_renew_47 (lv_at hl 0 rfl) ?_
                refine lv_iconst (v := 0) hx hb dX6_renew_49 (by decide) ?_
                refine va_iast hx hb hK.1 hP hD hS 7 0 rfl rfl (vp_in_nI (by omega) (by decide)) dX6_renew_50 (fun H locs hP hD hS => ?_)
                rw [nI_clamp (by omega)] at hP hD
                have hP : va_P (dC, dI) vwCl [(h0, .inr (6, [.ref la, .ref si, .ref ce, .int 0, .int 0, .ref fi, .ref se])), (la, .inl (G 0, 4, .inl (upd (upd (upd (upd (upd (fun _ => 0) 0 (-1)) 1 (-1)) 2 (-1)) 3 (-1)) 3 lane))), (si, .inl (G 0, 4, .inl (upd (fun _ => 0) 3 (nI nn)))), (ce, .inl (G 4, 4, .inr (.inr (.inr (.inr (fun i => if i < 4 then some (rc i) else none)))))), ((rc 0), .inl (G 0, 40, .inl (fun _ => 0))), ((rc 1), .inl (G 0, 40, .inl (fun _ => 0))), ((rc 2), .inl (G 0, 40, .inl (fun _ => 0))), ((rc 3), .inl (G 0, 40, .inl (upd g j 0)))] H := hP
                have hD : va_D A [(h0, .inr (6, [.ref la, .ref si, .ref ce, .int 0, .int 0, .ref fi, .ref se])), (la, .inl (G 0, 4, .inl (upd (upd (upd (upd (upd (fun _ => 0) 0 (-1)) 1 (-1)) 2 (-1)) 3 (-1)) 3 lane))), (si, .inl (G 0, 4, .inl (upd (fun _ => 0) 3 (nI nn)))), (ce, .inl (G 4, 4, .inr (.inr (.inr (.inr (fun i => if i < 4 then some (rc i) else none)))))), ((rc 0), .inl (G 0, 40, .inl (fun _ => 0))), ((rc 1), .inl (G 0, 40, .inl (fun _ => 0))), ((rc 2), .inl (G 0, 40, .inl (fun _ => 0))), ((rc 3), .inl (G 0, 40, .inl (upd g j 0)))] := hD
                refine lv_iinc (v := nI (j + 1)) (lv' := [(4, .int (nI (j + 1))), (0, .ref h0), (1, .int 3), (2, .int lane), (3, .int (nI nn))]) hx hb dX6_renew_51 hl (k := 0) rfl (by rw [show Int32.ofInt 1 = nI 1 from by decide]; exact nI_add _ _) (by decide) rfl (fun ls hl => ?_)
                refine lv_goto (tgt := 35) hx hb dX6_renew_54 (by decide) ?_
                exact ih35 ((j + 1)) (by omega) (by omega) (upd g j 0) _ _ hP hD hS ls (lv_sub hl [0, 1, 2, 3, 4] rfl)
          exact loop35 (nn + 1) 0 (by omega) (by omega) (fun _ => 0) _ _ hP hD hS ls (lv_sub hl [0, 1, 2, 3, 4] rfl)
        · skip
          have n56 : 40 < nn := by have t := nleI c49; rw [nI_toInt (n := nn) (by omega)] at t; have : (40 : Int32).toInt = 40 := (by decide); omega
          have hP9 := hP.sub (ws' := []) [] rfl
          have hD9 := hD.sub (ws' := []) [] (by decide) rfl
          refine W.widen (k := 0) (n := 0) (by omega) (by omega) ?_
          exact W.vret hx hb hr (fun t ht hW => ⟨⟨(), rfl, trivial, ⟨by rw [ht]; exact hP9, hD9⟩⟩, hS.F ht⟩) hS.2.2 dX6_renew_17

set_option maxHeartbeats 4000000 in
set_option maxRecDepth 100000 in
theorem c_X6_takePairs (l : Launch) (dC : Nat → ClassId) (dI : Nat → Nat → Nat) (G : Nat → ClassId) (sz : Nat) (h0 la si ce fi se : Nat) (k lane f n : Int32) (hk0 : 0 ≤ k.toInt ∧ k.toInt < 4) : Met l yX6_takePairs (Cond.code yX6_takePairs cX6_takePairs 8 none :: GT) ({ frames := 1, cells := 0, slots := 0, locals := 23 } : Room) (PcW [.ref h0, .int k, .int lane, .int f, .int n] dC dI G [(h0, .inr (6, [.ref la, .ref si, .ref ce, .int 0, .int 0, .ref fi, .ref se])), (la, .inl (G 0, 4, .inl (upd (upd (upd (upd (fun _ => 0) 0 (-1)) 1 (-1)) 2 (-1)) 3 (-1))))] sz) (va_Qv (fun (u : Int32) => match u with | u => True) (fun (u : Int32) (t : State) => match u with | u => va_P (dC, dI) vwCl [(h0, .inr (6, [.ref la, .ref si, .ref ce, .int u, .int 0, .ref fi, .ref se]))] t.heap ∧ va_D (va_A [(h0, .inr (6, [.ref la, .ref si, .ref ce, .int 0, .int 0, .ref fi, .ref se])), (la, .inl (G 0, 4, .inl (upd (upd (upd (upd (fun _ => 0) 0 (-1)) 1 (-1)) 2 (-1)) 3 (-1))))] sz) [(h0, .inr (6, [.ref la, .ref si, .ref ce, .int u, .int 0, .ref fi, .ref se]))]) (va_A [(h0, .inr (6, [.ref la, .ref si, .ref ce, .int 0, .int 0, .ref fi, .ref se])), (la, .inl (G 0, 4, .inl (upd (upd (upd (upd (fun _ => 0) 0 (-1)) 1 (-1)) 2 (-1)) 3 (-1))))] sz)) 0 0 (va_A [(h0, .inr (6, [.ref la, .ref si, .ref ce, .int 0, .int 0, .ref fi, .ref se])), (la, .inl (G 0, 4, .inl (upd (upd (upd (upd (fun _ => 0) 0 (-1)) 1 (-1)) 2 (-1)) 3 (-1))))] sz) := by
  refine Met.ofW (cc := cX6_takePairs) (maxL := 8) (ret := none) (by decide) rfl ?_
  intro p e s m args below meth c s₁ B hml hv
  obtain ⟨rfl, hsz, hP, hK, hD0⟩ := hv
  have hx := B.exec
  have hb := B.bytes
  have hr := B.returns
  have hg : ∀ w ∈ GT, w.before ([.ref h0, .int k, .int lane, .int f, .int n] : List Value).toArray s = true := fun w h => atoms_spec (ws := Cond.code yX6_takePairs cX6_takePairs 8 none :: GT) B.pre w (List.mem_cons_of_mem _ h)
  have hown : s.vm.findClass RX6 = some m.cls := findClass_of_methodNamed B.named
  have hlocks := B.notSynchronized
  subst hsz
  have hD := hD0.self (sz := s.heap.size)
  generalize hAe : va_A [(h0, .inr (6, [.ref la, .ref si, .ref ce, .int 0, .int 0, .ref fi, .ref se])), (la, .inl (G 0, 4, .inl (upd (upd (upd (upd (fun _ => 0) 0 (-1)) 1 (-1)) 2 (-1)) 3 (-1))))] s.heap.size = A at hD ⊢
  have hA : ∀ q : Nat, s.heap.size ≤ q → A q := fun q h => by rw [← hAe]; exact Or.inr h
  have hS : va_S A s.heap s.heap [] := va_S.rf
  have hl := lv_entry ([.ref h0, .int k, .int lane, .int f, .int n]) (n := 8) (Nat.le_of_ble_eq_true rfl)
  rw [lg_entry_eq]
  generalize (lg_sl ([.ref h0, .int k, .int lane, .int f, .int n]) ++ List.replicate (8 - (lg_sl ([.ref h0, .int k, .int lane, .int f, .int n])).length) Slot.unset).toArray = ls at hl ⊢
  have hl : lv_has ls 8 [(0, .ref h0), (1, .int k), (2, .int lane), (3, .int f), (4, .int n)] := hl
  have hsp : k = 0 ∨ k = 1 ∨ k = 2 ∨ k = 3 := by
    have : (0 : Int32).toInt = 0 := by decide
    have : (1 : Int32).toInt = 1 := by decide
    have : (2 : Int32).toInt = 2 := by decide
    have : (3 : Int32).toInt = 3 := by decide
    rcases (show k.toInt = 0 ∨ k.toInt = 1 ∨ k.toInt = 2 ∨ k.toInt = 3 by omega) with q | q | q | q
    · exact Or.inl (Int32.toInt_inj.mp (by rw [q]; rfl))
    · exact Or.inr (Or.inl (Int32.toInt_inj.mp (by rw [q]; rfl)))
    · exact Or.inr (Or.inr (Or.inl (Int32.toInt_inj.mp (by rw [q]; rfl))))
    · exact Or.inr (Or.inr (Or.inr ((Int32.toInt_inj.mp (by rw [q]; rfl)))))
  rcases hsp with rfl | rfl | rfl | rfl
  · skip
    refine lv_aload_n hx hb dX6_takePairs_0 rfl (lv_at hl 0 rfl) ?_
    refine lv_iconst (v := 0) hx hb dX6_takePairs_1 (by decide) ?_
    refine va_put (D := (dC, dI)) (ci := 6) (v := .int 0) (ty := .int) (C := RX6) (T := TX6) (N := 7) hx hb hg inG6 tyX6 tyX6_ok nmX6 hown hK.1 hP hD hS 0 rfl rfl 4 (by decide) (hg _ wt_281) (fun _ h9 => h9) rfl (by decide +kernel) rfl rfl (Nat.le_of_ble_eq_true rfl) dX6_takePairs_2 (fun H locs hP hD hS => ?_)
    have hP : va_P (dC, dI) vwCl [(h0, .inr (6, [.ref la, .ref si, .ref ce, .int 0, .int 0, .ref fi, .ref se])), (la, .inl (G 0, 4, .inl (upd (upd (upd (upd (fun _ => 0) 0 (-1)) 1 (-1)) 2 (-1)) 3 (-1))))] H := hP
    have hD : va_D A [(h0, .inr (6, [.ref la, .ref si, .ref ce, .int 0, .int 0, .ref fi, .ref se])), (la, .inl (G 0, 4, .inl (upd (upd (upd (upd (fun _ => 0) 0 (-1)) 1 (-1)) 2 (-1)) 3 (-1))))] := hD
    refine lv_aload_n hx hb dX6_takePairs_5 rfl (lv_at hl 0 rfl) ?_
    refine lv_aload_n hx hb dX6_takePairs_6 rfl (lv_at hl 0 rfl) ?_
    refine va_get (D := (dC, dI)) (ci := 6) (v := .ref la) (C := RX6) (T := TX6) (N := 7) hx hb hg inG6 hown hK.1 hP 0 rfl rfl 0 (by decide) (hg _ wt_276) (fun _ h9 => h9) rfl dX6_takePairs_7 ?_
    refine lv_iload_n hx hb dX6_takePairs_10 rfl (lv_at hl 1 rfl) ?_
    refine va_iald hx hb hK.1 hP 1 0 rfl rfl (vp_in_iff.mpr ⟨by decide, by decide⟩) dX6_takePairs_11 ?_
    refine lv_cg (y := (-1)) (by rfl) ?_
    refine lv_iconst (v := (-1)) hx hb dX6_takePairs_12 (by decide) ?_
    refine lv_icmp_eq (tgt := 26) hx hb dX6_takePairs_13 (by decide) (fun c1 => ?_) (fun c1 => ?_)
    · skip
      refine lv_iconst (v := 0) hx hb dX6_takePairs_26 (by decide) ?_
      refine lv_goto (tgt := 31) hx hb dX6_takePairs_27 (by decide) ?_
      refine va_put (D := (dC, dI)) (ci := 6) (v := .int 0) (ty := .int) (C := RX6) (T := TX6) (N := 7) hx hb hg inG6 tyX6 tyX6_ok nmX6 hown hK.1 hP hD hS 0 rfl rfl 3 (by decide) (hg _ wt_279) (fun _ h9 => h9) rfl (by decide +kernel) rfl rfl (Nat.le_of_ble_eq_true rfl) dX6_takePairs_31 (fun H locs hP hD hS => ?_)
      have hP : va_P (dC, dI) vwCl [(h0, .inr (6, [.ref la, .ref si, .ref ce, .int 0, .int 0, .ref fi, .ref se])), (la, .inl (G 0, 4, .inl (upd (upd (upd (upd (fun _ => 0) 0 (-1)) 1 (-1)) 2 (-1)) 3 (-1))))] H := hP
      have hD : va_D A [(h0, .inr (6, [.ref la, .ref si, .ref ce, .int 0, .int 0, .ref fi, .ref se])), (la, .inl (G 0, 4, .inl (upd (upd (upd (upd (fun _ => 0) 0 (-1)) 1 (-1)) 2 (-1)) 3 (-1))))] := hD
      refine lv_iconst (v := 0) hx hb dX6_takePairs_34 (by decide) ?_
      refine lv_istore (lv' := [(5, .int 0), (0, .ref h0), (1, .int 0), (2, .int lane), (3, .int f), (4, .int n)]) hx hb dX6_takePairs_35 hl (by decide) rfl (fun ls hl => ?_)
      refine lv_iload hx hb dX6_takePairs_37 (lv_at hl 0 rfl) ?_
      refine lv_iload hx hb dX6_takePairs_39 (lv_at hl 5 rfl) ?_
      refine lv_icmp_ge (tgt := 160) hx hb dX6_takePairs_41 (by decide) (fun c2 => ?_) (fun c2 => ?_)
      · skip
        have hP9 := hP.sub (ws' := [(h0, .inr (6, [.ref la, .ref si, .ref ce, .int 0, .int 0, .ref fi, .ref se]))]) [0] rfl
        have hD9 := hD.sub (ws' := [(h0, .inr (6, [.ref la, .ref si, .ref ce, .int 0, .int 0, .ref fi, .ref se]))]) [0] (by decide) rfl
        refine W.widen (k := 0) (n := 0) (by omega) (by omega) ?_
        exact W.vret hx hb hr (fun t ht hW => ⟨⟨0, rfl, trivial, ⟨by rw [ht]; exact hP9, hD9⟩⟩, hS.F ht⟩) hS.2.2 dX6_takePairs_160
      · skip
        refine lv_iload hx hb dX6_takePairs_44 (lv_at hl 0 rfl) ?_
        refine lv_bipush (v := 20) hx hb dX6_takePairs_46 (by decide) ?_
        refine lv_icmp_ge (tgt := 160) hx hb dX6_takePairs_48 (by decide) (fun c3 => ?_) (fun c3 => ?_)
        · skip
          exact absurd c3 (by decide)
        · skip
          refine lv_aload_n hx hb dX6_takePairs_51 rfl (lv_at hl 1 rfl) ?_
          refine va_get (D := (dC, dI)) (ci := 6) (v := .int 0) (C := RX6) (T := TX6) (N := 7) hx hb hg inG6 hown hK.1 hP 0 rfl rfl 3 (by decide) (hg _ wt_279) (fun _ h9 => h9) rfl dX6_takePairs_52 ?_
          refine lv_if_ne (tgt := 160) hx hb dX6_takePairs_55 (by decide) (fun c4 => ?_) (fun c4 => ?_)
          · skip
            exact absurd c4 (by decide)
          · skip
            refine lv_iload_n hx hb dX6_takePairs_58 rfl (lv_at hl 4 rfl) ?_
            refine lv_i2l (v := f.toInt64) hx hb dX6_takePairs_59 rfl ?_
            refine lv_ldc2 (v := 2) hx hb hown (hg _ wt_855) dX6_takePairs_60 ?_
            refine lv_iload hx hb dX6_takePairs_63 (lv_at hl 0 rfl) ?_
            refine lv_i2l (v := 0) hx hb dX6_takePairs_65 (by decide) ?_
            refine lv_lmul hx hb dX6_takePairs_66 ?_
            refine lv_cgl (y := 0) (by decide) ?_
            refine lv_ladd hx hb dX6_takePairs_67 ?_
            refine lv_lstore (lv' := [(6, .long (f.toInt64 + 0)), (5, .int 0), (0, .ref h0), (1, .int 0), (2, .int lane), (3, .int f), (4, .int n)]) hx hb dX6_takePairs_68 hl (by decide) rfl (fun ls hl => ?_)
            refine lv_aload_n hx hb dX6_takePairs_70 rfl (lv_at hl 2 rfl) ?_
            refine lv_aload_n hx hb dX6_takePairs_71 rfl (lv_at hl 2 rfl) ?_
            refine lv_iload_n hx hb dX6_takePairs_72 rfl (lv_at hl 3 rfl) ?_
            refine lv_lload hx hb dX6_takePairs_73 (lv_at hl 0 rfl) ?_
            have hPc := hP.sub (ws' := [(h0, .inr (6, [.ref la, .ref si, .ref ce, .int 0, .int 0, .ref fi, .ref se])), (la, .inl (G 0, 4, .inl (upd (upd (upd (upd (fun _ => 0) 0 (-1)) 1 (-1)) 2 (-1)) 3 (-1))))]) [0, 1] rfl
            refine va_calli (va_runV (As := [.int 0, .long (f.toInt64 + 0)]) (rest := [.ref h0]) ⟨hx, hb, hml, hown, hg⟩ (c_X6_faultAt l dC dI G _ h0 la si ce fi se 0 0 0 (f.toInt64 + 0) (by have t_c1 := eqI c1; have t_c2 := nleI c2; have t_c3 := nleI c3; have t_c4 := eqI c4; have : ((-1) : Int32).toInt = -1 := (by decide); have : (0 : Int32).toInt = 0 := (by decide); have : (20 : Int32).toInt = 20 := (by decide); omega)) (kwV hg mfX6_faultAt wt_846 ⟨Nat.le_of_ble_eq_true rfl, Nat.le_of_ble_eq_true rfl⟩) (preVR hK hPc (ci := 6) rfl rfl) rfl rfl hl.1 rfl (lv_room (Nat.le_of_ble_eq_true rfl)) dX6_takePairs_75 ⟨Nat.le_of_ble_eq_true rfl, Nat.le_of_ble_eq_true rfl⟩) hS (fun q h1 h2 => absurd h2 (Nat.not_le.mpr h1)) (fun q h => hA q (Nat.le_trans hS.1 h)) (fun r5 ur5 t H1 locs ht hvm w6 hB hz1 hk1 hS => ?_)
            have hP := keepR hP hk1
            obtain ⟨w6, w6x⟩ := w6
            subst w6
            refine va_put (D := (dC, dI)) (ci := 6) (v := .int 1) (ty := .int) (C := RX6) (T := TX6) (N := 7) hx hb hg inG6 tyX6 tyX6_ok nmX6 hown hK.1 hP hD hS 0 rfl rfl 3 (by decide) (hg _ wt_279) (fun _ h9 => h9) rfl (by decide +kernel) rfl rfl (Nat.le_of_ble_eq_true rfl) dX6_takePairs_78 (fun H locs hP hD hS => ?_)
            have hP : va_P (dC, dI) vwCl [(h0, .inr (6, [.ref la, .ref si, .ref ce, .int 1, .int 0, .ref fi, .ref se])), (la, .inl (G 0, 4, .inl (upd (upd (upd (upd (fun _ => 0) 0 (-1)) 1 (-1)) 2 (-1)) 3 (-1))))] H := hP
            have hD : va_D A [(h0, .inr (6, [.ref la, .ref si, .ref ce, .int 1, .int 0, .ref fi, .ref se])), (la, .inl (G 0, 4, .inl (upd (upd (upd (upd (fun _ => 0) 0 (-1)) 1 (-1)) 2 (-1)) 3 (-1))))] := hD
            refine lv_aload_n hx hb dX6_takePairs_81 rfl (lv_at hl 2 rfl) ?_
            refine va_get (D := (dC, dI)) (ci := 6) (v := .int 1) (C := RX6) (T := TX6) (N := 7) hx hb hg inG6 hown hK.1 hP 0 rfl rfl 3 (by decide) (hg _ wt_279) (fun _ h9 => h9) rfl dX6_takePairs_82 ?_
            refine lv_if_ne (tgt := 101) hx hb dX6_takePairs_85 (by decide) (fun c7 => ?_) (fun c7 => ?_)
            · skip
              refine lv_aload_n hx hb dX6_takePairs_101 rfl (lv_at hl 2 rfl) ?_
              refine va_get (D := (dC, dI)) (ci := 6) (v := .int 1) (C := RX6) (T := TX6) (N := 7) hx hb hg inG6 hown hK.1 hP 0 rfl rfl 3 (by decide) (hg _ wt_279) (fun _ h9 => h9) rfl dX6_takePairs_102 ?_
              refine lv_if_ne (tgt := 154) hx hb dX6_takePairs_105 (by decide) (fun c8 => ?_) (fun c8 => ?_)
              · skip
                refine lv_iinc (v := 1) (lv' := [(5, .int 1), (6, .long (f.toInt64 + 0)), (0, .ref h0), (1, .int 0), (2, .int lane), (3, .int f), (4, .int n)]) hx hb dX6_takePairs_154 hl (k := 1) rfl (by decide) (by decide) rfl (fun ls hl => ?_)
                refine lv_goto (tgt := 37) hx hb dX6_takePairs_157 (by decide) ?_
                refine lv_iload hx hb dX6_takePairs_37 (lv_at hl 0 rfl) ?_
                refine lv_iload hx hb dX6_takePairs_39 (lv_at hl 6 rfl) ?_
                refine lv_icmp_ge (tgt := 160) hx hb dX6_takePairs_41 (by decide) (fun c9 => ?_) (fun c9 => ?_)
                · skip
                  have hP9 := hP.sub (ws' := [(h0, .inr (6, [.ref la, .ref si, .ref ce, .int 1, .int 0, .ref fi, .ref se]))]) [0] rfl
                  have hD9 := hD.sub (ws' := [(h0, .inr (6, [.ref la, .ref si, .ref ce, .int 1, .int 0, .ref fi, .ref se]))]) [0] (by decide) rfl
                  refine W.widen (k := 0) (n := 0) (by omega) (by omega) ?_
                  exact W.vret hx hb hr (fun t ht hW => ⟨⟨1, rfl, trivial, ⟨by rw [ht]; exact hP9, hD9⟩⟩, hS.F ht⟩) hS.2.2 dX6_takePairs_160
                · skip
                  refine lv_iload hx hb dX6_takePairs_44 (lv_at hl 0 rfl) ?_
                  refine lv_bipush (v := 20) hx hb dX6_takePairs_46 (by decide) ?_
                  refine lv_icmp_ge (tgt := 160) hx hb dX6_takePairs_48 (by decide) (fun c10 => ?_) (fun c10 => ?_)
                  · skip
                    exact absurd c10 (by decide)
                  · skip
                    refine lv_aload_n hx hb dX6_takePairs_51 rfl (lv_at hl 2 rfl) ?_
                    refine va_get (D := (dC, dI)) (ci := 6) (v := .int 1) (C := RX6) (T := TX6) (N := 7) hx hb hg inG6 hown hK.1 hP 0 rfl rfl 3 (by decide) (hg _ wt_279) (fun _ h9 => h9) rfl dX6_takePairs_52 ?_
                    refine lv_if_ne (tgt := 160) hx hb dX6_takePairs_55 (by decide) (fun c11 => ?_) (fun c11 => ?_)
                    · skip
                      have hP9 := hP.sub (ws' := [(h0, .inr (6, [.ref la, .ref si, .ref ce, .int 1, .int 0, .ref fi, .ref se]))]) [0] rfl
                      have hD9 := hD.sub (ws' := [(h0, .inr (6, [.ref la, .ref si, .ref ce, .int 1, .int 0, .ref fi, .ref se]))]) [0] (by decide) rfl
                      refine W.widen (k := 0) (n := 0) (by omega) (by omega) ?_
                      exact W.vret hx hb hr (fun t ht hW => ⟨⟨1, rfl, trivial, ⟨by rw [ht]; exact hP9, hD9⟩⟩, hS.F ht⟩) hS.2.2 dX6_takePairs_160
                    · skip
                      exact absurd c11 (by decide)
              · skip
                exact absurd c8 (by decide)
            · skip
              exact absurd c7 (by decide)
    · skip
      exact absurd c1 (by decide)
  · skip
    refine lv_aload_n hx hb dX6_takePairs_0 rfl (lv_at hl 0 rfl) ?_
    refine lv_iconst (v := 0) hx hb dX6_takePairs_1 (by decide) ?_
    refine va_put (D := (dC, dI)) (ci := 6) (v := .int 0) (ty := .int) (C := RX6) (T := TX6) (N := 7) hx hb hg inG6 tyX6 tyX6_ok nmX6 hown hK.1 hP hD hS 0 rfl rfl 4 (by decide) (hg _ wt_281) (fun _ h9 => h9) rfl (by decide +kernel) rfl rfl (Nat.le_of_ble_eq_true rfl) dX6_takePairs_2 (fun H locs hP hD hS => ?_)
    have hP : va_P (dC, dI) vwCl [(h0, .inr (6, [.ref la, .ref si, .ref ce, .int 0, .int 0, .ref fi, .ref se])), (la, .inl (G 0, 4, .inl (upd (upd (upd (upd (fun _ => 0) 0 (-1)) 1 (-1)) 2 (-1)) 3 (-1))))] H := hP
    have hD : va_D A [(h0, .inr (6, [.ref la, .ref si, .ref ce, .int 0, .int 0, .ref fi, .ref se])), (la, .inl (G 0, 4, .inl (upd (upd (upd (upd (fun _ => 0) 0 (-1)) 1 (-1)) 2 (-1)) 3 (-1))))] := hD
    refine lv_aload_n hx hb dX6_takePairs_5 rfl (lv_at hl 0 rfl) ?_
    refine lv_aload_n hx hb dX6_takePairs_6 rfl (lv_at hl 0 rfl) ?_
    refine va_get (D := (dC, dI)) (ci := 6) (v := .ref la) (C := RX6) (T := TX6) (N := 7) hx hb hg inG6 hown hK.1 hP 0 rfl rfl 0 (by decide) (hg _ wt_276) (fun _ h9 => h9) rfl dX6_takePairs_7 ?_
    refine lv_iload_n hx hb dX6_takePairs_10 rfl (lv_at hl 1 rfl) ?_
    refine va_iald hx hb hK.1 hP 1 0 rfl rfl (vp_in_iff.mpr ⟨by decide, by decide⟩) dX6_takePairs_11 ?_
    refine lv_cg (y := (-1)) (by rfl) ?_
    refine lv_iconst (v := (-1)) hx hb dX6_takePairs_12 (by decide) ?_
    refine lv_icmp_eq (tgt := 26) hx hb dX6_takePairs_13 (by decide) (fun c12 => ?_) (fun c12 => ?_)
    · skip
      refine lv_iconst (v := 0) hx hb dX6_takePairs_26 (by decide) ?_
      refine lv_goto (tgt := 31) hx hb dX6_takePairs_27 (by decide) ?_
      refine va_put (D := (dC, dI)) (ci := 6) (v := .int 0) (ty := .int) (C := RX6) (T := TX6) (N := 7) hx hb hg inG6 tyX6 tyX6_ok nmX6 hown hK.1 hP hD hS 0 rfl rfl 3 (by decide) (hg _ wt_279) (fun _ h9 => h9) rfl (by decide +kernel) rfl rfl (Nat.le_of_ble_eq_true rfl) dX6_takePairs_31 (fun H locs hP hD hS => ?_)
      have hP : va_P (dC, dI) vwCl [(h0, .inr (6, [.ref la, .ref si, .ref ce, .int 0, .int 0, .ref fi, .ref se])), (la, .inl (G 0, 4, .inl (upd (upd (upd (upd (fun _ => 0) 0 (-1)) 1 (-1)) 2 (-1)) 3 (-1))))] H := hP
      have hD : va_D A [(h0, .inr (6, [.ref la, .ref si, .ref ce, .int 0, .int 0, .ref fi, .ref se])), (la, .inl (G 0, 4, .inl (upd (upd (upd (upd (fun _ => 0) 0 (-1)) 1 (-1)) 2 (-1)) 3 (-1))))] := hD
      refine lv_iconst (v := 0) hx hb dX6_takePairs_34 (by decide) ?_
      refine lv_istore (lv' := [(5, .int 0), (0, .ref h0), (1, .int 1), (2, .int lane), (3, .int f), (4, .int n)]) hx hb dX6_takePairs_35 hl (by decide) rfl (fun ls hl => ?_)
      refine lv_iload hx hb dX6_takePairs_37 (lv_at hl 0 rfl) ?_
      refine lv_iload hx hb dX6_takePairs_39 (lv_at hl 5 rfl) ?_
      refine lv_icmp_ge (tgt := 160) hx hb dX6_takePairs_41 (by decide) (fun c13 => ?_) (fun c13 => ?_)
      · skip
        have hP9 := hP.sub (ws' := [(h0, .inr (6, [.ref la, .ref si, .ref ce, .int 0, .int 0, .ref fi, .ref se]))]) [0] rfl
        have hD9 := hD.sub (ws' := [(h0, .inr (6, [.ref la, .ref si, .ref ce, .int 0, .int 0, .ref fi, .ref se]))]) [0] (by decide) rfl
        refine W.widen (k := 0) (n := 0) (by omega) (by omega) ?_
        exact W.vret hx hb hr (fun t ht hW => ⟨⟨0, rfl, trivial, ⟨by rw [ht]; exact hP9, hD9⟩⟩, hS.F ht⟩) hS.2.2 dX6_takePairs_160
      · skip
        refine lv_iload hx hb dX6_takePairs_44 (lv_at hl 0 rfl) ?_
        refine lv_bipush (v := 20) hx hb dX6_takePairs_46 (by decide) ?_
        refine lv_icmp_ge (tgt := 160) hx hb dX6_takePairs_48 (by decide) (fun c14 => ?_) (fun c14 => ?_)
        · skip
          exact absurd c14 (by decide)
        · skip
          refine lv_aload_n hx hb dX6_takePairs_51 rfl (lv_at hl 1 rfl) ?_
          refine va_get (D := (dC, dI)) (ci := 6) (v := .int 0) (C := RX6) (T := TX6) (N := 7) hx hb hg inG6 hown hK.1 hP 0 rfl rfl 3 (by decide) (hg _ wt_279) (fun _ h9 => h9) rfl dX6_takePairs_52 ?_
          refine lv_if_ne (tgt := 160) hx hb dX6_takePairs_55 (by decide) (fun c15 => ?_) (fun c15 => ?_)
          · skip
            exact absurd c15 (by decide)
          · skip
            refine lv_iload_n hx hb dX6_takePairs_58 rfl (lv_at hl 4 rfl) ?_
            refine lv_i2l (v := f.toInt64) hx hb dX6_takePairs_59 rfl ?_
            refine lv_ldc2 (v := 2) hx hb hown (hg _ wt_855) dX6_takePairs_60 ?_
            refine lv_iload hx hb dX6_takePairs_63 (lv_at hl 0 rfl) ?_
            refine lv_i2l (v := 0) hx hb dX6_takePairs_65 (by decide) ?_
            refine lv_lmul hx hb dX6_takePairs_66 ?_
            refine lv_cgl (y := 0) (by decide) ?_
            refine lv_ladd hx hb dX6_takePairs_67 ?_
            refine lv_lstore (lv' := [(6, .long (f.toInt64 + 0)), (5, .int 0), (0, .ref h0), (1, .int 1), (2, .int lane), (3, .int f), (4, .int n)]) hx hb dX6_takePairs_68 hl (by decide) rfl (fun ls hl => ?_)
            refine lv_aload_n hx hb dX6_takePairs_70 rfl (lv_at hl 2 rfl) ?_
            refine lv_aload_n hx hb dX6_takePairs_71 rfl (lv_at hl 2 rfl) ?_
            refine lv_iload_n hx hb dX6_takePairs_72 rfl (lv_at hl 3 rfl) ?_
            refine lv_lload hx hb dX6_takePairs_73 (lv_at hl 0 rfl) ?_
            have hPc := hP.sub (ws' := [(h0, .inr (6, [.ref la, .ref si, .ref ce, .int 0, .int 0, .ref fi, .ref se])), (la, .inl (G 0, 4, .inl (upd (upd (upd (upd (fun _ => 0) 0 (-1)) 1 (-1)) 2 (-1)) 3 (-1))))]) [0, 1] rfl
            refine va_calli (va_runV (As := [.int 1, .long (f.toInt64 + 0)]) (rest := [.ref h0]) ⟨hx, hb, hml, hown, hg⟩ (c_X6_faultAt l dC dI G _ h0 la si ce fi se 0 0 1 (f.toInt64 + 0) (by have t_c12 := eqI c12; have t_c13 := nleI c13; have t_c14 := nleI c14; have t_c15 := eqI c15; have : ((-1) : Int32).toInt = -1 := (by decide); have : (0 : Int32).toInt = 0 := (by decide); have : (20 : Int32).toInt = 20 := (by decide); omega)) (kwV hg mfX6_faultAt wt_846 ⟨Nat.le_of_ble_eq_true rfl, Nat.le_of_ble_eq_true rfl⟩) (preVR hK hPc (ci := 6) rfl rfl) rfl rfl hl.1 rfl (lv_room (Nat.le_of_ble_eq_true rfl)) dX6_takePairs_75 ⟨Nat.le_of_ble_eq_true rfl, Nat.le_of_ble_eq_true rfl⟩) hS (fun q h1 h2 => absurd h2 (Nat.not_le.mpr h1)) (fun q h => hA q (Nat.le_trans hS.1 h)) (fun r16 ur16 t H1 locs ht hvm w17 hB hz1 hk1 hS => ?_)
            have hP := keepR hP hk1
            obtain ⟨w17, w17x⟩ := w17
            subst w17
            refine va_put (D := (dC, dI)) (ci := 6) (v := .int 1) (ty := .int) (C := RX6) (T := TX6) (N := 7) hx hb hg inG6 tyX6 tyX6_ok nmX6 hown hK.1 hP hD hS 0 rfl rfl 3 (by decide) (hg _ wt_279) (fun _ h9 => h9) rfl (by decide +kernel) rfl rfl (Nat.le_of_ble_eq_true rfl) dX6_takePairs_78 (fun H locs hP hD hS => ?_)
            have hP : va_P (dC, dI) vwCl [(h0, .inr (6, [.ref la, .ref si, .ref ce, .int 1, .int 0, .ref fi, .ref se])), (la, .inl (G 0, 4, .inl (upd (upd (upd (upd (fun _ => 0) 0 (-1)) 1 (-1)) 2 (-1)) 3 (-1))))] H := hP
            have hD : va_D A [(h0, .inr (6, [.ref la, .ref si, .ref ce, .int 1, .int 0, .ref fi, .ref se])), (la, .inl (G 0, 4, .inl (upd (upd (upd (upd (fun _ => 0) 0 (-1)) 1 (-1)) 2 (-1)) 3 (-1))))] := hD
            refine lv_aload_n hx hb dX6_takePairs_81 rfl (lv_at hl 2 rfl) ?_
            refine va_get (D := (dC, dI)) (ci := 6) (v := .int 1) (C := RX6) (T := TX6) (N := 7) hx hb hg inG6 hown hK.1 hP 0 rfl rfl 3 (by decide) (hg _ wt_279) (fun _ h9 => h9) rfl dX6_takePairs_82 ?_
            refine lv_if_ne (tgt := 101) hx hb dX6_takePairs_85 (by decide) (fun c18 => ?_) (fun c18 => ?_)
            · skip
              refine lv_aload_n hx hb dX6_takePairs_101 rfl (lv_at hl 2 rfl) ?_
              refine va_get (D := (dC, dI)) (ci := 6) (v := .int 1) (C := RX6) (T := TX6) (N := 7) hx hb hg inG6 hown hK.1 hP 0 rfl rfl 3 (by decide) (hg _ wt_279) (fun _ h9 => h9) rfl dX6_takePairs_102 ?_
              refine lv_if_ne (tgt := 154) hx hb dX6_takePairs_105 (by decide) (fun c19 => ?_) (fun c19 => ?_)
              · skip
                refine lv_iinc (v := 1) (lv' := [(5, .int 1), (6, .long (f.toInt64 + 0)), (0, .ref h0), (1, .int 1), (2, .int lane), (3, .int f), (4, .int n)]) hx hb dX6_takePairs_154 hl (k := 1) rfl (by decide) (by decide) rfl (fun ls hl => ?_)
                refine lv_goto (tgt := 37) hx hb dX6_takePairs_157 (by decide) ?_
                refine lv_iload hx hb dX6_takePairs_37 (lv_at hl 0 rfl) ?_
                refine lv_iload hx hb dX6_takePairs_39 (lv_at hl 6 rfl) ?_
                refine lv_icmp_ge (tgt := 160) hx hb dX6_takePairs_41 (by decide) (fun c20 => ?_) (fun c20 => ?_)
                · skip
                  have hP9 := hP.sub (ws' := [(h0, .inr (6, [.ref la, .ref si, .ref ce, .int 1, .int 0, .ref fi, .ref se]))]) [0] rfl
                  have hD9 := hD.sub (ws' := [(h0, .inr (6, [.ref la, .ref si, .ref ce, .int 1, .int 0, .ref fi, .ref se]))]) [0] (by decide) rfl
                  refine W.widen (k := 0) (n := 0) (by omega) (by omega) ?_
                  exact W.vret hx hb hr (fun t ht hW => ⟨⟨1, rfl, trivial, ⟨by rw [ht]; exact hP9, hD9⟩⟩, hS.F ht⟩) hS.2.2 dX6_takePairs_160
                · skip
                  refine lv_iload hx hb dX6_takePairs_44 (lv_at hl 0 rfl) ?_
                  refine lv_bipush (v := 20) hx hb dX6_takePairs_46 (by decide) ?_
                  refine lv_icmp_ge (tgt := 160) hx hb dX6_takePairs_48 (by decide) (fun c21 => ?_) (fun c21 => ?_)
                  · skip
                    exact absurd c21 (by decide)
                  · skip
                    refine lv_aload_n hx hb dX6_takePairs_51 rfl (lv_at hl 2 rfl) ?_
                    refine va_get (D := (dC, dI)) (ci := 6) (v := .int 1) (C := RX6) (T := TX6) (N := 7) hx hb hg inG6 hown hK.1 hP 0 rfl rfl 3 (by decide) (hg _ wt_279) (fun _ h9 => h9) rfl dX6_takePairs_52 ?_
                    refine lv_if_ne (tgt := 160) hx hb dX6_takePairs_55 (by decide) (fun c22 => ?_) (fun c22 => ?_)
                    · skip
                      have hP9 := hP.sub (ws' := [(h0, .inr (6, [.ref la, .ref si, .ref ce, .int 1, .int 0, .ref fi, .ref se]))]) [0] rfl
                      have hD9 := hD.sub (ws' := [(h0, .inr (6, [.ref la, .ref si, .ref ce, .int 1, .int 0, .ref fi, .ref se]))]) [0] (by decide) rfl
                      refine W.widen (k := 0) (n := 0) (by omega) (by omega) ?_
                      exact W.vret hx hb hr (fun t ht hW => ⟨⟨1, rfl, trivial, ⟨by rw [ht]; exact hP9, hD9⟩⟩, hS.F ht⟩) hS.2.2 dX6_takePairs_160
                    · skip
                      exact absurd c22 (by decide)
              · skip
                exact absurd c19 (by decide)
            · skip
              exact absurd c18 (by decide)
    · skip
      exact absurd c12 (by decide)
  · skip
    refine lv_aload_n hx hb dX6_takePairs_0 rfl (lv_at hl 0 rfl) ?_
    refine lv_iconst (v := 0) hx hb dX6_takePairs_1 (by decide) ?_
    refine va_put (D := (dC, dI)) (ci := 6) (v := .int 0) (ty := .int) (C := RX6) (T := TX6) (N := 7) hx hb hg inG6 tyX6 tyX6_ok nmX6 hown hK.1 hP hD hS 0 rfl rfl 4 (by decide) (hg _ wt_281) (fun _ h9 => h9) rfl (by decide +kernel) rfl rfl (Nat.le_of_ble_eq_true rfl) dX6_takePairs_2 (fun H locs hP hD hS => ?_)
    have hP : va_P (dC, dI) vwCl [(h0, .inr (6, [.ref la, .ref si, .ref ce, .int 0, .int 0, .ref fi, .ref se])), (la, .inl (G 0, 4, .inl (upd (upd (upd (upd (fun _ => 0) 0 (-1)) 1 (-1)) 2 (-1)) 3 (-1))))] H := hP
    have hD : va_D A [(h0, .inr (6, [.ref la, .ref si, .ref ce, .int 0, .int 0, .ref fi, .ref se])), (la, .inl (G 0, 4, .inl (upd (upd (upd (upd (fun _ => 0) 0 (-1)) 1 (-1)) 2 (-1)) 3 (-1))))] := hD
    refine lv_aload_n hx hb dX6_takePairs_5 rfl (lv_at hl 0 rfl) ?_
    refine lv_aload_n hx hb dX6_takePairs_6 rfl (lv_at hl 0 rfl) ?_
    refine va_get (D := (dC, dI)) (ci := 6) (v := .ref la) (C := RX6) (T := TX6) (N := 7) hx hb hg inG6 hown hK.1 hP 0 rfl rfl 0 (by decide) (hg _ wt_276) (fun _ h9 => h9) rfl dX6_takePairs_7 ?_
    refine lv_iload_n hx hb dX6_takePairs_10 rfl (lv_at hl 1 rfl) ?_
    refine va_iald hx hb hK.1 hP 1 0 rfl rfl (vp_in_iff.mpr ⟨by decide, by decide⟩) dX6_takePairs_11 ?_
    refine lv_cg (y := (-1)) (by rfl) ?_
    refine lv_iconst (v := (-1)) hx hb dX6_takePairs_12 (by decide) ?_
    refine lv_icmp_eq (tgt := 26) hx hb dX6_takePairs_13 (by decide) (fun c23 => ?_) (fun c23 => ?_)
    · skip
      refine lv_iconst (v := 0) hx hb dX6_takePairs_26 (by decide) ?_
      refine lv_goto (tgt := 31) hx hb dX6_takePairs_27 (by decide) ?_
      refine va_put (D := (dC, dI)) (ci := 6) (v := .int 0) (ty := .int) (C := RX6) (T := TX6) (N := 7) hx hb hg inG6 tyX6 tyX6_ok nmX6 hown hK.1 hP hD hS 0 rfl rfl 3 (by decide) (hg _ wt_279) (fun _ h9 => h9) rfl (by decide +kernel) rfl rfl (Nat.le_of_ble_eq_true rfl) dX6_takePairs_31 (fun H locs hP hD hS => ?_)
      have hP : va_P (dC, dI) vwCl [(h0, .inr (6, [.ref la, .ref si, .ref ce, .int 0, .int 0, .ref fi, .ref se])), (la, .inl (G 0, 4, .inl (upd (upd (upd (upd (fun _ => 0) 0 (-1)) 1 (-1)) 2 (-1)) 3 (-1))))] H := hP
      have hD : va_D A [(h0, .inr (6, [.ref la, .ref si, .ref ce, .int 0, .int 0, .ref fi, .ref se])), (la, .inl (G 0, 4, .inl (upd (upd (upd (upd (fun _ => 0) 0 (-1)) 1 (-1)) 2 (-1)) 3 (-1))))] := hD
      refine lv_iconst (v := 0) hx hb dX6_takePairs_34 (by decide) ?_
      refine lv_istore (lv' := [(5, .int 0), (0, .ref h0), (1, .int 2), (2, .int lane), (3, .int f), (4, .int n)]) hx hb dX6_takePairs_35 hl (by decide) rfl (fun ls hl => ?_)
      refine lv_iload hx hb dX6_takePairs_37 (lv_at hl 0 rfl) ?_
      refine lv_iload hx hb dX6_takePairs_39 (lv_at hl 5 rfl) ?_
      refine lv_icmp_ge (tgt := 160) hx hb dX6_takePairs_41 (by decide) (fun c24 => ?_) (fun c24 => ?_)
      · skip
        have hP9 := hP.sub (ws' := [(h0, .inr (6, [.ref la, .ref si, .ref ce, .int 0, .int 0, .ref fi, .ref se]))]) [0] rfl
        have hD9 := hD.sub (ws' := [(h0, .inr (6, [.ref la, .ref si, .ref ce, .int 0, .int 0, .ref fi, .ref se]))]) [0] (by decide) rfl
        refine W.widen (k := 0) (n := 0) (by omega) (by omega) ?_
        exact W.vret hx hb hr (fun t ht hW => ⟨⟨0, rfl, trivial, ⟨by rw [ht]; exact hP9, hD9⟩⟩, hS.F ht⟩) hS.2.2 dX6_takePairs_160
      · skip
        refine lv_iload hx hb dX6_takePairs_44 (lv_at hl 0 rfl) ?_
        refine lv_bipush (v := 20) hx hb dX6_takePairs_46 (by decide) ?_
        refine lv_icmp_ge (tgt := 160) hx hb dX6_takePairs_48 (by decide) (fun c25 => ?_) (fun c25 => ?_)
        · skip
          exact absurd c25 (by decide)
        · skip
          refine lv_aload_n hx hb dX6_takePairs_51 rfl (lv_at hl 1 rfl) ?_
          refine va_get (D := (dC, dI)) (ci := 6) (v := .int 0) (C := RX6) (T := TX6) (N := 7) hx hb hg inG6 hown hK.1 hP 0 rfl rfl 3 (by decide) (hg _ wt_279) (fun _ h9 => h9) rfl dX6_takePairs_52 ?_
          refine lv_if_ne (tgt := 160) hx hb dX6_takePairs_55 (by decide) (fun c26 => ?_) (fun c26 => ?_)
          · skip
            exact absurd c26 (by decide)
          · skip
            refine lv_iload_n hx hb dX6_takePairs_58 rfl (lv_at hl 4 rfl) ?_
            refine lv_i2l (v := f.toInt64) hx hb dX6_takePairs_59 rfl ?_
            refine lv_ldc2 (v := 2) hx hb hown (hg _ wt_855) dX6_takePairs_60 ?_
            refine lv_iload hx hb dX6_takePairs_63 (lv_at hl 0 rfl) ?_
            refine lv_i2l (v := 0) hx hb dX6_takePairs_65 (by decide) ?_
            refine lv_lmul hx hb dX6_takePairs_66 ?_
            refine lv_cgl (y := 0) (by decide) ?_
            refine lv_ladd hx hb dX6_takePairs_67 ?_
            refine lv_lstore (lv' := [(6, .long (f.toInt64 + 0)), (5, .int 0), (0, .ref h0), (1, .int 2), (2, .int lane), (3, .int f), (4, .int n)]) hx hb dX6_takePairs_68 hl (by decide) rfl (fun ls hl => ?_)
            refine lv_aload_n hx hb dX6_takePairs_70 rfl (lv_at hl 2 rfl) ?_
            refine lv_aload_n hx hb dX6_takePairs_71 rfl (lv_at hl 2 rfl) ?_
            refine lv_iload_n hx hb dX6_takePairs_72 rfl (lv_at hl 3 rfl) ?_
            refine lv_lload hx hb dX6_takePairs_73 (lv_at hl 0 rfl) ?_
            have hPc := hP.sub (ws' := [(h0, .inr (6, [.ref la, .ref si, .ref ce, .int 0, .int 0, .ref fi, .ref se])), (la, .inl (G 0, 4, .inl (upd (upd (upd (upd (fun _ => 0) 0 (-1)) 1 (-1)) 2 (-1)) 3 (-1))))]) [0, 1] rfl
            refine va_calli (va_runV (As := [.int 2, .long (f.toInt64 + 0)]) (rest := [.ref h0]) ⟨hx, hb, hml, hown, hg⟩ (c_X6_faultAt l dC dI G _ h0 la si ce fi se 0 0 2 (f.toInt64 + 0) (by have t_c23 := eqI c23; have t_c24 := nleI c24; have t_c25 := nleI c25; have t_c26 := eqI c26; have : ((-1) : Int32).toInt = -1 := (by decide); have : (0 : Int32).toInt = 0 := (by decide); have : (20 : Int32).toInt = 20 := (by decide); omega)) (kwV hg mfX6_faultAt wt_846 ⟨Nat.le_of_ble_eq_true rfl, Nat.le_of_ble_eq_true rfl⟩) (preVR hK hPc (ci := 6) rfl rfl) rfl rfl hl.1 rfl (lv_room (Nat.le_of_ble_eq_true rfl)) dX6_takePairs_75 ⟨Nat.le_of_ble_eq_true rfl, Nat.le_of_ble_eq_true rfl⟩) hS (fun q h1 h2 => absurd h2 (Nat.not_le.mpr h1)) (fun q h => hA q (Nat.le_trans hS.1 h)) (fun r27 ur27 t H1 locs ht hvm w28 hB hz1 hk1 hS => ?_)
            have hP := keepR hP hk1
            obtain ⟨w28, w28x⟩ := w28
            subst w28
            refine va_put (D := (dC, dI)) (ci := 6) (v := .int 1) (ty := .int) (C := RX6) (T := TX6) (N := 7) hx hb hg inG6 tyX6 tyX6_ok nmX6 hown hK.1 hP hD hS 0 rfl rfl 3 (by decide) (hg _ wt_279) (fun _ h9 => h9) rfl (by decide +kernel) rfl rfl (Nat.le_of_ble_eq_true rfl) dX6_takePairs_78 (fun H locs hP hD hS => ?_)
            have hP : va_P (dC, dI) vwCl [(h0, .inr (6, [.ref la, .ref si, .ref ce, .int 1, .int 0, .ref fi, .ref se])), (la, .inl (G 0, 4, .inl (upd (upd (upd (upd (fun _ => 0) 0 (-1)) 1 (-1)) 2 (-1)) 3 (-1))))] H := hP
            have hD : va_D A [(h0, .inr (6, [.ref la, .ref si, .ref ce, .int 1, .int 0, .ref fi, .ref se])), (la, .inl (G 0, 4, .inl (upd (upd (upd (upd (fun _ => 0) 0 (-1)) 1 (-1)) 2 (-1)) 3 (-1))))] := hD
            refine lv_aload_n hx hb dX6_takePairs_81 rfl (lv_at hl 2 rfl) ?_
            refine va_get (D := (dC, dI)) (ci := 6) (v := .int 1) (C := RX6) (T := TX6) (N := 7) hx hb hg inG6 hown hK.1 hP 0 rfl rfl 3 (by decide) (hg _ wt_279) (fun _ h9 => h9) rfl dX6_takePairs_82 ?_
            refine lv_if_ne (tgt := 101) hx hb dX6_takePairs_85 (by decide) (fun c29 => ?_) (fun c29 => ?_)
            · skip
              refine lv_aload_n hx hb dX6_takePairs_101 rfl (lv_at hl 2 rfl) ?_
              refine va_get (D := (dC, dI)) (ci := 6) (v := .int 1) (C := RX6) (T := TX6) (N := 7) hx hb hg inG6 hown hK.1 hP 0 rfl rfl 3 (by decide) (hg _ wt_279) (fun _ h9 => h9) rfl dX6_takePairs_102 ?_
              refine lv_if_ne (tgt := 154) hx hb dX6_takePairs_105 (by decide) (fun c30 => ?_) (fun c30 => ?_)
              · skip
                refine lv_iinc (v := 1) (lv' := [(5, .int 1), (6, .long (f.toInt64 + 0)), (0, .ref h0), (1, .int 2), (2, .int lane), (3, .int f), (4, .int n)]) hx hb dX6_takePairs_154 hl (k := 1) rfl (by decide) (by decide) rfl (fun ls hl => ?_)
                refine lv_goto (tgt := 37) hx hb dX6_takePairs_157 (by decide) ?_
                refine lv_iload hx hb dX6_takePairs_37 (lv_at hl 0 rfl) ?_
                refine lv_iload hx hb dX6_takePairs_39 (lv_at hl 6 rfl) ?_
                refine lv_icmp_ge (tgt := 160) hx hb dX6_takePairs_41 (by decide) (fun c31 => ?_) (fun c31 => ?_)
                · skip
                  have hP9 := hP.sub (ws' := [(h0, .inr (6, [.ref la, .ref si, .ref ce, .int 1, .int 0, .ref fi, .ref se]))]) [0] rfl
                  have hD9 := hD.sub (ws' := [(h0, .inr (6, [.ref la, .ref si, .ref ce, .int 1, .int 0, .ref fi, .ref se]))]) [0] (by decide) rfl
                  refine W.widen (k := 0) (n := 0) (by omega) (by omega) ?_
                  exact W.vret hx hb hr (fun t ht hW => ⟨⟨1, rfl, trivial, ⟨by rw [ht]; exact hP9, hD9⟩⟩, hS.F ht⟩) hS.2.2 dX6_takePairs_160
                · skip
                  refine lv_iload hx hb dX6_takePairs_44 (lv_at hl 0 rfl) ?_
                  refine lv_bipush (v := 20) hx hb dX6_takePairs_46 (by decide) ?_
                  refine lv_icmp_ge (tgt := 160) hx hb dX6_takePairs_48 (by decide) (fun c32 => ?_) (fun c32 => ?_)
                  · skip
                    exact absurd c32 (by decide)
                  · skip
                    refine lv_aload_n hx hb dX6_takePairs_51 rfl (lv_at hl 2 rfl) ?_
                    refine va_get (D := (dC, dI)) (ci := 6) (v := .int 1) (C := RX6) (T := TX6) (N := 7) hx hb hg inG6 hown hK.1 hP 0 rfl rfl 3 (by decide) (hg _ wt_279) (fun _ h9 => h9) rfl dX6_takePairs_52 ?_
                    refine lv_if_ne (tgt := 160) hx hb dX6_takePairs_55 (by decide) (fun c33 => ?_) (fun c33 => ?_)
                    · skip
                      have hP9 := hP.sub (ws' := [(h0, .inr (6, [.ref la, .ref si, .ref ce, .int 1, .int 0, .ref fi, .ref se]))]) [0] rfl
                      have hD9 := hD.sub (ws' := [(h0, .inr (6, [.ref la, .ref si, .ref ce, .int 1, .int 0, .ref fi, .ref se]))]) [0] (by decide) rfl
                      refine W.widen (k := 0) (n := 0) (by omega) (by omega) ?_
                      exact W.vret hx hb hr (fun t ht hW => ⟨⟨1, rfl, trivial, ⟨by rw [ht]; exact hP9, hD9⟩⟩, hS.F ht⟩) hS.2.2 dX6_takePairs_160
                    · skip
                      exact absurd c33 (by decide)
              · skip
                exact absurd c30 (by decide)
            · skip
              exact absurd c29 (by decide)
    · skip
      exact absurd c23 (by decide)
  · skip
    refine lv_aload_n hx hb dX6_takePairs_0 rfl (lv_at hl 0 rfl) ?_
    refine lv_iconst (v := 0) hx hb dX6_takePairs_1 (by decide) ?_
    refine va_put (D := (dC, dI)) (ci := 6) (v := .int 0) (ty := .int) (C := RX6) (T := TX6) (N := 7) hx hb hg inG6 tyX6 tyX6_ok nmX6 hown hK.1 hP hD hS 0 rfl rfl 4 (by decide) (hg _ wt_281) (fun _ h9 => h9) rfl (by decide +kernel) rfl rfl (Nat.le_of_ble_eq_true rfl) dX6_takePairs_2 (fun H locs hP hD hS => ?_)
    have hP : va_P (dC, dI) vwCl [(h0, .inr (6, [.ref la, .ref si, .ref ce, .int 0, .int 0, .ref fi, .ref se])), (la, .inl (G 0, 4, .inl (upd (upd (upd (upd (fun _ => 0) 0 (-1)) 1 (-1)) 2 (-1)) 3 (-1))))] H := hP
    have hD : va_D A [(h0, .inr (6, [.ref la, .ref si, .ref ce, .int 0, .int 0, .ref fi, .ref se])), (la, .inl (G 0, 4, .inl (upd (upd (upd (upd (fun _ => 0) 0 (-1)) 1 (-1)) 2 (-1)) 3 (-1))))] := hD
    refine lv_aload_n hx hb dX6_takePairs_5 rfl (lv_at hl 0 rfl) ?_
    refine lv_aload_n hx hb dX6_takePairs_6 rfl (lv_at hl 0 rfl) ?_
    refine va_get (D := (dC, dI)) (ci := 6) (v := .ref la) (C := RX6) (T := TX6) (N := 7) hx hb hg inG6 hown hK.1 hP 0 rfl rfl 0 (by decide) (hg _ wt_276) (fun _ h9 => h9) rfl dX6_takePairs_7 ?_
    refine lv_iload_n hx hb dX6_takePairs_10 rfl (lv_at hl 1 rfl) ?_
    refine va_iald hx hb hK.1 hP 1 0 rfl rfl (vp_in_iff.mpr ⟨by decide, by decide⟩) dX6_takePairs_11 ?_
    refine lv_cg (y := (-1)) (by rfl) ?_
    refine lv_iconst (v := (-1)) hx hb dX6_takePairs_12 (by decide) ?_
    refine lv_icmp_eq (tgt := 26) hx hb dX6_takePairs_13 (by decide) (fun c34 => ?_) (fun c34 => ?_)
    · skip
      refine lv_iconst (v := 0) hx hb dX6_takePairs_26 (by decide) ?_
      refine lv_goto (tgt := 31) hx hb dX6_takePairs_27 (by decide) ?_
      refine va_put (D := (dC, dI)) (ci := 6) (v := .int 0) (ty := .int) (C := RX6) (T := TX6) (N := 7) hx hb hg inG6 tyX6 tyX6_ok nmX6 hown hK.1 hP hD hS 0 rfl rfl 3 (by decide) (hg _ wt_279) (fun _ h9 => h9) rfl (by decide +kernel) rfl rfl (Nat.le_of_ble_eq_true rfl) dX6_takePairs_31 (fun H locs hP hD hS => ?_)
      have hP : va_P (dC, dI) vwCl [(h0, .inr (6, [.ref la, .ref si, .ref ce, .int 0, .int 0, .ref fi, .ref se])), (la, .inl (G 0, 4, .inl (upd (upd (upd (upd (fun _ => 0) 0 (-1)) 1 (-1)) 2 (-1)) 3 (-1))))] H := hP
      have hD : va_D A [(h0, .inr (6, [.ref la, .ref si, .ref ce, .int 0, .int 0, .ref fi, .ref se])), (la, .inl (G 0, 4, .inl (upd (upd (upd (upd (fun _ => 0) 0 (-1)) 1 (-1)) 2 (-1)) 3 (-1))))] := hD
      refine lv_iconst (v := 0) hx hb dX6_takePairs_34 (by decide) ?_
      refine lv_istore (lv' := [(5, .int 0), (0, .ref h0), (1, .int 3), (2, .int lane), (3, .int f), (4, .int n)]) hx hb dX6_takePairs_35 hl (by decide) rfl (fun ls hl => ?_)
      refine lv_iload hx hb dX6_takePairs_37 (lv_at hl 0 rfl) ?_
      refine lv_iload hx hb dX6_takePairs_39 (lv_at hl 5 rfl) ?_
      refine lv_icmp_ge (tgt := 160) hx hb dX6_takePairs_41 (by decide) (fun c35 => ?_) (fun c35 => ?_)
      · skip
        have hP9 := hP.sub (ws' := [(h0, .inr (6, [.ref la, .ref si, .ref ce, .int 0, .int 0, .ref fi, .ref se]))]) [0] rfl
        have hD9 := hD.sub (ws' := [(h0, .inr (6, [.ref la, .ref si, .ref ce, .int 0, .int 0, .ref fi, .ref se]))]) [0] (by decide) rfl
        refine W.widen (k := 0) (n := 0) (by omega) (by omega) ?_
        exact W.vret hx hb hr (fun t ht hW => ⟨⟨0, rfl, trivial, ⟨by rw [ht]; exact hP9, hD9⟩⟩, hS.F ht⟩) hS.2.2 dX6_takePairs_160
      · skip
        refine lv_iload hx hb dX6_takePairs_44 (lv_at hl 0 rfl) ?_
        refine lv_bipush (v := 20) hx hb dX6_takePairs_46 (by decide) ?_
        refine lv_icmp_ge (tgt := 160) hx hb dX6_takePairs_48 (by decide) (fun c36 => ?_) (fun c36 => ?_)
        · skip
          exact absurd c36 (by decide)
        · skip
          refine lv_aload_n hx hb dX6_takePairs_51 rfl (lv_at hl 1 rfl) ?_
          refine va_get (D := (dC, dI)) (ci := 6) (v := .int 0) (C := RX6) (T := TX6) (N := 7) hx hb hg inG6 hown hK.1 hP 0 rfl rfl 3 (by decide) (hg _ wt_279) (fun _ h9 => h9) rfl dX6_takePairs_52 ?_
          refine lv_if_ne (tgt := 160) hx hb dX6_takePairs_55 (by decide) (fun c37 => ?_) (fun c37 => ?_)
          · skip
            exact absurd c37 (by decide)
          · skip
            refine lv_iload_n hx hb dX6_takePairs_58 rfl (lv_at hl 4 rfl) ?_
            refine lv_i2l (v := f.toInt64) hx hb dX6_takePairs_59 rfl ?_
            refine lv_ldc2 (v := 2) hx hb hown (hg _ wt_855) dX6_takePairs_60 ?_
            refine lv_iload hx hb dX6_takePairs_63 (lv_at hl 0 rfl) ?_
            refine lv_i2l (v := 0) hx hb dX6_takePairs_65 (by decide) ?_
            refine lv_lmul hx hb dX6_takePairs_66 ?_
            refine lv_cgl (y := 0) (by decide) ?_
            refine lv_ladd hx hb dX6_takePairs_67 ?_
            refine lv_lstore (lv' := [(6, .long (f.toInt64 + 0)), (5, .int 0), (0, .ref h0), (1, .int 3), (2, .int lane), (3, .int f), (4, .int n)]) hx hb dX6_takePairs_68 hl (by decide) rfl (fun ls hl => ?_)
            refine lv_aload_n hx hb dX6_takePairs_70 rfl (lv_at hl 2 rfl) ?_
            refine lv_aload_n hx hb dX6_takePairs_71 rfl (lv_at hl 2 rfl) ?_
            refine lv_iload_n hx hb dX6_takePairs_72 rfl (lv_at hl 3 rfl) ?_
            refine lv_lload hx hb dX6_takePairs_73 (lv_at hl 0 rfl) ?_
            have hPc := hP.sub (ws' := [(h0, .inr (6, [.ref la, .ref si, .ref ce, .int 0, .int 0, .ref fi, .ref se])), (la, .inl (G 0, 4, .inl (upd (upd (upd (upd (fun _ => 0) 0 (-1)) 1 (-1)) 2 (-1)) 3 (-1))))]) [0, 1] rfl
            refine va_calli (va_runV (As := [.int 3, .long (f.toInt64 + 0)]) (rest := [.ref h0]) ⟨hx, hb, hml, hown, hg⟩ (c_X6_faultAt l dC dI G _ h0 la si ce fi se 0 0 3 (f.toInt64 + 0) (by have t_c34 := eqI c34; have t_c35 := nleI c35; have t_c36 := nleI c36; have t_c37 := eqI c37; have : ((-1) : Int32).toInt = -1 := (by decide); have : (0 : Int32).toInt = 0 := (by decide); have : (20 : Int32).toInt = 20 := (by decide); omega)) (kwV hg mfX6_faultAt wt_846 ⟨Nat.le_of_ble_eq_true rfl, Nat.le_of_ble_eq_true rfl⟩) (preVR hK hPc (ci := 6) rfl rfl) rfl rfl hl.1 rfl (lv_room (Nat.le_of_ble_eq_true rfl)) dX6_takePairs_75 ⟨Nat.le_of_ble_eq_true rfl, Nat.le_of_ble_eq_true rfl⟩) hS (fun q h1 h2 => absurd h2 (Nat.not_le.mpr h1)) (fun q h => hA q (Nat.le_trans hS.1 h)) (fun r38 ur38 t H1 locs ht hvm w39 hB hz1 hk1 hS => ?_)
            have hP := keepR hP hk1
            obtain ⟨w39, w39x⟩ := w39
            subst w39
            refine va_put (D := (dC, dI)) (ci := 6) (v := .int 1) (ty := .int) (C := RX6) (T := TX6) (N := 7) hx hb hg inG6 tyX6 tyX6_ok nmX6 hown hK.1 hP hD hS 0 rfl rfl 3 (by decide) (hg _ wt_279) (fun _ h9 => h9) rfl (by decide +kernel) rfl rfl (Nat.le_of_ble_eq_true rfl) dX6_takePairs_78 (fun H locs hP hD hS => ?_)
            have hP : va_P (dC, dI) vwCl [(h0, .inr (6, [.ref la, .ref si, .ref ce, .int 1, .int 0, .ref fi, .ref se])), (la, .inl (G 0, 4, .inl (upd (upd (upd (upd (fun _ => 0) 0 (-1)) 1 (-1)) 2 (-1)) 3 (-1))))] H := hP
            have hD : va_D A [(h0, .inr (6, [.ref la, .ref si, .ref ce, .int 1, .int 0, .ref fi, .ref se])), (la, .inl (G 0, 4, .inl (upd (upd (upd (upd (fun _ => 0) 0 (-1)) 1 (-1)) 2 (-1)) 3 (-1))))] := hD
            refine lv_aload_n hx hb dX6_takePairs_81 rfl (lv_at hl 2 rfl) ?_
            refine va_get (D := (dC, dI)) (ci := 6) (v := .int 1) (C := RX6) (T := TX6) (N := 7) hx hb hg inG6 hown hK.1 hP 0 rfl rfl 3 (by decide) (hg _ wt_279) (fun _ h9 => h9) rfl dX6_takePairs_82 ?_
            refine lv_if_ne (tgt := 101) hx hb dX6_takePairs_85 (by decide) (fun c40 => ?_) (fun c40 => ?_)
            · skip
              refine lv_aload_n hx hb dX6_takePairs_101 rfl (lv_at hl 2 rfl) ?_
              refine va_get (D := (dC, dI)) (ci := 6) (v := .int 1) (C := RX6) (T := TX6) (N := 7) hx hb hg inG6 hown hK.1 hP 0 rfl rfl 3 (by decide) (hg _ wt_279) (fun _ h9 => h9) rfl dX6_takePairs_102 ?_
              refine lv_if_ne (tgt := 154) hx hb dX6_takePairs_105 (by decide) (fun c41 => ?_) (fun c41 => ?_)
              · skip
                refine lv_iinc (v := 1) (lv' := [(5, .int 1), (6, .long (f.toInt64 + 0)), (0, .ref h0), (1, .int 3), (2, .int lane), (3, .int f), (4, .int n)]) hx hb dX6_takePairs_154 hl (k := 1) rfl (by decide) (by decide) rfl (fun ls hl => ?_)
                refine lv_goto (tgt := 37) hx hb dX6_takePairs_157 (by decide) ?_
                refine lv_iload hx hb dX6_takePairs_37 (lv_at hl 0 rfl) ?_
                refine lv_iload hx hb dX6_takePairs_39 (lv_at hl 6 rfl) ?_
                refine lv_icmp_ge (tgt := 160) hx hb dX6_takePairs_41 (by decide) (fun c42 => ?_) (fun c42 => ?_)
                · skip
                  have hP9 := hP.sub (ws' := [(h0, .inr (6, [.ref la, .ref si, .ref ce, .int 1, .int 0, .ref fi, .ref se]))]) [0] rfl
                  have hD9 := hD.sub (ws' := [(h0, .inr (6, [.ref la, .ref si, .ref ce, .int 1, .int 0, .ref fi, .ref se]))]) [0] (by decide) rfl
                  refine W.widen (k := 0) (n := 0) (by omega) (by omega) ?_
                  exact W.vret hx hb hr (fun t ht hW => ⟨⟨1, rfl, trivial, ⟨by rw [ht]; exact hP9, hD9⟩⟩, hS.F ht⟩) hS.2.2 dX6_takePairs_160
                · skip
                  refine lv_iload hx hb dX6_takePairs_44 (lv_at hl 0 rfl) ?_
                  refine lv_bipush (v := 20) hx hb dX6_takePairs_46 (by decide) ?_
                  refine lv_icmp_ge (tgt := 160) hx hb dX6_takePairs_48 (by decide) (fun c43 => ?_) (fun c43 => ?_)
                  · skip
                    exact absurd c43 (by decide)
                  · skip
                    refine lv_aload_n hx hb dX6_takePairs_51 rfl (lv_at hl 2 rfl) ?_
                    refine va_get (D := (dC, dI)) (ci := 6) (v := .int 1) (C := RX6) (T := TX6) (N := 7) hx hb hg inG6 hown hK.1 hP 0 rfl rfl 3 (by decide) (hg _ wt_279) (fun _ h9 => h9) rfl dX6_takePairs_52 ?_
                    refine lv_if_ne (tgt := 160) hx hb dX6_takePairs_55 (by decide) (fun c44 => ?_) (fun c44 => ?_)
                    · skip
                      have hP9 := hP.sub (ws' := [(h0, .inr (6, [.ref la, .ref si, .ref ce, .int 1, .int 0, .ref fi, .ref se]))]) [0] rfl
                      have hD9 := hD.sub (ws' := [(h0, .inr (6, [.ref la, .ref si, .ref ce, .int 1, .int 0, .ref fi, .ref se]))]) [0] (by decide) rfl
                      refine W.widen (k := 0) (n := 0) (by omega) (by omega) ?_
                      exact W.vret hx hb hr (fun t ht hW => ⟨⟨1, rfl, trivial, ⟨by rw [ht]; exact hP9, hD9⟩⟩, hS.F ht⟩) hS.2.2 dX6_takePairs_160
                    · skip
                      exact absurd c44 (by decide)
              · skip
                exact absurd c41 (by decide)
            · skip
              exact absurd c40 (by decide)
    · skip
      exact absurd c34 (by decide)
