set_option maxHeartbeats 1000000 in
set_option maxRecDepth 100000 in
theorem c_X7_pastAllE (l : Launch) (dC : Nat → ClassId) (dI : Nat → Nat → Nat) (G : Nat → ClassId) (sz : Nat) (h0 ta T F : Nat) (x1 x2 : Int32) (f : Nat → Int32) (hT : T ≤ 320) (hF : F ≤ T) : Met l yX7_pastAll (Cond.code yX7_pastAll cX7_pastAll 5 (some .int) :: GT) ({ frames := 0, cells := 0, slots := 0, locals := 0 } : Room) (PcR [.ref h0, .int (nI F), .int x1, .int x2] dC dI G [(h0, .inr (7, [.int (nI T), .ref ta])), (ta, .inl (G 0, 320, .inl f))] sz) (va_Qi (fun (r : Int32) (u : Unit) => match u with | _ => (r = nI (pst f T x1.toInt x2.toInt F)) ∧ True) (fun _ _ => True) (fun q : Nat => sz ≤ q)) 0 0 (fun q : Nat => sz ≤ q) := by
  refine Met.ofW (cc := cX7_pastAll) (maxL := 5) (ret := (some .int)) (by decide) rfl ?_
  intro p e s m args below meth c s₁ Bd hml hv
  obtain ⟨rfl, hsz, hP, hK⟩ := hv
  have hx := Bd.exec
  have hb := Bd.bytes
  have hr := Bd.returns
  have hg : ∀ w ∈ GT, w.before ([.ref h0, .int (nI F), .int x1, .int x2] : List Value).toArray s = true := fun w h => atoms_spec (ws := Cond.code yX7_pastAll cX7_pastAll 5 (some .int) :: GT) Bd.pre w (List.mem_cons_of_mem _ h)
  have hown : s.vm.findClass RX7 = some m.cls := findClass_of_methodNamed Bd.named
  have hlocks := Bd.notSynchronized
  subst hsz
  have hA : ∀ q : Nat, s.heap.size ≤ q → (fun q : Nat => s.heap.size ≤ q) q := fun _ h => h
  have hS : va_S (fun q : Nat => s.heap.size ≤ q) s.heap s.heap [] := va_S.rf
  have hl := lv_entry ([.ref h0, .int (nI F), .int x1, .int x2]) (n := 5) (Nat.le_of_ble_eq_true rfl)
  rw [lg_entry_eq]
  generalize (lg_sl ([.ref h0, .int (nI F), .int x1, .int x2]) ++ List.replicate (5 - (lg_sl ([.ref h0, .int (nI F), .int x1, .int x2])).length) Slot.unset).toArray = ls at hl ⊢
  have hl : lv_has ls 5 [(0, .ref h0), (1, .int (nI F)), (2, .int x1), (3, .int x2)] := hl
  refine lv_iload_n hx hb dX7_pastAll_0 rfl (lv_at hl 1 rfl) ?_
  refine lv_istore (lv' := [(4, .int (nI F)), (0, .ref h0), (1, .int (nI F)), (2, .int x1), (3, .int x2)]) hx hb dX7_pastAll_1 hl (by decide) rfl (fun ls hl => ?_)
  have loop3_2 : ∀ (nf j1 : Nat), T + 1 ≤ j1 + nf → j1 ≤ T → F ≤ j1 → ∀ (H : Heap) (locs : List Loc), pst f T x1.toInt x2.toInt j1 = pst f T x1.toInt x2.toInt F → va_P (dC, dI) vwCl [(h0, .inr (7, [.int (nI T), .ref ta])), (ta, .inl (G 0, 320, .inl f))] H → va_S (fun q : Nat => s.heap.size ≤ q) s.heap H locs → ∀ (ls : Array Slot), lv_has ls 5 [(4, .int (nI j1)), (0, .ref h0), (1, .int (nI F)), (2, .int x1), (3, .int x2)] → W p l e (headSpec (Cond.code yX7_pastAll cX7_pastAll 5 (some .int) :: GT) ({ frames := 0, cells := 0, slots := 0, locals := 0 } : Room)).room s m ([.ref h0, .int (nI F), .int x1, .int x2] : List Value).toArray below meth c H locs 0 0 (MQ below (va_Qi (fun (r : Int32) (u : Unit) => match u with | _ => (r = nI (pst f T x1.toInt x2.toInt F)) ∧ True) (fun _ _ => True) (fun q : Nat => s.heap.size ≤ q)) ([.ref h0, .int (nI F), .int x1, .int x2] : List Value).toArray s 0 0 (fun q : Nat => s.heap.size ≤ q)) (F0 m 3 ls []) := by
    intro nf
    induction nf with
    | zero => intro j1 h1 h2; exact absurd h1 (by omega)
    | succ nf ih3_2 =>
      intro j1 hn3 hj4 hlo_j1  H locs hinv hP hS ls hl
      refine lv_iload hx hb dX7_pastAll_3 (lv_at hl 0 rfl) ?_
      refine lv_if_lt (tgt := 45) hx hb dX7_pastAll_5 (by decide) (fun c5 => ?_) (fun c5 => ?_)
      · skip
        have t_hj4 := hj4
        have t_hlo_j1 := hlo_j1
        have t_c5 := ltI c5
        have : (0 : Int32).toInt = 0 := (by decide)
        have t_n0 : (nI F).toInt = (F : Int) := nI_toInt (by omega)
        have t_n1 : (nI T).toInt = (T : Int) := nI_toInt (by omega)
        have t_n2 : (nI j1).toInt = (j1 : Int) := nI_toInt (by omega)
        exfalso; omega
      · skip
        have n6 : 0 ≤ j1 := by have t := nltI c5; rw [nI_toInt (n := j1) (by omega)] at t; have : (0 : Int32).toInt = 0 := (by decide); omega
        refine lv_iload hx hb dX7_pastAll_8 (lv_at hl 0 rfl) ?_
        refine lv_aload_n hx hb dX7_pastAll_10 rfl (lv_at hl 1 rfl) ?_
        refine va_get (D := (dC, dI)) (ci := 7) (v := .int (nI T)) (C := RX7) (T := TX7) (N := 2) hx hb hg inG7 hown hK.1 hP 0 rfl rfl 0 (by decide) (hg _ wt_40) (fun _ h9 => h9) rfl dX7_pastAll_11 ?_
        refine lv_icmp_ge (tgt := 45) hx hb dX7_pastAll_14 (by decide) (fun c7 => ?_) (fun c7 => ?_)
        · skip
          have n8 : T ≤ j1 := by have t := leI c7; rw [nI_toInt (n := j1) (by omega)] at t; rw [nI_toInt (n := T) (by omega)] at t; omega
          refine lv_iload hx hb dX7_pastAll_45 (lv_at hl 0 rfl) ?_
          have hpost : (nI j1 : Int32) = nI (pst f T x1.toInt x2.toInt F) := by
            have t_hj4 := hj4
            have t_hlo_j1 := hlo_j1
            have t_n6 := n6
            have t_n8 := n8
            have t_n0 : (nI F).toInt = (F : Int) := nI_toInt (by omega)
            have t_n1 : (nI T).toInt = (T : Int) := nI_toInt (by omega)
            have t_n2 : (nI j1).toInt = (j1 : Int) := nI_toInt (by omega)
            rw [hinv.symm.trans (pst_out (by omega))]
          refine W.widen (k := 0) (n := 0) (by omega) (by omega) ?_
          exact W.iret (v := nI j1) hx hb hr (fun t ht hW => ⟨⟨nI j1, (), rfl, ⟨hpost, trivial⟩, trivial⟩, hS.F ht⟩) hS.2.2 dX7_pastAll_47
        · skip
          have n9 : j1 < T := by have t := nleI c7; rw [nI_toInt (n := j1) (by omega)] at t; rw [nI_toInt (n := T) (by omega)] at t; omega
          refine lv_aload_n hx hb dX7_pastAll_17 rfl (lv_at hl 1 rfl) ?_
          refine va_get (D := (dC, dI)) (ci := 7) (v := .ref ta) (C := RX7) (T := TX7) (N := 2) hx hb hg inG7 hown hK.1 hP 0 rfl rfl 1 (by decide) (hg _ wt_43) (fun _ h9 => h9) rfl dX7_pastAll_18 ?_
          refine lv_iload hx hb dX7_pastAll_21 (lv_at hl 0 rfl) ?_
          refine va_iald hx hb hK.1 hP 1 0 rfl rfl (vp_in_nI (by have t_hj4 := hj4; have t_hlo_j1 := hlo_j1; have t_n6 := n6; have t_n9 := n9; have t_n0 : (nI F).toInt = (F : Int) := nI_toInt (by omega); have t_n1 : (nI T).toInt = (T : Int) := nI_toInt (by omega); have t_n2 : (nI j1).toInt = (j1 : Int) := nI_toInt (by omega); omega) (by decide)) dX7_pastAll_23 ?_
          refine lv_cg (y := f j1) (by rw [nI_clamp (by omega)]) ?_
          refine lv_iload_n hx hb dX7_pastAll_24 rfl (lv_at hl 3 rfl) ?_
          refine lv_icmp_lt (tgt := 45) hx hb dX7_pastAll_25 (by decide) (fun c10 => ?_) (fun c10 => ?_)
          · skip
            refine lv_iload hx hb dX7_pastAll_45 (lv_at hl 0 rfl) ?_
            have hpost : (nI j1 : Int32) = nI (pst f T x1.toInt x2.toInt F) := by
              have t_hj4 := hj4
              have t_hlo_j1 := hlo_j1
              have t_n6 := n6
              have t_n9 := n9
              have t_c10 := ltI c10
              have t_n0 : (nI F).toInt = (F : Int) := nI_toInt (by omega)
              have t_n1 : (nI T).toInt = (T : Int) := nI_toInt (by omega)
              have t_n2 : (nI j1).toInt = (j1 : Int) := nI_toInt (by omega)
              rw [hinv.symm.trans (pst_out (by omega))]
            refine W.widen (k := 0) (n := 0) (by omega) (by omega) ?_
            exact W.iret (v := nI j1) hx hb hr (fun t ht hW => ⟨⟨nI j1, (), rfl, ⟨hpost, trivial⟩, trivial⟩, hS.F ht⟩) hS.2.2 dX7_pastAll_47
          · skip
            refine lv_aload_n hx hb dX7_pastAll_28 rfl (lv_at hl 1 rfl) ?_
            refine va_get (D := (dC, dI)) (ci := 7) (v := .ref ta) (C := RX7) (T := TX7) (N := 2) hx hb hg inG7 hown hK.1 hP 0 rfl rfl 1 (by decide) (hg _ wt_43) (fun _ h9 => h9) rfl dX7_pastAll_29 ?_
            refine lv_iload hx hb dX7_pastAll_32 (lv_at hl 0 rfl) ?_
            refine va_iald hx hb hK.1 hP 1 0 rfl rfl (vp_in_nI (by have t_hj4 := hj4; have t_hlo_j1 := hlo_j1; have t_n6 := n6; have t_n9 := n9; have t_c10 := nltI c10; have t_n0 : (nI F).toInt = (F : Int) := nI_toInt (by omega); have t_n1 : (nI T).toInt = (T : Int) := nI_toInt (by omega); have t_n2 : (nI j1).toInt = (j1 : Int) := nI_toInt (by omega); omega) (by decide)) dX7_pastAll_34 ?_
            refine lv_cg (y := f j1) (by rw [nI_clamp (by omega)]) ?_
            refine lv_iload_n hx hb dX7_pastAll_35 rfl (lv_at hl 4 rfl) ?_
            refine lv_icmp_gt (tgt := 45) hx hb dX7_pastAll_36 (by decide) (fun c11 => ?_) (fun c11 => ?_)
            · skip
              refine lv_iload hx hb dX7_pastAll_45 (lv_at hl 0 rfl) ?_
              have hpost : (nI j1 : Int32) = nI (pst f T x1.toInt x2.toInt F) := by
                have t_hj4 := hj4
                have t_hlo_j1 := hlo_j1
                have t_n6 := n6
                have t_n9 := n9
                have t_c10 := nltI c10
                have t_c11 := ltI c11
                have t_n0 : (nI F).toInt = (F : Int) := nI_toInt (by omega)
                have t_n1 : (nI T).toInt = (T : Int) := nI_toInt (by omega)
                have t_n2 : (nI j1).toInt = (j1 : Int) := nI_toInt (by omega)
                rw [hinv.symm.trans (pst_out (by omega))]
              refine W.widen (k := 0) (n := 0) (by omega) (by omega) ?_
              exact W.iret (v := nI j1) hx hb hr (fun t ht hW => ⟨⟨nI j1, (), rfl, ⟨hpost, trivial⟩, trivial⟩, hS.F ht⟩) hS.2.2 dX7_pastAll_47
            · skip
              refine lv_iinc (v := nI (j1 + 1)) (lv' := [(4, .int (nI (j1 + 1))), (0, .ref h0), (1, .int (nI F)), (2, .int x1), (3, .int x2)]) hx hb dX7_pastAll_39 hl (k := 0) rfl (by rw [show Int32.ofInt 1 = nI 1 from by decide]; exact nI_add _ _) (by decide) rfl (fun ls hl => ?_)
              refine lv_goto (tgt := 3) hx hb dX7_pastAll_42 (by decide) ?_
              exact ih3_2 (j1 + 1) (by omega) (by omega) (by omega)  _ _ ((pst_in (p := j1) (by have t_hj4 := hj4; have t_hlo_j1 := hlo_j1; have t_n6 := n6; have t_n9 := n9; have t_c10 := nltI c10; have t_c11 := nltI c11; have t_n0 : (nI F).toInt = (F : Int) := nI_toInt (by omega); have t_n1 : (nI T).toInt = (T : Int) := nI_toInt (by omega); have t_n2 : (nI j1).toInt = (j1 : Int) := nI_toInt (by omega); omega) (by have t_hj4 := hj4; have t_hlo_j1 := hlo_j1; have t_n6 := n6; have t_n9 := n9; have t_c10 := nltI c10; have t_c11 := nltI c11; have t_n0 : (nI F).toInt = (F : Int) := nI_toInt (by omega); have t_n1 : (nI T).toInt = (T : Int) := nI_toInt (by omega); have t_n2 : (nI j1).toInt = (j1 : Int) := nI_toInt (by omega); omega) (by have t_hj4 := hj4; have t_hlo_j1 := hlo_j1; have t_n6 := n6; have t_n9 := n9; have t_c10 := nltI c10; have t_c11 := nltI c11; have t_n0 : (nI F).toInt = (F : Int) := nI_toInt (by omega); have t_n1 : (nI T).toInt = (T : Int) := nI_toInt (by omega); have t_n2 : (nI j1).toInt = (j1 : Int) := nI_toInt (by omega); omega)).symm.trans hinv) hP hS ls (lv_sub hl [0, 1, 2, 3, 4] rfl)
  exact loop3_2 (T + 1) F (by omega) (by omega) (by omega)  _ _ rfl hP hS ls (lv_sub hl [0, 1, 2, 3, 4] rfl)

set_option maxHeartbeats 1000000 in
set_option maxRecDepth 100000 in
theorem c_X5_refuseE (l : Launch) (dC : Nat → ClassId) (dI : Nat → Nat → Nat) (G : Nat → ClassId) (sz : Nat) (h0 tp td : Nat) (x0 x1 x2 x3 x4 x5 x6 x7 x8 x9 xlo xhi : Int32)  : Met l yX5_refuse (Cond.code yX5_refuse cX5_refuse 3 (some .boolean) :: GT) ({ frames := 0, cells := 0, slots := 0, locals := 0 } : Room) (PcW [.ref h0, .int xlo, .int xhi] dC dI G [(h0, .inr (5, [.ref tp, .ref td, .int x0, .int x1, .int x2, .int x3, .int x4, .int x5, .int x6, .int x7, .int x8, .int x9]))] sz) (va_Qi (fun (r : Int32) (u : Int32 × Int32) => match u with | (u0, u1) => (r = 0) ∧ u0 = flB xlo x0 ∧ u1 = flP x0 xhi x1) (fun (u : Int32 × Int32) (t : State) => match u with | (u0, u1) => va_P (dC, dI) vwCl [(h0, .inr (5, [.ref tp, .ref td, .int u0, .int u1, .int x2, .int x3, .int x4, .int x5, .int x6, .int x7, .int x8, .int x9]))] t.heap ∧ va_D (va_A [(h0, .inr (5, [.ref tp, .ref td, .int x0, .int x1, .int x2, .int x3, .int x4, .int x5, .int x6, .int x7, .int x8, .int x9]))] sz) [(h0, .inr (5, [.ref tp, .ref td, .int u0, .int u1, .int x2, .int x3, .int x4, .int x5, .int x6, .int x7, .int x8, .int x9]))]) (va_A [(h0, .inr (5, [.ref tp, .ref td, .int x0, .int x1, .int x2, .int x3, .int x4, .int x5, .int x6, .int x7, .int x8, .int x9]))] sz)) 0 0 (va_A [(h0, .inr (5, [.ref tp, .ref td, .int x0, .int x1, .int x2, .int x3, .int x4, .int x5, .int x6, .int x7, .int x8, .int x9]))] sz) := by
  refine Met.ofW (cc := cX5_refuse) (maxL := 3) (ret := (some .boolean)) (by decide) rfl ?_
  intro p e s m args below meth c s₁ Bd hml hv
  obtain ⟨rfl, hsz, hP, hK, hD0⟩ := hv
  have hx := Bd.exec
  have hb := Bd.bytes
  have hr := Bd.returns
  have hg : ∀ w ∈ GT, w.before ([.ref h0, .int xlo, .int xhi] : List Value).toArray s = true := fun w h => atoms_spec (ws := Cond.code yX5_refuse cX5_refuse 3 (some .boolean) :: GT) Bd.pre w (List.mem_cons_of_mem _ h)
  have hown : s.vm.findClass RX5 = some m.cls := findClass_of_methodNamed Bd.named
  have hlocks := Bd.notSynchronized
  subst hsz
  have hD := hD0.self (sz := s.heap.size)
  generalize hAe : va_A [(h0, .inr (5, [.ref tp, .ref td, .int x0, .int x1, .int x2, .int x3, .int x4, .int x5, .int x6, .int x7, .int x8, .int x9]))] s.heap.size = A at hD ⊢
  have hA : ∀ q : Nat, s.heap.size ≤ q → A q := fun q h => by rw [← hAe]; exact Or.inr h
  have hS : va_S A s.heap s.heap [] := va_S.rf
  have hl := lv_entry ([.ref h0, .int xlo, .int xhi]) (n := 3) (Nat.le_of_ble_eq_true rfl)
  rw [lg_entry_eq]
  generalize (lg_sl ([.ref h0, .int xlo, .int xhi]) ++ List.replicate (3 - (lg_sl ([.ref h0, .int xlo, .int xhi])).length) Slot.unset).toArray = ls at hl ⊢
  have hl : lv_has ls 3 [(0, .ref h0), (1, .int xlo), (2, .int xhi)] := hl
  refine lv_aload_n hx hb dX5_refuse_0 rfl (lv_at hl 0 rfl) ?_
  refine va_get (D := (dC, dI)) (ci := 5) (v := .int x0) (C := RX5) (T := TX5) (N := 12) hx hb hg inG5 hown hK.1 hP 0 rfl rfl 2 (by decide) (hg _ wt_109) (fun _ h9 => h9) rfl dX5_refuse_1 ?_
  refine lv_if_ne (tgt := 17) hx hb dX5_refuse_4 (by decide) (fun c1 => ?_) (fun c1 => ?_)
  · skip
    refine lv_iconst (v := 0) hx hb dX5_refuse_17 (by decide) ?_
    have hpost : (0 : Int32) = 0 := by
      have t_c1 := neI c1
      have : (0 : Int32).toInt = 0 := (by decide)
      first | rfl | ((repeat' split) <;> first | rfl | omega)
    have hP9 := hP.sub (ws' := [(h0, .inr (5, [.ref tp, .ref td, .int x0, .int x1, .int x2, .int x3, .int x4, .int x5, .int x6, .int x7, .int x8, .int x9]))]) [0] rfl
    have hD9 := hD.sub (ws' := [(h0, .inr (5, [.ref tp, .ref td, .int x0, .int x1, .int x2, .int x3, .int x4, .int x5, .int x6, .int x7, .int x8, .int x9]))]) [0] (by decide) rfl
    refine W.widen (k := 0) (n := 0) (by omega) (by omega) ?_
    exact W.zret (v := 0) hx hb hr (by first | rfl | decide | exact rfl) (fun t ht hW => ⟨⟨0, (x0, x1), rfl, ⟨hpost, (by refine ⟨?_, ?_⟩ <;> first | (unfold flB; first | rw [if_pos (by assumption)] | rw [if_neg (by assumption)]) | (unfold flP; first | rw [if_pos (by assumption)] | rw [if_neg (by assumption)]))⟩, ⟨by rw [ht]; exact hP9, hD9⟩⟩, hS.F ht⟩) hS.2.2 dX5_refuse_18
  · skip
    refine lv_aload_n hx hb dX5_refuse_7 rfl (lv_at hl 0 rfl) ?_
    refine lv_iload_n hx hb dX5_refuse_8 rfl (lv_at hl 1 rfl) ?_
    refine va_put (D := (dC, dI)) (ci := 5) (v := .int xlo) (ty := .int) (C := RX5) (T := TX5) (N := 12) hx hb hg inG5 tyX5 tyX5_ok nmX5 hown hK.1 hP hD hS 0 rfl rfl 2 (by decide) (hg _ wt_109) (fun _ h9 => h9) rfl (by decide +kernel) rfl rfl (Nat.le_of_ble_eq_true rfl) dX5_refuse_9 (fun H locs hP hD hS => ?_)
    have hP : va_P (dC, dI) vwCl [(h0, .inr (5, [.ref tp, .ref td, .int xlo, .int x1, .int x2, .int x3, .int x4, .int x5, .int x6, .int x7, .int x8, .int x9]))] H := hP
    have hD : va_D A [(h0, .inr (5, [.ref tp, .ref td, .int xlo, .int x1, .int x2, .int x3, .int x4, .int x5, .int x6, .int x7, .int x8, .int x9]))] := hD
    refine lv_aload_n hx hb dX5_refuse_12 rfl (lv_at hl 0 rfl) ?_
    refine lv_iload_n hx hb dX5_refuse_13 rfl (lv_at hl 2 rfl) ?_
    refine va_put (D := (dC, dI)) (ci := 5) (v := .int xhi) (ty := .int) (C := RX5) (T := TX5) (N := 12) hx hb hg inG5 tyX5 tyX5_ok nmX5 hown hK.1 hP hD hS 0 rfl rfl 3 (by decide) (hg _ wt_111) (fun _ h9 => h9) rfl (by decide +kernel) rfl rfl (Nat.le_of_ble_eq_true rfl) dX5_refuse_14 (fun H locs hP hD hS => ?_)
    have hP : va_P (dC, dI) vwCl [(h0, .inr (5, [.ref tp, .ref td, .int xlo, .int xhi, .int x2, .int x3, .int x4, .int x5, .int x6, .int x7, .int x8, .int x9]))] H := hP
    have hD : va_D A [(h0, .inr (5, [.ref tp, .ref td, .int xlo, .int xhi, .int x2, .int x3, .int x4, .int x5, .int x6, .int x7, .int x8, .int x9]))] := hD
    refine lv_iconst (v := 0) hx hb dX5_refuse_17 (by decide) ?_
    have hpost : (0 : Int32) = 0 := by
      have t_c1 := eqI c1
      have : (0 : Int32).toInt = 0 := (by decide)
      first | rfl | ((repeat' split) <;> first | rfl | omega)
    have hP9 := hP.sub (ws' := [(h0, .inr (5, [.ref tp, .ref td, .int xlo, .int xhi, .int x2, .int x3, .int x4, .int x5, .int x6, .int x7, .int x8, .int x9]))]) [0] rfl
    have hD9 := hD.sub (ws' := [(h0, .inr (5, [.ref tp, .ref td, .int xlo, .int xhi, .int x2, .int x3, .int x4, .int x5, .int x6, .int x7, .int x8, .int x9]))]) [0] (by decide) rfl
    refine W.widen (k := 0) (n := 0) (by omega) (by omega) ?_
    exact W.zret (v := 0) hx hb hr (by first | rfl | decide | exact rfl) (fun t ht hW => ⟨⟨0, (xlo, xhi), rfl, ⟨hpost, (by refine ⟨?_, ?_⟩ <;> first | (unfold flB; first | rw [if_pos (by assumption)] | rw [if_neg (by assumption)]) | (unfold flP; first | rw [if_pos (by assumption)] | rw [if_neg (by assumption)]))⟩, ⟨by rw [ht]; exact hP9, hD9⟩⟩, hS.F ht⟩) hS.2.2 dX5_refuse_18

set_option maxHeartbeats 1000000 in
set_option maxRecDepth 100000 in
theorem c_X5_nextTokenE (l : Launch) (dC : Nat → ClassId) (dI : Nat → Nat → Nat) (G : Nat → ClassId) (sz : Nat) (h0 tp td ta T P : Nat) (x0 x1 x2 x3 x6 x7 x8 x9 x4 : Int32) (f : Nat → Int32) (hT : T ≤ 320) (hP0 : P ≤ T) : Met l yX5_nextToken (Cond.code yX5_nextToken cX5_nextToken 2 (some .boolean) :: GT) ({ frames := 1, cells := 0, slots := 0, locals := 24 } : Room) (PcW [.ref h0] dC dI G [(h0, .inr (5, [.ref tp, .ref td, .int x0, .int x1, .int x2, .int x3, .int x4, .int (nI P), .int x6, .int x7, .int x8, .int x9])), (tp, .inr (7, [.int (nI T), .ref ta])), (ta, .inl (G 0, 320, .inl f))] sz) (va_Qi (fun (r : Int32) (u : Int32 × Int32 × Int32 × Nat × Nat) => match u with | (u0, u1, u3, u4, u5) => (r = ntG f T (pst f T 32 32 P)) ∧ u4 ≤ u5 ∧ u5 ≤ T ∧ (u0, u1, u3, u4, u5) = ntS1 f T (pst f T 32 32 P) x0 x1 x3) (fun (u : Int32 × Int32 × Int32 × Nat × Nat) (t : State) => match u with | (u0, u1, u3, u4, u5) => va_P (dC, dI) vwCl [(h0, .inr (5, [.ref tp, .ref td, .int u0, .int u1, .int x2, .int u3, .int (nI u4), .int (nI u5), .int x6, .int x7, .int x8, .int x9])), (tp, .inr (7, [.int (nI T), .ref ta])), (ta, .inl (G 0, 320, .inl f))] t.heap ∧ va_D (va_A [(h0, .inr (5, [.ref tp, .ref td, .int x0, .int x1, .int x2, .int x3, .int x4, .int (nI P), .int x6, .int x7, .int x8, .int x9])), (tp, .inr (7, [.int (nI T), .ref ta])), (ta, .inl (G 0, 320, .inl f))] sz) [(h0, .inr (5, [.ref tp, .ref td, .int u0, .int u1, .int x2, .int u3, .int (nI u4), .int (nI u5), .int x6, .int x7, .int x8, .int x9])), (tp, .inr (7, [.int (nI T), .ref ta])), (ta, .inl (G 0, 320, .inl f))]) (va_A [(h0, .inr (5, [.ref tp, .ref td, .int x0, .int x1, .int x2, .int x3, .int x4, .int (nI P), .int x6, .int x7, .int x8, .int x9])), (tp, .inr (7, [.int (nI T), .ref ta])), (ta, .inl (G 0, 320, .inl f))] sz)) 0 0 (va_A [(h0, .inr (5, [.ref tp, .ref td, .int x0, .int x1, .int x2, .int x3, .int x4, .int (nI P), .int x6, .int x7, .int x8, .int x9])), (tp, .inr (7, [.int (nI T), .ref ta])), (ta, .inl (G 0, 320, .inl f))] sz) := by
  refine Met.ofW (cc := cX5_nextToken) (maxL := 2) (ret := (some .boolean)) (by decide) rfl ?_
  intro p e s m args below meth c s₁ Bd hml hv
  obtain ⟨rfl, hsz, hP, hK, hD0⟩ := hv
  have hx := Bd.exec
  have hb := Bd.bytes
  have hr := Bd.returns
  have hg : ∀ w ∈ GT, w.before ([.ref h0] : List Value).toArray s = true := fun w h => atoms_spec (ws := Cond.code yX5_nextToken cX5_nextToken 2 (some .boolean) :: GT) Bd.pre w (List.mem_cons_of_mem _ h)
  have hown : s.vm.findClass RX5 = some m.cls := findClass_of_methodNamed Bd.named
  have hlocks := Bd.notSynchronized
  subst hsz
  have hD := hD0.self (sz := s.heap.size)
  generalize hAe : va_A [(h0, .inr (5, [.ref tp, .ref td, .int x0, .int x1, .int x2, .int x3, .int x4, .int (nI P), .int x6, .int x7, .int x8, .int x9])), (tp, .inr (7, [.int (nI T), .ref ta])), (ta, .inl (G 0, 320, .inl f))] s.heap.size = A at hD ⊢
  have hA : ∀ q : Nat, s.heap.size ≤ q → A q := fun q h => by rw [← hAe]; exact Or.inr h
  have hS : va_S A s.heap s.heap [] := va_S.rf
  have hl := lv_entry ([.ref h0]) (n := 2) (Nat.le_of_ble_eq_true rfl)
  rw [lg_entry_eq]
  generalize (lg_sl ([.ref h0]) ++ List.replicate (2 - (lg_sl ([.ref h0])).length) Slot.unset).toArray = ls at hl ⊢
  have hl : lv_has ls 2 [(0, .ref h0)] := hl
  refine lv_aload_n hx hb dX5_nextToken_0 rfl (lv_at hl 0 rfl) ?_
  refine lv_aload_n hx hb dX5_nextToken_1 rfl (lv_at hl 0 rfl) ?_
  refine va_get (D := (dC, dI)) (ci := 5) (v := .ref tp) (C := RX5) (T := TX5) (N := 12) hx hb hg inG5 hown hK.1 hP 0 rfl rfl 0 (by decide) (hg _ wt_105) (fun _ h9 => h9) rfl dX5_nextToken_2 ?_
  refine lv_aload_n hx hb dX5_nextToken_5 rfl (lv_at hl 0 rfl) ?_
  refine va_get (D := (dC, dI)) (ci := 5) (v := .int (nI P)) (C := RX5) (T := TX5) (N := 12) hx hb hg inG5 hown hK.1 hP 0 rfl rfl 7 (by decide) (hg _ wt_117) (fun _ h9 => h9) rfl dX5_nextToken_6 ?_
  refine lv_bipush (v := 32) hx hb dX5_nextToken_9 (by decide) ?_
  refine lv_bipush (v := 32) hx hb dX5_nextToken_11 (by decide) ?_
  have hPc := hP.sub (ws' := [(tp, .inr (7, [.int (nI T), .ref ta])), (ta, .inl (G 0, 320, .inl f))]) [1, 2] rfl
  refine va_calli (va_runVN (As := [.int (nI P), .int 32, .int 32]) (rest := [.ref h0]) ⟨hx, hb, hml, hown, hg⟩ (c_X7_pastAllE l dC dI G _ tp ta T P 32 32 f (by have t_n0 : (nI P).toInt = (P : Int) := nI_toInt (by omega); have t_n1 : (nI T).toInt = (T : Int) := nI_toInt (by omega); have : (32 : Int32).toInt = 32 := (by decide); have : (32 : Int32).toInt = 32 := (by decide); omega) (by have t_n0 : (nI P).toInt = (P : Int) := nI_toInt (by omega); have t_n1 : (nI T).toInt = (T : Int) := nI_toInt (by omega); have : (32 : Int32).toInt = 32 := (by decide); have : (32 : Int32).toInt = 32 := (by decide); omega)) (kwVN hg hK mfX7_pastAll wn_378 ⟨Nat.le_of_ble_eq_true rfl, Nat.le_of_ble_eq_true rfl⟩) (preVR hK hPc (ci := 7) rfl rfl) rfl rfl hl.1 rfl (lv_room (Nat.le_of_ble_eq_true rfl)) dX5_nextToken_13 ⟨Nat.le_of_ble_eq_true rfl, Nat.le_of_ble_eq_true rfl⟩) hS (fun q h1 h2 => absurd h2 (Nat.not_le.mpr h1)) (fun q h => hA q (Nat.le_trans hS.1 h)) (fun r1 ur1 t H1 locs ht hvm w2 hB hz1 hk1 hS => ?_)
  have hP := keepR hP hk1
  obtain ⟨w2, w2x⟩ := w2
  try rw [show (32 : Int32).toInt = 32 from (by decide)] at w2
  try rw [show (32 : Int32).toInt = 32 from (by decide)] at w2
  have hp3 : P ≤ (pst f T 32 32 P) ∧ (pst f T 32 32 P) ≤ T := (pst_b (by have t_n0 : (nI P).toInt = (P : Int) := nI_toInt (by omega); have t_n1 : (nI T).toInt = (T : Int) := nI_toInt (by omega); omega))
  subst w2
  refine va_put (D := (dC, dI)) (ci := 5) (v := .int (nI (pst f T 32 32 P))) (ty := .int) (C := RX5) (T := TX5) (N := 12) hx hb hg inG5 tyX5 tyX5_ok nmX5 hown hK.1 hP hD hS 0 rfl rfl 6 (by decide) (hg _ wt_116) (fun _ h9 => h9) rfl (by decide +kernel) rfl rfl (Nat.le_of_ble_eq_true rfl) dX5_nextToken_16 (fun H locs hP hD hS => ?_)
  have hP : va_P (dC, dI) vwCl [(h0, .inr (5, [.ref tp, .ref td, .int x0, .int x1, .int x2, .int x3, .int (nI (pst f T 32 32 P)), .int (nI P), .int x6, .int x7, .int x8, .int x9])), (tp, .inr (7, [.int (nI T), .ref ta])), (ta, .inl (G 0, 320, .inl f))] H := hP
  have hD : va_D A [(h0, .inr (5, [.ref tp, .ref td, .int x0, .int x1, .int x2, .int x3, .int (nI (pst f T 32 32 P)), .int (nI P), .int x6, .int x7, .int x8, .int x9])), (tp, .inr (7, [.int (nI T), .ref ta])), (ta, .inl (G 0, 320, .inl f))] := hD
  refine lv_aload_n hx hb dX5_nextToken_19 rfl (lv_at hl 0 rfl) ?_
  refine lv_aload_n hx hb dX5_nextToken_20 rfl (lv_at hl 0 rfl) ?_
  refine va_get (D := (dC, dI)) (ci := 5) (v := .int (nI (pst f T 32 32 P))) (C := RX5) (T := TX5) (N := 12) hx hb hg inG5 hown hK.1 hP 0 rfl rfl 6 (by decide) (hg _ wt_116) (fun _ h9 => h9) rfl dX5_nextToken_21 ?_
  refine va_put (D := (dC, dI)) (ci := 5) (v := .int (nI (pst f T 32 32 P))) (ty := .int) (C := RX5) (T := TX5) (N := 12) hx hb hg inG5 tyX5 tyX5_ok nmX5 hown hK.1 hP hD hS 0 rfl rfl 7 (by decide) (hg _ wt_117) (fun _ h9 => h9) rfl (by decide +kernel) rfl rfl (Nat.le_of_ble_eq_true rfl) dX5_nextToken_24 (fun H locs hP hD hS => ?_)
  have hP : va_P (dC, dI) vwCl [(h0, .inr (5, [.ref tp, .ref td, .int x0, .int x1, .int x2, .int x3, .int (nI (pst f T 32 32 P)), .int (nI (pst f T 32 32 P)), .int x6, .int x7, .int x8, .int x9])), (tp, .inr (7, [.int (nI T), .ref ta])), (ta, .inl (G 0, 320, .inl f))] H := hP
  have hD : va_D A [(h0, .inr (5, [.ref tp, .ref td, .int x0, .int x1, .int x2, .int x3, .int (nI (pst f T 32 32 P)), .int (nI (pst f T 32 32 P)), .int x6, .int x7, .int x8, .int x9])), (tp, .inr (7, [.int (nI T), .ref ta])), (ta, .inl (G 0, 320, .inl f))] := hD
  refine lv_aload_n hx hb dX5_nextToken_27 rfl (lv_at hl 0 rfl) ?_
  refine va_get (D := (dC, dI)) (ci := 5) (v := .ref tp) (C := RX5) (T := TX5) (N := 12) hx hb hg inG5 hown hK.1 hP 0 rfl rfl 0 (by decide) (hg _ wt_105) (fun _ h9 => h9) rfl dX5_nextToken_28 ?_
  refine lv_aload_n hx hb dX5_nextToken_31 rfl (lv_at hl 0 rfl) ?_
  refine va_get (D := (dC, dI)) (ci := 5) (v := .int (nI (pst f T 32 32 P))) (C := RX5) (T := TX5) (N := 12) hx hb hg inG5 hown hK.1 hP 0 rfl rfl 6 (by decide) (hg _ wt_116) (fun _ h9 => h9) rfl dX5_nextToken_32 ?_
  have hPc := hP.sub (ws' := [(tp, .inr (7, [.int (nI T), .ref ta])), (ta, .inl (G 0, 320, .inl f))]) [1, 2] rfl
  refine va_calli (va_runVN (As := [.int (nI (pst f T 32 32 P))]) (rest := []) ⟨hx, hb, hml, hown, hg⟩ (c_X7_byteAt l dC dI G _ tp ta T (nI (pst f T 32 32 P)) f (by have t_hp3 := hp3; have t_n0 : (nI P).toInt = (P : Int) := nI_toInt (by omega); have t_n1 : (nI T).toInt = (T : Int) := nI_toInt (by omega); have t_n2 : (nI (pst f T 32 32 P)).toInt = (((pst f T 32 32 P) : Nat) : Int) := nI_toInt (by omega); omega)) (kwVN hg hK mfX7_byteAt wn_382 ⟨Nat.le_of_ble_eq_true rfl, Nat.le_of_ble_eq_true rfl⟩) (preVR hK hPc (ci := 7) rfl rfl) rfl rfl hl.1 rfl (lv_room (Nat.le_of_ble_eq_true rfl)) dX5_nextToken_35 ⟨Nat.le_of_ble_eq_true rfl, Nat.le_of_ble_eq_true rfl⟩) hS (fun q h1 h2 => absurd h2 (Nat.not_le.mpr h1)) (fun q h => hA q (Nat.le_trans hS.1 h)) (fun r4 ur4 t H1 locs ht hvm w5 hB hz1 hk1 hS => ?_)
  have hP := keepR hP hk1
  obtain ⟨w5, w5x⟩ := w5
  refine lv_istore_n (lv' := [(1, .int r4), (0, .ref h0)]) hx hb dX5_nextToken_38 rfl hl (by decide) rfl (fun ls hl => ?_)
  refine lv_aload_n hx hb dX5_nextToken_39 rfl (lv_at hl 1 rfl) ?_
  refine va_get (D := (dC, dI)) (ci := 5) (v := .int (nI (pst f T 32 32 P))) (C := RX5) (T := TX5) (N := 12) hx hb hg inG5 hown hK.1 hP 0 rfl rfl 6 (by decide) (hg _ wt_116) (fun _ h9 => h9) rfl dX5_nextToken_40 ?_
  refine lv_aload_n hx hb dX5_nextToken_43 rfl (lv_at hl 1 rfl) ?_
  refine va_get (D := (dC, dI)) (ci := 5) (v := .ref tp) (C := RX5) (T := TX5) (N := 12) hx hb hg inG5 hown hK.1 hP 0 rfl rfl 0 (by decide) (hg _ wt_105) (fun _ h9 => h9) rfl dX5_nextToken_44 ?_
  refine va_getN (D := (dC, dI)) (ci := 7) (v := .int (nI T)) (C := RX7) (T := TX7) (N := 2) hx hb hg inG7 hown hK.1 hP 1 rfl rfl 0 (by decide) (hK.nest wn_41) (fun _ h9 => h9) rfl dX5_nextToken_47 ?_
  refine lv_icmp_lt (tgt := 61) hx hb dX5_nextToken_50 (by decide) (fun c6 => ?_) (fun c6 => ?_)
  · skip
    have n7 : (pst f T 32 32 P) < T := by have t := ltI c6; rw [nI_toInt (n := (pst f T 32 32 P)) (by omega)] at t; rw [nI_toInt (n := T) (by omega)] at t; omega
    refine lv_iload_n hx hb dX5_nextToken_61 rfl (lv_at hl 0 rfl) ?_
    refine lv_bipush (v := 97) hx hb dX5_nextToken_62 (by decide) ?_
    refine lv_icmp_lt (tgt := 100) hx hb dX5_nextToken_64 (by decide) (fun c8 => ?_) (fun c8 => ?_)
    · skip
      refine lv_iload_n hx hb dX5_nextToken_100 rfl (lv_at hl 0 rfl) ?_
      refine lv_bipush (v := 48) hx hb dX5_nextToken_101 (by decide) ?_
      refine lv_icmp_lt (tgt := 167) hx hb dX5_nextToken_103 (by decide) (fun c9 => ?_) (fun c9 => ?_)
      · skip
        refine lv_iload_n hx hb dX5_nextToken_167 rfl (lv_at hl 0 rfl) ?_
        refine lv_bipush (v := 59) hx hb dX5_nextToken_168 (by decide) ?_
        refine lv_icmp_ne (tgt := 191) hx hb dX5_nextToken_170 (by decide) (fun c10 => ?_) (fun c10 => ?_)
        · skip
          refine lv_aload_n hx hb dX5_nextToken_191 rfl (lv_at hl 1 rfl) ?_
          refine lv_iconst (v := 1) hx hb dX5_nextToken_192 (by decide) ?_
          refine lv_aload_n hx hb dX5_nextToken_193 rfl (lv_at hl 1 rfl) ?_
          refine va_get (D := (dC, dI)) (ci := 5) (v := .int (nI (pst f T 32 32 P))) (C := RX5) (T := TX5) (N := 12) hx hb hg inG5 hown hK.1 hP 0 rfl rfl 6 (by decide) (hg _ wt_116) (fun _ h9 => h9) rfl dX5_nextToken_194 ?_
          have hPc := hP.sub (ws' := [(h0, .inr (5, [.ref tp, .ref td, .int x0, .int x1, .int x2, .int x3, .int (nI (pst f T 32 32 P)), .int (nI (pst f T 32 32 P)), .int x6, .int x7, .int x8, .int x9]))]) [0] rfl
          have hDc := hD.sub (ws' := [(h0, .inr (5, [.ref tp, .ref td, .int x0, .int x1, .int x2, .int x3, .int (nI (pst f T 32 32 P)), .int (nI (pst f T 32 32 P)), .int x6, .int x7, .int x8, .int x9]))]) [0] (by decide) rfl
          have hFc := va_free (wc := [(h0, .inr (5, [.ref tp, .ref td, .int x0, .int x1, .int x2, .int x3, .int (nI (pst f T 32 32 P)), .int (nI (pst f T 32 32 P)), .int x6, .int x7, .int x8, .int x9]))]) hD hS hA [0] rfl
          refine va_calli (va_runV (As := [.int 1, .int (nI (pst f T 32 32 P))]) (rest := []) ⟨hx, hb, hml, hown, hg⟩ (c_X5_refuseE l dC dI G _ h0 tp td x0 x1 x2 x3 (nI (pst f T 32 32 P)) (nI (pst f T 32 32 P)) x6 x7 x8 x9 1 (nI (pst f T 32 32 P)) ) (kwV hg mfX5_refuse wt_386 ⟨Nat.le_of_ble_eq_true rfl, Nat.le_of_ble_eq_true rfl⟩) (preVW hK hPc hDc (ci := 5) rfl rfl) rfl rfl hl.1 rfl (lv_room (Nat.le_of_ble_eq_true rfl)) dX5_nextToken_197 ⟨Nat.le_of_ble_eq_true rfl, Nat.le_of_ble_eq_true rfl⟩) hS (fun q _ h => hFc q h) hFc (fun r11 ur11 t H1 locs ht hvm w12 hB hz1 hk1 hS => ?_)
          obtain ⟨u13, u14⟩ := ur11
          obtain ⟨hP1, hD1⟩ := hB
          rw [ht] at hP1
          obtain ⟨hP, hD⟩ := va_join (wr := [(tp, .inr (7, [.int (nI T), .ref ta])), (ta, .inl (G 0, 320, .inl f))]) (w1 := [(h0, .inr (5, [.ref tp, .ref td, .int u13, .int u14, .int x2, .int x3, .int (nI (pst f T 32 32 P)), .int (nI (pst f T 32 32 P)), .int x6, .int x7, .int x8, .int x9]))]) hP hD [0] [1, 2] rfl rfl (by decide) (by decide) hk1 hFc hP1 hD1
          generalize H1 = H at hP hS ⊢
          have hP : va_P (dC, dI) vwCl [(tp, .inr (7, [.int (nI T), .ref ta])), (ta, .inl (G 0, 320, .inl f)), (h0, .inr (5, [.ref tp, .ref td, .int u13, .int u14, .int x2, .int x3, .int (nI (pst f T 32 32 P)), .int (nI (pst f T 32 32 P)), .int x6, .int x7, .int x8, .int x9]))] H := hP
          have hD : va_D A [(tp, .inr (7, [.int (nI T), .ref ta])), (ta, .inl (G 0, 320, .inl f)), (h0, .inr (5, [.ref tp, .ref td, .int u13, .int u14, .int x2, .int x3, .int (nI (pst f T 32 32 P)), .int (nI (pst f T 32 32 P)), .int x6, .int x7, .int x8, .int x9]))] := hD
          obtain ⟨w12, w12x⟩ := w12
          subst w12
          have hpost : (0 : Int32) = ntG f T (pst f T 32 32 P) := by
            have t_hp3 := hp3
            have t_n7 := n7
            have t_c8 := ltI c8
            have t_c9 := ltI c9
            have t_c10 := neI c10
            have : (48 : Int32).toInt = 48 := (by decide)
            have : (59 : Int32).toInt = 59 := (by decide)
            have : (97 : Int32).toInt = 97 := (by decide)
            have t_n0 : (nI P).toInt = (P : Int) := nI_toInt (by omega)
            have t_n1 : (nI T).toInt = (T : Int) := nI_toInt (by omega)
            have t_n2 : (nI (pst f T 32 32 P)).toInt = (((pst f T 32 32 P) : Nat) : Int) := nI_toInt (by omega)
            have z0 : (0 : Int32).toInt = 0 := (by decide)
            have z1 : (1 : Int32).toInt = 1 := (by decide)
            have z2 : (2 : Int32).toInt = 2 := (by decide)
            have z3 : (3 : Int32).toInt = 3 := (by decide)
            have z5 : (5 : Int32).toInt = 5 := (by decide)
            have z9 : (9 : Int32).toInt = 9 := (by decide)
            unfold ntG
            first | rw [if_pos (by omega)] | (have er : r4 = f (pst f T 32 32 P) := (by rw [w5, if_pos (by omega), nI_clamp (by omega)]); rw [if_neg (by omega), ← er]; (try (repeat (first | rw [if_pos (by assumption)] | rw [if_neg (by assumption)] | rw [if_pos (by omega)] | rw [if_neg (by omega)] | rw [if_pos (by decide)] | rw [if_neg (by decide)]))); all_goals rfl)
          have hP9 := hP.sub (ws' := [(h0, .inr (5, [.ref tp, .ref td, .int u13, .int u14, .int x2, .int x3, .int (nI (pst f T 32 32 P)), .int (nI (pst f T 32 32 P)), .int x6, .int x7, .int x8, .int x9])), (tp, .inr (7, [.int (nI T), .ref ta])), (ta, .inl (G 0, 320, .inl f))]) [2, 0, 1] rfl
          have hD9 := hD.sub (ws' := [(h0, .inr (5, [.ref tp, .ref td, .int u13, .int u14, .int x2, .int x3, .int (nI (pst f T 32 32 P)), .int (nI (pst f T 32 32 P)), .int x6, .int x7, .int x8, .int x9])), (tp, .inr (7, [.int (nI T), .ref ta])), (ta, .inl (G 0, 320, .inl f))]) [2, 0, 1] (by decide) rfl
          refine W.widen (k := 0) (n := 0) (by omega) (by omega) ?_
          exact W.zret (v := 0) hx hb hr (by first | rfl | decide | exact rfl) (fun t ht hW => ⟨⟨0, (u13, u14, x3, (pst f T 32 32 P), (pst f T 32 32 P)), rfl, ⟨hpost, (by have t_hp3 := hp3; have t_n7 := n7; have t_c8 := ltI c8; have t_c9 := ltI c9; have t_c10 := neI c10; have : (48 : Int32).toInt = 48 := (by decide); have : (59 : Int32).toInt = 59 := (by decide); have : (97 : Int32).toInt = 97 := (by decide); have t_n0 : (nI P).toInt = (P : Int) := nI_toInt (by omega); have t_n1 : (nI T).toInt = (T : Int) := nI_toInt (by omega); have t_n2 : (nI (pst f T 32 32 P)).toInt = (((pst f T 32 32 P) : Nat) : Int) := nI_toInt (by omega); have z0 : (0 : Int32).toInt = 0 := (by decide); have z1 : (1 : Int32).toInt = 1 := (by decide); have z2 : (2 : Int32).toInt = 2 := (by decide); have z3 : (3 : Int32).toInt = 3 := (by decide); have z5 : (5 : Int32).toInt = 5 := (by decide); have z9 : (9 : Int32).toInt = 9 := (by decide); refine ⟨by omega, by omega, ?_⟩; unfold ntS1; rw [w12x.1, w12x.2]; first | (rw [if_pos (by omega)]; done) | (have er : r4 = f (pst f T 32 32 P) := (by rw [w5, if_pos (by omega), nI_clamp (by omega)]); rw [if_neg (by omega), ← er]; (try (repeat (first | rw [if_pos (by assumption)] | rw [if_neg (by assumption)] | rw [if_pos (by omega)] | rw [if_neg (by omega)] | rw [if_pos (by decide)] | rw [if_neg (by decide)]))); all_goals rfl))⟩, ⟨by rw [ht]; exact hP9, hD9⟩⟩, hS.F ht⟩) hS.2.2 dX5_nextToken_200
        · skip
          have t_hp3 := hp3
          have t_n7 := n7
          have t_c8 := ltI c8
          have t_c9 := ltI c9
          have t_c10 := eqI c10
          have : (48 : Int32).toInt = 48 := (by decide)
          have : (59 : Int32).toInt = 59 := (by decide)
          have : (97 : Int32).toInt = 97 := (by decide)
          have t_n0 : (nI P).toInt = (P : Int) := nI_toInt (by omega)
          have t_n1 : (nI T).toInt = (T : Int) := nI_toInt (by omega)
          have t_n2 : (nI (pst f T 32 32 P)).toInt = (((pst f T 32 32 P) : Nat) : Int) := nI_toInt (by omega)
          exfalso; omega
      · skip
        refine lv_iload_n hx hb dX5_nextToken_106 rfl (lv_at hl 0 rfl) ?_
        refine lv_bipush (v := 57) hx hb dX5_nextToken_107 (by decide) ?_
        refine lv_icmp_gt (tgt := 167) hx hb dX5_nextToken_109 (by decide) (fun c15 => ?_) (fun c15 => ?_)
        · skip
          refine lv_iload_n hx hb dX5_nextToken_167 rfl (lv_at hl 0 rfl) ?_
          refine lv_bipush (v := 59) hx hb dX5_nextToken_168 (by decide) ?_
          refine lv_icmp_ne (tgt := 191) hx hb dX5_nextToken_170 (by decide) (fun c16 => ?_) (fun c16 => ?_)
          · skip
            refine lv_aload_n hx hb dX5_nextToken_191 rfl (lv_at hl 1 rfl) ?_
            refine lv_iconst (v := 1) hx hb dX5_nextToken_192 (by decide) ?_
            refine lv_aload_n hx hb dX5_nextToken_193 rfl (lv_at hl 1 rfl) ?_
            refine va_get (D := (dC, dI)) (ci := 5) (v := .int (nI (pst f T 32 32 P))) (C := RX5) (T := TX5) (N := 12) hx hb hg inG5 hown hK.1 hP 0 rfl rfl 6 (by decide) (hg _ wt_116) (fun _ h9 => h9) rfl dX5_nextToken_194 ?_
            have hPc := hP.sub (ws' := [(h0, .inr (5, [.ref tp, .ref td, .int x0, .int x1, .int x2, .int x3, .int (nI (pst f T 32 32 P)), .int (nI (pst f T 32 32 P)), .int x6, .int x7, .int x8, .int x9]))]) [0] rfl
            have hDc := hD.sub (ws' := [(h0, .inr (5, [.ref tp, .ref td, .int x0, .int x1, .int x2, .int x3, .int (nI (pst f T 32 32 P)), .int (nI (pst f T 32 32 P)), .int x6, .int x7, .int x8, .int x9]))]) [0] (by decide) rfl
            have hFc := va_free (wc := [(h0, .inr (5, [.ref tp, .ref td, .int x0, .int x1, .int x2, .int x3, .int (nI (pst f T 32 32 P)), .int (nI (pst f T 32 32 P)), .int x6, .int x7, .int x8, .int x9]))]) hD hS hA [0] rfl
            refine va_calli (va_runV (As := [.int 1, .int (nI (pst f T 32 32 P))]) (rest := []) ⟨hx, hb, hml, hown, hg⟩ (c_X5_refuseE l dC dI G _ h0 tp td x0 x1 x2 x3 (nI (pst f T 32 32 P)) (nI (pst f T 32 32 P)) x6 x7 x8 x9 1 (nI (pst f T 32 32 P)) ) (kwV hg mfX5_refuse wt_386 ⟨Nat.le_of_ble_eq_true rfl, Nat.le_of_ble_eq_true rfl⟩) (preVW hK hPc hDc (ci := 5) rfl rfl) rfl rfl hl.1 rfl (lv_room (Nat.le_of_ble_eq_true rfl)) dX5_nextToken_197 ⟨Nat.le_of_ble_eq_true rfl, Nat.le_of_ble_eq_true rfl⟩) hS (fun q _ h => hFc q h) hFc (fun r17 ur17 t H1 locs ht hvm w18 hB hz1 hk1 hS => ?_)
            obtain ⟨u19, u20⟩ := ur17
            obtain ⟨hP1, hD1⟩ := hB
            rw [ht] at hP1
            obtain ⟨hP, hD⟩ := va_join (wr := [(tp, .inr (7, [.int (nI T), .ref ta])), (ta, .inl (G 0, 320, .inl f))]) (w1 := [(h0, .inr (5, [.ref tp, .ref td, .int u19, .int u20, .int x2, .int x3, .int (nI (pst f T 32 32 P)), .int (nI (pst f T 32 32 P)), .int x6, .int x7, .int x8, .int x9]))]) hP hD [0] [1, 2] rfl rfl (by decide) (by decide) hk1 hFc hP1 hD1
            generalize H1 = H at hP hS ⊢
            have hP : va_P (dC, dI) vwCl [(tp, .inr (7, [.int (nI T), .ref ta])), (ta, .inl (G 0, 320, .inl f)), (h0, .inr (5, [.ref tp, .ref td, .int u19, .int u20, .int x2, .int x3, .int (nI (pst f T 32 32 P)), .int (nI (pst f T 32 32 P)), .int x6, .int x7, .int x8, .int x9]))] H := hP
            have hD : va_D A [(tp, .inr (7, [.int (nI T), .ref ta])), (ta, .inl (G 0, 320, .inl f)), (h0, .inr (5, [.ref tp, .ref td, .int u19, .int u20, .int x2, .int x3, .int (nI (pst f T 32 32 P)), .int (nI (pst f T 32 32 P)), .int x6, .int x7, .int x8, .int x9]))] := hD
            obtain ⟨w18, w18x⟩ := w18
            subst w18
            have hpost : (0 : Int32) = ntG f T (pst f T 32 32 P) := by
              have t_hp3 := hp3
              have t_n7 := n7
              have t_c8 := ltI c8
              have t_c9 := nltI c9
              have t_c15 := ltI c15
              have t_c16 := neI c16
              have : (48 : Int32).toInt = 48 := (by decide)
              have : (57 : Int32).toInt = 57 := (by decide)
              have : (59 : Int32).toInt = 59 := (by decide)
              have : (97 : Int32).toInt = 97 := (by decide)
              have t_n0 : (nI P).toInt = (P : Int) := nI_toInt (by omega)
              have t_n1 : (nI T).toInt = (T : Int) := nI_toInt (by omega)
              have t_n2 : (nI (pst f T 32 32 P)).toInt = (((pst f T 32 32 P) : Nat) : Int) := nI_toInt (by omega)
              have z0 : (0 : Int32).toInt = 0 := (by decide)
              have z1 : (1 : Int32).toInt = 1 := (by decide)
              have z2 : (2 : Int32).toInt = 2 := (by decide)
              have z3 : (3 : Int32).toInt = 3 := (by decide)
              have z5 : (5 : Int32).toInt = 5 := (by decide)
              have z9 : (9 : Int32).toInt = 9 := (by decide)
              unfold ntG
              first | rw [if_pos (by omega)] | (have er : r4 = f (pst f T 32 32 P) := (by rw [w5, if_pos (by omega), nI_clamp (by omega)]); rw [if_neg (by omega), ← er]; (try (repeat (first | rw [if_pos (by assumption)] | rw [if_neg (by assumption)] | rw [if_pos (by omega)] | rw [if_neg (by omega)] | rw [if_pos (by decide)] | rw [if_neg (by decide)]))); all_goals rfl)
            have hP9 := hP.sub (ws' := [(h0, .inr (5, [.ref tp, .ref td, .int u19, .int u20, .int x2, .int x3, .int (nI (pst f T 32 32 P)), .int (nI (pst f T 32 32 P)), .int x6, .int x7, .int x8, .int x9])), (tp, .inr (7, [.int (nI T), .ref ta])), (ta, .inl (G 0, 320, .inl f))]) [2, 0, 1] rfl
            have hD9 := hD.sub (ws' := [(h0, .inr (5, [.ref tp, .ref td, .int u19, .int u20, .int x2, .int x3, .int (nI (pst f T 32 32 P)), .int (nI (pst f T 32 32 P)), .int x6, .int x7, .int x8, .int x9])), (tp, .inr (7, [.int (nI T), .ref ta])), (ta, .inl (G 0, 320, .inl f))]) [2, 0, 1] (by decide) rfl
            refine W.widen (k := 0) (n := 0) (by omega) (by omega) ?_
            exact W.zret (v := 0) hx hb hr (by first | rfl | decide | exact rfl) (fun t ht hW => ⟨⟨0, (u19, u20, x3, (pst f T 32 32 P), (pst f T 32 32 P)), rfl, ⟨hpost, (by have t_hp3 := hp3; have t_n7 := n7; have t_c8 := ltI c8; have t_c9 := nltI c9; have t_c15 := ltI c15; have t_c16 := neI c16; have : (48 : Int32).toInt = 48 := (by decide); have : (57 : Int32).toInt = 57 := (by decide); have : (59 : Int32).toInt = 59 := (by decide); have : (97 : Int32).toInt = 97 := (by decide); have t_n0 : (nI P).toInt = (P : Int) := nI_toInt (by omega); have t_n1 : (nI T).toInt = (T : Int) := nI_toInt (by omega); have t_n2 : (nI (pst f T 32 32 P)).toInt = (((pst f T 32 32 P) : Nat) : Int) := nI_toInt (by omega); have z0 : (0 : Int32).toInt = 0 := (by decide); have z1 : (1 : Int32).toInt = 1 := (by decide); have z2 : (2 : Int32).toInt = 2 := (by decide); have z3 : (3 : Int32).toInt = 3 := (by decide); have z5 : (5 : Int32).toInt = 5 := (by decide); have z9 : (9 : Int32).toInt = 9 := (by decide); refine ⟨by omega, by omega, ?_⟩; unfold ntS1; rw [w18x.1, w18x.2]; first | (rw [if_pos (by omega)]; done) | (have er : r4 = f (pst f T 32 32 P) := (by rw [w5, if_pos (by omega), nI_clamp (by omega)]); rw [if_neg (by omega), ← er]; (try (repeat (first | rw [if_pos (by assumption)] | rw [if_neg (by assumption)] | rw [if_pos (by omega)] | rw [if_neg (by omega)] | rw [if_pos (by decide)] | rw [if_neg (by decide)]))); all_goals rfl))⟩, ⟨by rw [ht]; exact hP9, hD9⟩⟩, hS.F ht⟩) hS.2.2 dX5_nextToken_200
          · skip
            refine lv_aload_n hx hb dX5_nextToken_173 rfl (lv_at hl 1 rfl) ?_
            refine lv_iconst (v := 3) hx hb dX5_nextToken_174 (by decide) ?_
            refine va_put (D := (dC, dI)) (ci := 5) (v := .int 3) (ty := .int) (C := RX5) (T := TX5) (N := 12) hx hb hg inG5 tyX5 tyX5_ok nmX5 hown hK.1 hP hD hS 0 rfl rfl 5 (by decide) (hg _ wt_115) (fun _ h9 => h9) rfl (by decide +kernel) rfl rfl (Nat.le_of_ble_eq_true rfl) dX5_nextToken_175 (fun H locs hP hD hS => ?_)
            have hP : va_P (dC, dI) vwCl [(h0, .inr (5, [.ref tp, .ref td, .int x0, .int x1, .int x2, .int 3, .int (nI (pst f T 32 32 P)), .int (nI (pst f T 32 32 P)), .int x6, .int x7, .int x8, .int x9])), (tp, .inr (7, [.int (nI T), .ref ta])), (ta, .inl (G 0, 320, .inl f))] H := hP
            have hD : va_D A [(h0, .inr (5, [.ref tp, .ref td, .int x0, .int x1, .int x2, .int 3, .int (nI (pst f T 32 32 P)), .int (nI (pst f T 32 32 P)), .int x6, .int x7, .int x8, .int x9])), (tp, .inr (7, [.int (nI T), .ref ta])), (ta, .inl (G 0, 320, .inl f))] := hD
            refine lv_aload_n hx hb dX5_nextToken_178 rfl (lv_at hl 1 rfl) ?_
            refine lv_aload_n hx hb dX5_nextToken_179 rfl (lv_at hl 1 rfl) ?_
            refine va_get (D := (dC, dI)) (ci := 5) (v := .int (nI (pst f T 32 32 P))) (C := RX5) (T := TX5) (N := 12) hx hb hg inG5 hown hK.1 hP 0 rfl rfl 6 (by decide) (hg _ wt_116) (fun _ h9 => h9) rfl dX5_nextToken_180 ?_
            refine lv_iconst (v := 1) hx hb dX5_nextToken_183 (by decide) ?_
            refine lv_iadd hx hb dX5_nextToken_184 ?_
            refine lv_cg (y := nI ((pst f T 32 32 P) + 1)) (by rw [show (1 : Int32) = nI 1 from rfl]; exact nI_add _ _) ?_
            refine va_put (D := (dC, dI)) (ci := 5) (v := .int (nI ((pst f T 32 32 P) + 1))) (ty := .int) (C := RX5) (T := TX5) (N := 12) hx hb hg inG5 tyX5 tyX5_ok nmX5 hown hK.1 hP hD hS 0 rfl rfl 7 (by decide) (hg _ wt_117) (fun _ h9 => h9) rfl (by decide +kernel) rfl rfl (Nat.le_of_ble_eq_true rfl) dX5_nextToken_185 (fun H locs hP hD hS => ?_)
            have hP : va_P (dC, dI) vwCl [(h0, .inr (5, [.ref tp, .ref td, .int x0, .int x1, .int x2, .int 3, .int (nI (pst f T 32 32 P)), .int (nI ((pst f T 32 32 P) + 1)), .int x6, .int x7, .int x8, .int x9])), (tp, .inr (7, [.int (nI T), .ref ta])), (ta, .inl (G 0, 320, .inl f))] H := hP
            have hD : va_D A [(h0, .inr (5, [.ref tp, .ref td, .int x0, .int x1, .int x2, .int 3, .int (nI (pst f T 32 32 P)), .int (nI ((pst f T 32 32 P) + 1)), .int x6, .int x7, .int x8, .int x9])), (tp, .inr (7, [.int (nI T), .ref ta])), (ta, .inl (G 0, 320, .inl f))] := hD
            refine lv_goto (tgt := 201) hx hb dX5_nextToken_188 (by decide) ?_
            refine lv_iconst (v := 1) hx hb dX5_nextToken_201 (by decide) ?_
            have hpost : (1 : Int32) = ntG f T (pst f T 32 32 P) := by
              have t_hp3 := hp3
              have t_n7 := n7
              have t_c8 := ltI c8
              have t_c9 := nltI c9
              have t_c15 := ltI c15
              have t_c16 := eqI c16
              have : (48 : Int32).toInt = 48 := (by decide)
              have : (57 : Int32).toInt = 57 := (by decide)
              have : (59 : Int32).toInt = 59 := (by decide)
              have : (97 : Int32).toInt = 97 := (by decide)
              have t_n0 : (nI P).toInt = (P : Int) := nI_toInt (by omega)
              have t_n1 : (nI T).toInt = (T : Int) := nI_toInt (by omega)
              have t_n2 : (nI (pst f T 32 32 P)).toInt = (((pst f T 32 32 P) : Nat) : Int) := nI_toInt (by omega)
              have z0 : (0 : Int32).toInt = 0 := (by decide)
              have z1 : (1 : Int32).toInt = 1 := (by decide)
              have z2 : (2 : Int32).toInt = 2 := (by decide)
              have z3 : (3 : Int32).toInt = 3 := (by decide)
              have z5 : (5 : Int32).toInt = 5 := (by decide)
              have z9 : (9 : Int32).toInt = 9 := (by decide)
              unfold ntG
              first | rw [if_pos (by omega)] | (have er : r4 = f (pst f T 32 32 P) := (by rw [w5, if_pos (by omega), nI_clamp (by omega)]); rw [if_neg (by omega), ← er]; (try (repeat (first | rw [if_pos (by assumption)] | rw [if_neg (by assumption)] | rw [if_pos (by omega)] | rw [if_neg (by omega)] | rw [if_pos (by decide)] | rw [if_neg (by decide)]))); all_goals rfl)
            have hP9 := hP.sub (ws' := [(h0, .inr (5, [.ref tp, .ref td, .int x0, .int x1, .int x2, .int 3, .int (nI (pst f T 32 32 P)), .int (nI ((pst f T 32 32 P) + 1)), .int x6, .int x7, .int x8, .int x9])), (tp, .inr (7, [.int (nI T), .ref ta])), (ta, .inl (G 0, 320, .inl f))]) [0, 1, 2] rfl
            have hD9 := hD.sub (ws' := [(h0, .inr (5, [.ref tp, .ref td, .int x0, .int x1, .int x2, .int 3, .int (nI (pst f T 32 32 P)), .int (nI ((pst f T 32 32 P) + 1)), .int x6, .int x7, .int x8, .int x9])), (tp, .inr (7, [.int (nI T), .ref ta])), (ta, .inl (G 0, 320, .inl f))]) [0, 1, 2] (by decide) rfl
            refine W.widen (k := 0) (n := 0) (by omega) (by omega) ?_
            exact W.zret (v := 1) hx hb hr (by first | rfl | decide | exact rfl) (fun t ht hW => ⟨⟨1, (x0, x1, 3, (pst f T 32 32 P), ((pst f T 32 32 P) + 1)), rfl, ⟨hpost, (by have t_hp3 := hp3; have t_n7 := n7; have t_c8 := ltI c8; have t_c9 := nltI c9; have t_c15 := ltI c15; have t_c16 := eqI c16; have : (48 : Int32).toInt = 48 := (by decide); have : (57 : Int32).toInt = 57 := (by decide); have : (59 : Int32).toInt = 59 := (by decide); have : (97 : Int32).toInt = 97 := (by decide); have t_n0 : (nI P).toInt = (P : Int) := nI_toInt (by omega); have t_n1 : (nI T).toInt = (T : Int) := nI_toInt (by omega); have t_n2 : (nI (pst f T 32 32 P)).toInt = (((pst f T 32 32 P) : Nat) : Int) := nI_toInt (by omega); have z0 : (0 : Int32).toInt = 0 := (by decide); have z1 : (1 : Int32).toInt = 1 := (by decide); have z2 : (2 : Int32).toInt = 2 := (by decide); have z3 : (3 : Int32).toInt = 3 := (by decide); have z5 : (5 : Int32).toInt = 5 := (by decide); have z9 : (9 : Int32).toInt = 9 := (by decide); refine ⟨by omega, by omega, ?_⟩; unfold ntS1; first | (rw [if_pos (by omega)]; done) | (have er : r4 = f (pst f T 32 32 P) := (by rw [w5, if_pos (by omega), nI_clamp (by omega)]); rw [if_neg (by omega), ← er]; (try (repeat (first | rw [if_pos (by assumption)] | rw [if_neg (by assumption)] | rw [if_pos (by omega)] | rw [if_neg (by omega)] | rw [if_pos (by decide)] | rw [if_neg (by decide)]))); all_goals rfl))⟩, ⟨by rw [ht]; exact hP9, hD9⟩⟩, hS.F ht⟩) hS.2.2 dX5_nextToken_202
        · skip
          refine lv_aload_n hx hb dX5_nextToken_112 rfl (lv_at hl 1 rfl) ?_
          refine lv_iconst (v := 2) hx hb dX5_nextToken_113 (by decide) ?_
          refine va_put (D := (dC, dI)) (ci := 5) (v := .int 2) (ty := .int) (C := RX5) (T := TX5) (N := 12) hx hb hg inG5 tyX5 tyX5_ok nmX5 hown hK.1 hP hD hS 0 rfl rfl 5 (by decide) (hg _ wt_115) (fun _ h9 => h9) rfl (by decide +kernel) rfl rfl (Nat.le_of_ble_eq_true rfl) dX5_nextToken_114 (fun H locs hP hD hS => ?_)
          have hP : va_P (dC, dI) vwCl [(h0, .inr (5, [.ref tp, .ref td, .int x0, .int x1, .int x2, .int 2, .int (nI (pst f T 32 32 P)), .int (nI (pst f T 32 32 P)), .int x6, .int x7, .int x8, .int x9])), (tp, .inr (7, [.int (nI T), .ref ta])), (ta, .inl (G 0, 320, .inl f))] H := hP
          have hD : va_D A [(h0, .inr (5, [.ref tp, .ref td, .int x0, .int x1, .int x2, .int 2, .int (nI (pst f T 32 32 P)), .int (nI (pst f T 32 32 P)), .int x6, .int x7, .int x8, .int x9])), (tp, .inr (7, [.int (nI T), .ref ta])), (ta, .inl (G 0, 320, .inl f))] := hD
          refine lv_aload_n hx hb dX5_nextToken_117 rfl (lv_at hl 1 rfl) ?_
          refine lv_aload_n hx hb dX5_nextToken_118 rfl (lv_at hl 1 rfl) ?_
          refine va_get (D := (dC, dI)) (ci := 5) (v := .ref tp) (C := RX5) (T := TX5) (N := 12) hx hb hg inG5 hown hK.1 hP 0 rfl rfl 0 (by decide) (hg _ wt_105) (fun _ h9 => h9) rfl dX5_nextToken_119 ?_
          refine lv_aload_n hx hb dX5_nextToken_122 rfl (lv_at hl 1 rfl) ?_
          refine va_get (D := (dC, dI)) (ci := 5) (v := .int (nI (pst f T 32 32 P))) (C := RX5) (T := TX5) (N := 12) hx hb hg inG5 hown hK.1 hP 0 rfl rfl 6 (by decide) (hg _ wt_116) (fun _ h9 => h9) rfl dX5_nextToken_123 ?_
          refine lv_bipush (v := 48) hx hb dX5_nextToken_126 (by decide) ?_
          refine lv_bipush (v := 57) hx hb dX5_nextToken_128 (by decide) ?_
          have hPc := hP.sub (ws' := [(tp, .inr (7, [.int (nI T), .ref ta])), (ta, .inl (G 0, 320, .inl f))]) [1, 2] rfl
          refine va_calli (va_runVN (As := [.int (nI (pst f T 32 32 P)), .int 48, .int 57]) (rest := [.ref h0]) ⟨hx, hb, hml, hown, hg⟩ (c_X7_pastAllE l dC dI G _ tp ta T (pst f T 32 32 P) 48 57 f (by have t_hp3 := hp3; have t_n7 := n7; have t_c8 := ltI c8; have t_c9 := nltI c9; have t_c15 := nltI c15; have : (48 : Int32).toInt = 48 := (by decide); have : (57 : Int32).toInt = 57 := (by decide); have : (97 : Int32).toInt = 97 := (by decide); have t_n0 : (nI P).toInt = (P : Int) := nI_toInt (by omega); have t_n1 : (nI T).toInt = (T : Int) := nI_toInt (by omega); have t_n2 : (nI (pst f T 32 32 P)).toInt = (((pst f T 32 32 P) : Nat) : Int) := nI_toInt (by omega); have : (48 : Int32).toInt = 48 := (by decide); have : (57 : Int32).toInt = 57 := (by decide); omega) (by have t_hp3 := hp3; have t_n7 := n7; have t_c8 := ltI c8; have t_c9 := nltI c9; have t_c15 := nltI c15; have : (48 : Int32).toInt = 48 := (by decide); have : (57 : Int32).toInt = 57 := (by decide); have : (97 : Int32).toInt = 97 := (by decide); have t_n0 : (nI P).toInt = (P : Int) := nI_toInt (by omega); have t_n1 : (nI T).toInt = (T : Int) := nI_toInt (by omega); have t_n2 : (nI (pst f T 32 32 P)).toInt = (((pst f T 32 32 P) : Nat) : Int) := nI_toInt (by omega); have : (48 : Int32).toInt = 48 := (by decide); have : (57 : Int32).toInt = 57 := (by decide); omega)) (kwVN hg hK mfX7_pastAll wn_378 ⟨Nat.le_of_ble_eq_true rfl, Nat.le_of_ble_eq_true rfl⟩) (preVR hK hPc (ci := 7) rfl rfl) rfl rfl hl.1 rfl (lv_room (Nat.le_of_ble_eq_true rfl)) dX5_nextToken_130 ⟨Nat.le_of_ble_eq_true rfl, Nat.le_of_ble_eq_true rfl⟩) hS (fun q h1 h2 => absurd h2 (Nat.not_le.mpr h1)) (fun q h => hA q (Nat.le_trans hS.1 h)) (fun r21 ur21 t H1 locs ht hvm w22 hB hz1 hk1 hS => ?_)
          have hP := keepR hP hk1
          obtain ⟨w22, w22x⟩ := w22
          try rw [show (48 : Int32).toInt = 48 from (by decide)] at w22
          try rw [show (57 : Int32).toInt = 57 from (by decide)] at w22
          have hp23 : (pst f T 32 32 P) ≤ (pst f T 48 57 (pst f T 32 32 P)) ∧ (pst f T 48 57 (pst f T 32 32 P)) ≤ T := (pst_b (by have t_hp3 := hp3; have t_n7 := n7; have t_c8 := ltI c8; have t_c9 := nltI c9; have t_c15 := nltI c15; have : (48 : Int32).toInt = 48 := (by decide); have : (57 : Int32).toInt = 57 := (by decide); have : (97 : Int32).toInt = 97 := (by decide); have t_n0 : (nI P).toInt = (P : Int) := nI_toInt (by omega); have t_n1 : (nI T).toInt = (T : Int) := nI_toInt (by omega); have t_n2 : (nI (pst f T 32 32 P)).toInt = (((pst f T 32 32 P) : Nat) : Int) := nI_toInt (by omega); omega))
          subst w22
          refine va_put (D := (dC, dI)) (ci := 5) (v := .int (nI (pst f T 48 57 (pst f T 32 32 P)))) (ty := .int) (C := RX5) (T := TX5) (N := 12) hx hb hg inG5 tyX5 tyX5_ok nmX5 hown hK.1 hP hD hS 0 rfl rfl 7 (by decide) (hg _ wt_117) (fun _ h9 => h9) rfl (by decide +kernel) rfl rfl (Nat.le_of_ble_eq_true rfl) dX5_nextToken_133 (fun H locs hP hD hS => ?_)
          have hP : va_P (dC, dI) vwCl [(h0, .inr (5, [.ref tp, .ref td, .int x0, .int x1, .int x2, .int 2, .int (nI (pst f T 32 32 P)), .int (nI (pst f T 48 57 (pst f T 32 32 P))), .int x6, .int x7, .int x8, .int x9])), (tp, .inr (7, [.int (nI T), .ref ta])), (ta, .inl (G 0, 320, .inl f))] H := hP
          have hD : va_D A [(h0, .inr (5, [.ref tp, .ref td, .int x0, .int x1, .int x2, .int 2, .int (nI (pst f T 32 32 P)), .int (nI (pst f T 48 57 (pst f T 32 32 P))), .int x6, .int x7, .int x8, .int x9])), (tp, .inr (7, [.int (nI T), .ref ta])), (ta, .inl (G 0, 320, .inl f))] := hD
          refine lv_aload_n hx hb dX5_nextToken_136 rfl (lv_at hl 1 rfl) ?_
          refine va_get (D := (dC, dI)) (ci := 5) (v := .int (nI (pst f T 48 57 (pst f T 32 32 P)))) (C := RX5) (T := TX5) (N := 12) hx hb hg inG5 hown hK.1 hP 0 rfl rfl 7 (by decide) (hg _ wt_117) (fun _ h9 => h9) rfl dX5_nextToken_137 ?_
          refine lv_aload_n hx hb dX5_nextToken_140 rfl (lv_at hl 1 rfl) ?_
          refine va_get (D := (dC, dI)) (ci := 5) (v := .int (nI (pst f T 32 32 P))) (C := RX5) (T := TX5) (N := 12) hx hb hg inG5 hown hK.1 hP 0 rfl rfl 6 (by decide) (hg _ wt_116) (fun _ h9 => h9) rfl dX5_nextToken_141 ?_
          refine lv_isub hx hb dX5_nextToken_144 ?_
          refine lv_cg (y := nI ((pst f T 48 57 (pst f T 32 32 P)) - (pst f T 32 32 P))) (by exact pk_sub (by have t_hp3 := hp3; have t_n7 := n7; have t_c8 := ltI c8; have t_c9 := nltI c9; have t_c15 := nltI c15; have t_hp23 := hp23; have : (48 : Int32).toInt = 48 := (by decide); have : (57 : Int32).toInt = 57 := (by decide); have : (97 : Int32).toInt = 97 := (by decide); have t_n0 : (nI P).toInt = (P : Int) := nI_toInt (by omega); have t_n1 : (nI T).toInt = (T : Int) := nI_toInt (by omega); have t_n2 : (nI (pst f T 32 32 P)).toInt = (((pst f T 32 32 P) : Nat) : Int) := nI_toInt (by omega); have t_n3 : (nI (pst f T 48 57 (pst f T 32 32 P))).toInt = (((pst f T 48 57 (pst f T 32 32 P)) : Nat) : Int) := nI_toInt (by omega); omega)) ?_
          refine lv_iconst (v := 2) hx hb dX5_nextToken_145 (by decide) ?_
          refine lv_icmp_le (tgt := 161) hx hb dX5_nextToken_146 (by decide) (fun c24 => ?_) (fun c24 => ?_)
          · skip
            have n25 : ((pst f T 48 57 (pst f T 32 32 P)) - (pst f T 32 32 P)) ≤ 2 := by have t := leI c24; rw [nI_toInt (n := ((pst f T 48 57 (pst f T 32 32 P)) - (pst f T 32 32 P))) (by omega)] at t; have : (2 : Int32).toInt = 2 := (by decide); omega
            refine lv_iconst (v := 1) hx hb dX5_nextToken_161 (by decide) ?_
            refine lv_goto (tgt := 166) hx hb dX5_nextToken_162 (by decide) ?_
            have hpost : (1 : Int32) = ntG f T (pst f T 32 32 P) := by
              have t_hp3 := hp3
              have t_n7 := n7
              have t_c8 := ltI c8
              have t_c9 := nltI c9
              have t_c15 := nltI c15
              have t_hp23 := hp23
              have t_n25 := n25
              have : (48 : Int32).toInt = 48 := (by decide)
              have : (57 : Int32).toInt = 57 := (by decide)
              have : (97 : Int32).toInt = 97 := (by decide)
              have t_n0 : (nI P).toInt = (P : Int) := nI_toInt (by omega)
              have t_n1 : (nI T).toInt = (T : Int) := nI_toInt (by omega)
              have t_n2 : (nI (pst f T 32 32 P)).toInt = (((pst f T 32 32 P) : Nat) : Int) := nI_toInt (by omega)
              have t_n3 : (nI (pst f T 48 57 (pst f T 32 32 P))).toInt = (((pst f T 48 57 (pst f T 32 32 P)) : Nat) : Int) := nI_toInt (by omega)
              have z0 : (0 : Int32).toInt = 0 := (by decide)
              have z1 : (1 : Int32).toInt = 1 := (by decide)
              have z2 : (2 : Int32).toInt = 2 := (by decide)
              have z3 : (3 : Int32).toInt = 3 := (by decide)
              have z5 : (5 : Int32).toInt = 5 := (by decide)
              have z9 : (9 : Int32).toInt = 9 := (by decide)
              unfold ntG
              first | rw [if_pos (by omega)] | (have er : r4 = f (pst f T 32 32 P) := (by rw [w5, if_pos (by omega), nI_clamp (by omega)]); rw [if_neg (by omega), ← er]; (try (repeat (first | rw [if_pos (by assumption)] | rw [if_neg (by assumption)] | rw [if_pos (by omega)] | rw [if_neg (by omega)] | rw [if_pos (by decide)] | rw [if_neg (by decide)]))); all_goals rfl)
            have hP9 := hP.sub (ws' := [(h0, .inr (5, [.ref tp, .ref td, .int x0, .int x1, .int x2, .int 2, .int (nI (pst f T 32 32 P)), .int (nI (pst f T 48 57 (pst f T 32 32 P))), .int x6, .int x7, .int x8, .int x9])), (tp, .inr (7, [.int (nI T), .ref ta])), (ta, .inl (G 0, 320, .inl f))]) [0, 1, 2] rfl
            have hD9 := hD.sub (ws' := [(h0, .inr (5, [.ref tp, .ref td, .int x0, .int x1, .int x2, .int 2, .int (nI (pst f T 32 32 P)), .int (nI (pst f T 48 57 (pst f T 32 32 P))), .int x6, .int x7, .int x8, .int x9])), (tp, .inr (7, [.int (nI T), .ref ta])), (ta, .inl (G 0, 320, .inl f))]) [0, 1, 2] (by decide) rfl
            refine W.widen (k := 0) (n := 0) (by omega) (by omega) ?_
            exact W.zret (v := 1) hx hb hr (by first | rfl | decide | exact rfl) (fun t ht hW => ⟨⟨1, (x0, x1, 2, (pst f T 32 32 P), (pst f T 48 57 (pst f T 32 32 P))), rfl, ⟨hpost, (by have t_hp3 := hp3; have t_n7 := n7; have t_c8 := ltI c8; have t_c9 := nltI c9; have t_c15 := nltI c15; have t_hp23 := hp23; have t_n25 := n25; have : (48 : Int32).toInt = 48 := (by decide); have : (57 : Int32).toInt = 57 := (by decide); have : (97 : Int32).toInt = 97 := (by decide); have t_n0 : (nI P).toInt = (P : Int) := nI_toInt (by omega); have t_n1 : (nI T).toInt = (T : Int) := nI_toInt (by omega); have t_n2 : (nI (pst f T 32 32 P)).toInt = (((pst f T 32 32 P) : Nat) : Int) := nI_toInt (by omega); have t_n3 : (nI (pst f T 48 57 (pst f T 32 32 P))).toInt = (((pst f T 48 57 (pst f T 32 32 P)) : Nat) : Int) := nI_toInt (by omega); have z0 : (0 : Int32).toInt = 0 := (by decide); have z1 : (1 : Int32).toInt = 1 := (by decide); have z2 : (2 : Int32).toInt = 2 := (by decide); have z3 : (3 : Int32).toInt = 3 := (by decide); have z5 : (5 : Int32).toInt = 5 := (by decide); have z9 : (9 : Int32).toInt = 9 := (by decide); refine ⟨by omega, by omega, ?_⟩; unfold ntS1; first | (rw [if_pos (by omega)]; done) | (have er : r4 = f (pst f T 32 32 P) := (by rw [w5, if_pos (by omega), nI_clamp (by omega)]); rw [if_neg (by omega), ← er]; (try (repeat (first | rw [if_pos (by assumption)] | rw [if_neg (by assumption)] | rw [if_pos (by omega)] | rw [if_neg (by omega)] | rw [if_pos (by decide)] | rw [if_neg (by decide)]))); all_goals rfl))⟩, ⟨by rw [ht]; exact hP9, hD9⟩⟩, hS.F ht⟩) hS.2.2 dX5_nextToken_166
          · skip
            have n26 : 2 < ((pst f T 48 57 (pst f T 32 32 P)) - (pst f T 32 32 P)) := by have t := nleI c24; rw [nI_toInt (n := ((pst f T 48 57 (pst f T 32 32 P)) - (pst f T 32 32 P))) (by omega)] at t; have : (2 : Int32).toInt = 2 := (by decide); omega
            refine lv_aload_n hx hb dX5_nextToken_149 rfl (lv_at hl 1 rfl) ?_
            refine lv_iconst (v := 1) hx hb dX5_nextToken_150 (by decide) ?_
            refine lv_aload_n hx hb dX5_nextToken_151 rfl (lv_at hl 1 rfl) ?_
            refine va_get (D := (dC, dI)) (ci := 5) (v := .int (nI (pst f T 32 32 P))) (C := RX5) (T := TX5) (N := 12) hx hb hg inG5 hown hK.1 hP 0 rfl rfl 6 (by decide) (hg _ wt_116) (fun _ h9 => h9) rfl dX5_nextToken_152 ?_
            have hPc := hP.sub (ws' := [(h0, .inr (5, [.ref tp, .ref td, .int x0, .int x1, .int x2, .int 2, .int (nI (pst f T 32 32 P)), .int (nI (pst f T 48 57 (pst f T 32 32 P))), .int x6, .int x7, .int x8, .int x9]))]) [0] rfl
            have hDc := hD.sub (ws' := [(h0, .inr (5, [.ref tp, .ref td, .int x0, .int x1, .int x2, .int 2, .int (nI (pst f T 32 32 P)), .int (nI (pst f T 48 57 (pst f T 32 32 P))), .int x6, .int x7, .int x8, .int x9]))]) [0] (by decide) rfl
            have hFc := va_free (wc := [(h0, .inr (5, [.ref tp, .ref td, .int x0, .int x1, .int x2, .int 2, .int (nI (pst f T 32 32 P)), .int (nI (pst f T 48 57 (pst f T 32 32 P))), .int x6, .int x7, .int x8, .int x9]))]) hD hS hA [0] rfl
            refine va_calli (va_runV (As := [.int 1, .int (nI (pst f T 32 32 P))]) (rest := []) ⟨hx, hb, hml, hown, hg⟩ (c_X5_refuseE l dC dI G _ h0 tp td x0 x1 x2 2 (nI (pst f T 32 32 P)) (nI (pst f T 48 57 (pst f T 32 32 P))) x6 x7 x8 x9 1 (nI (pst f T 32 32 P)) ) (kwV hg mfX5_refuse wt_386 ⟨Nat.le_of_ble_eq_true rfl, Nat.le_of_ble_eq_true rfl⟩) (preVW hK hPc hDc (ci := 5) rfl rfl) rfl rfl hl.1 rfl (lv_room (Nat.le_of_ble_eq_true rfl)) dX5_nextToken_155 ⟨Nat.le_of_ble_eq_true rfl, Nat.le_of_ble_eq_true rfl⟩) hS (fun q _ h => hFc q h) hFc (fun r27 ur27 t H1 locs ht hvm w28 hB hz1 hk1 hS => ?_)
            obtain ⟨u29, u30⟩ := ur27
            obtain ⟨hP1, hD1⟩ := hB
            rw [ht] at hP1
            obtain ⟨hP, hD⟩ := va_join (wr := [(tp, .inr (7, [.int (nI T), .ref ta])), (ta, .inl (G 0, 320, .inl f))]) (w1 := [(h0, .inr (5, [.ref tp, .ref td, .int u29, .int u30, .int x2, .int 2, .int (nI (pst f T 32 32 P)), .int (nI (pst f T 48 57 (pst f T 32 32 P))), .int x6, .int x7, .int x8, .int x9]))]) hP hD [0] [1, 2] rfl rfl (by decide) (by decide) hk1 hFc hP1 hD1
            generalize H1 = H at hP hS ⊢
            have hP : va_P (dC, dI) vwCl [(tp, .inr (7, [.int (nI T), .ref ta])), (ta, .inl (G 0, 320, .inl f)), (h0, .inr (5, [.ref tp, .ref td, .int u29, .int u30, .int x2, .int 2, .int (nI (pst f T 32 32 P)), .int (nI (pst f T 48 57 (pst f T 32 32 P))), .int x6, .int x7, .int x8, .int x9]))] H := hP
            have hD : va_D A [(tp, .inr (7, [.int (nI T), .ref ta])), (ta, .inl (G 0, 320, .inl f)), (h0, .inr (5, [.ref tp, .ref td, .int u29, .int u30, .int x2, .int 2, .int (nI (pst f T 32 32 P)), .int (nI (pst f T 48 57 (pst f T 32 32 P))), .int x6, .int x7, .int x8, .int x9]))] := hD
            obtain ⟨w28, w28x⟩ := w28
            subst w28
            refine lv_if_eq (tgt := 165) hx hb dX5_nextToken_158 (by decide) (fun c31 => ?_) (fun c31 => ?_)
            · skip
              refine lv_iconst (v := 0) hx hb dX5_nextToken_165 (by decide) ?_
              have hpost : (0 : Int32) = ntG f T (pst f T 32 32 P) := by
                have t_hp3 := hp3
                have t_n7 := n7
                have t_c8 := ltI c8
                have t_c9 := nltI c9
                have t_c15 := nltI c15
                have t_hp23 := hp23
                have t_n26 := n26
                have t_c31 := eqI c31
                have : (0 : Int32).toInt = 0 := (by decide)
                have : (48 : Int32).toInt = 48 := (by decide)
                have : (57 : Int32).toInt = 57 := (by decide)
                have : (97 : Int32).toInt = 97 := (by decide)
                have t_n0 : (nI P).toInt = (P : Int) := nI_toInt (by omega)
                have t_n1 : (nI T).toInt = (T : Int) := nI_toInt (by omega)
                have t_n2 : (nI (pst f T 32 32 P)).toInt = (((pst f T 32 32 P) : Nat) : Int) := nI_toInt (by omega)
                have t_n3 : (nI (pst f T 48 57 (pst f T 32 32 P))).toInt = (((pst f T 48 57 (pst f T 32 32 P)) : Nat) : Int) := nI_toInt (by omega)
                have z0 : (0 : Int32).toInt = 0 := (by decide)
                have z1 : (1 : Int32).toInt = 1 := (by decide)
                have z2 : (2 : Int32).toInt = 2 := (by decide)
                have z3 : (3 : Int32).toInt = 3 := (by decide)
                have z5 : (5 : Int32).toInt = 5 := (by decide)
                have z9 : (9 : Int32).toInt = 9 := (by decide)
                unfold ntG
                first | rw [if_pos (by omega)] | (have er : r4 = f (pst f T 32 32 P) := (by rw [w5, if_pos (by omega), nI_clamp (by omega)]); rw [if_neg (by omega), ← er]; (try (repeat (first | rw [if_pos (by assumption)] | rw [if_neg (by assumption)] | rw [if_pos (by omega)] | rw [if_neg (by omega)] | rw [if_pos (by decide)] | rw [if_neg (by decide)]))); all_goals rfl)
              have hP9 := hP.sub (ws' := [(h0, .inr (5, [.ref tp, .ref td, .int u29, .int u30, .int x2, .int 2, .int (nI (pst f T 32 32 P)), .int (nI (pst f T 48 57 (pst f T 32 32 P))), .int x6, .int x7, .int x8, .int x9])), (tp, .inr (7, [.int (nI T), .ref ta])), (ta, .inl (G 0, 320, .inl f))]) [2, 0, 1] rfl
              have hD9 := hD.sub (ws' := [(h0, .inr (5, [.ref tp, .ref td, .int u29, .int u30, .int x2, .int 2, .int (nI (pst f T 32 32 P)), .int (nI (pst f T 48 57 (pst f T 32 32 P))), .int x6, .int x7, .int x8, .int x9])), (tp, .inr (7, [.int (nI T), .ref ta])), (ta, .inl (G 0, 320, .inl f))]) [2, 0, 1] (by decide) rfl
              refine W.widen (k := 0) (n := 0) (by omega) (by omega) ?_
              exact W.zret (v := 0) hx hb hr (by first | rfl | decide | exact rfl) (fun t ht hW => ⟨⟨0, (u29, u30, 2, (pst f T 32 32 P), (pst f T 48 57 (pst f T 32 32 P))), rfl, ⟨hpost, (by have t_hp3 := hp3; have t_n7 := n7; have t_c8 := ltI c8; have t_c9 := nltI c9; have t_c15 := nltI c15; have t_hp23 := hp23; have t_n26 := n26; have t_c31 := eqI c31; have : (0 : Int32).toInt = 0 := (by decide); have : (48 : Int32).toInt = 48 := (by decide); have : (57 : Int32).toInt = 57 := (by decide); have : (97 : Int32).toInt = 97 := (by decide); have t_n0 : (nI P).toInt = (P : Int) := nI_toInt (by omega); have t_n1 : (nI T).toInt = (T : Int) := nI_toInt (by omega); have t_n2 : (nI (pst f T 32 32 P)).toInt = (((pst f T 32 32 P) : Nat) : Int) := nI_toInt (by omega); have t_n3 : (nI (pst f T 48 57 (pst f T 32 32 P))).toInt = (((pst f T 48 57 (pst f T 32 32 P)) : Nat) : Int) := nI_toInt (by omega); have z0 : (0 : Int32).toInt = 0 := (by decide); have z1 : (1 : Int32).toInt = 1 := (by decide); have z2 : (2 : Int32).toInt = 2 := (by decide); have z3 : (3 : Int32).toInt = 3 := (by decide); have z5 : (5 : Int32).toInt = 5 := (by decide); have z9 : (9 : Int32).toInt = 9 := (by decide); refine ⟨by omega, by omega, ?_⟩; unfold ntS1; rw [w28x.1, w28x.2]; first | (rw [if_pos (by omega)]; done) | (have er : r4 = f (pst f T 32 32 P) := (by rw [w5, if_pos (by omega), nI_clamp (by omega)]); rw [if_neg (by omega), ← er]; (try (repeat (first | rw [if_pos (by assumption)] | rw [if_neg (by assumption)] | rw [if_pos (by omega)] | rw [if_neg (by omega)] | rw [if_pos (by decide)] | rw [if_neg (by decide)]))); all_goals rfl))⟩, ⟨by rw [ht]; exact hP9, hD9⟩⟩, hS.F ht⟩) hS.2.2 dX5_nextToken_166
            · skip
              exact absurd c31 (by decide)
    · skip
      refine lv_iload_n hx hb dX5_nextToken_67 rfl (lv_at hl 0 rfl) ?_
      refine lv_bipush (v := 122) hx hb dX5_nextToken_68 (by decide) ?_
      refine lv_icmp_gt (tgt := 100) hx hb dX5_nextToken_70 (by decide) (fun c32 => ?_) (fun c32 => ?_)
      · skip
        refine lv_iload_n hx hb dX5_nextToken_100 rfl (lv_at hl 0 rfl) ?_
        refine lv_bipush (v := 48) hx hb dX5_nextToken_101 (by decide) ?_
        refine lv_icmp_lt (tgt := 167) hx hb dX5_nextToken_103 (by decide) (fun c33 => ?_) (fun c33 => ?_)
        · skip
          have t_hp3 := hp3
          have t_n7 := n7
          have t_c8 := nltI c8
          have t_c32 := ltI c32
          have t_c33 := ltI c33
          have : (48 : Int32).toInt = 48 := (by decide)
          have : (97 : Int32).toInt = 97 := (by decide)
          have : (122 : Int32).toInt = 122 := (by decide)
          have t_n0 : (nI P).toInt = (P : Int) := nI_toInt (by omega)
          have t_n1 : (nI T).toInt = (T : Int) := nI_toInt (by omega)
          have t_n2 : (nI (pst f T 32 32 P)).toInt = (((pst f T 32 32 P) : Nat) : Int) := nI_toInt (by omega)
          exfalso; omega
        · skip
          refine lv_iload_n hx hb dX5_nextToken_106 rfl (lv_at hl 0 rfl) ?_
          refine lv_bipush (v := 57) hx hb dX5_nextToken_107 (by decide) ?_
          refine lv_icmp_gt (tgt := 167) hx hb dX5_nextToken_109 (by decide) (fun c34 => ?_) (fun c34 => ?_)
          · skip
            refine lv_iload_n hx hb dX5_nextToken_167 rfl (lv_at hl 0 rfl) ?_
            refine lv_bipush (v := 59) hx hb dX5_nextToken_168 (by decide) ?_
            refine lv_icmp_ne (tgt := 191) hx hb dX5_nextToken_170 (by decide) (fun c35 => ?_) (fun c35 => ?_)
            · skip
              refine lv_aload_n hx hb dX5_nextToken_191 rfl (lv_at hl 1 rfl) ?_
              refine lv_iconst (v := 1) hx hb dX5_nextToken_192 (by decide) ?_
              refine lv_aload_n hx hb dX5_nextToken_193 rfl (lv_at hl 1 rfl) ?_
              refine va_get (D := (dC, dI)) (ci := 5) (v := .int (nI (pst f T 32 32 P))) (C := RX5) (T := TX5) (N := 12) hx hb hg inG5 hown hK.1 hP 0 rfl rfl 6 (by decide) (hg _ wt_116) (fun _ h9 => h9) rfl dX5_nextToken_194 ?_
              have hPc := hP.sub (ws' := [(h0, .inr (5, [.ref tp, .ref td, .int x0, .int x1, .int x2, .int x3, .int (nI (pst f T 32 32 P)), .int (nI (pst f T 32 32 P)), .int x6, .int x7, .int x8, .int x9]))]) [0] rfl
              have hDc := hD.sub (ws' := [(h0, .inr (5, [.ref tp, .ref td, .int x0, .int x1, .int x2, .int x3, .int (nI (pst f T 32 32 P)), .int (nI (pst f T 32 32 P)), .int x6, .int x7, .int x8, .int x9]))]) [0] (by decide) rfl
              have hFc := va_free (wc := [(h0, .inr (5, [.ref tp, .ref td, .int x0, .int x1, .int x2, .int x3, .int (nI (pst f T 32 32 P)), .int (nI (pst f T 32 32 P)), .int x6, .int x7, .int x8, .int x9]))]) hD hS hA [0] rfl
              refine va_calli (va_runV (As := [.int 1, .int (nI (pst f T 32 32 P))]) (rest := []) ⟨hx, hb, hml, hown, hg⟩ (c_X5_refuseE l dC dI G _ h0 tp td x0 x1 x2 x3 (nI (pst f T 32 32 P)) (nI (pst f T 32 32 P)) x6 x7 x8 x9 1 (nI (pst f T 32 32 P)) ) (kwV hg mfX5_refuse wt_386 ⟨Nat.le_of_ble_eq_true rfl, Nat.le_of_ble_eq_true rfl⟩) (preVW hK hPc hDc (ci := 5) rfl rfl) rfl rfl hl.1 rfl (lv_room (Nat.le_of_ble_eq_true rfl)) dX5_nextToken_197 ⟨Nat.le_of_ble_eq_true rfl, Nat.le_of_ble_eq_true rfl⟩) hS (fun q _ h => hFc q h) hFc (fun r36 ur36 t H1 locs ht hvm w37 hB hz1 hk1 hS => ?_)
              obtain ⟨u38, u39⟩ := ur36
              obtain ⟨hP1, hD1⟩ := hB
              rw [ht] at hP1
              obtain ⟨hP, hD⟩ := va_join (wr := [(tp, .inr (7, [.int (nI T), .ref ta])), (ta, .inl (G 0, 320, .inl f))]) (w1 := [(h0, .inr (5, [.ref tp, .ref td, .int u38, .int u39, .int x2, .int x3, .int (nI (pst f T 32 32 P)), .int (nI (pst f T 32 32 P)), .int x6, .int x7, .int x8, .int x9]))]) hP hD [0] [1, 2] rfl rfl (by decide) (by decide) hk1 hFc hP1 hD1
              generalize H1 = H at hP hS ⊢
              have hP : va_P (dC, dI) vwCl [(tp, .inr (7, [.int (nI T), .ref ta])), (ta, .inl (G 0, 320, .inl f)), (h0, .inr (5, [.ref tp, .ref td, .int u38, .int u39, .int x2, .int x3, .int (nI (pst f T 32 32 P)), .int (nI (pst f T 32 32 P)), .int x6, .int x7, .int x8, .int x9]))] H := hP
              have hD : va_D A [(tp, .inr (7, [.int (nI T), .ref ta])), (ta, .inl (G 0, 320, .inl f)), (h0, .inr (5, [.ref tp, .ref td, .int u38, .int u39, .int x2, .int x3, .int (nI (pst f T 32 32 P)), .int (nI (pst f T 32 32 P)), .int x6, .int x7, .int x8, .int x9]))] := hD
              obtain ⟨w37, w37x⟩ := w37
              subst w37
              have hpost : (0 : Int32) = ntG f T (pst f T 32 32 P) := by
                have t_hp3 := hp3
                have t_n7 := n7
                have t_c8 := nltI c8
                have t_c32 := ltI c32
                have t_c33 := nltI c33
                have t_c34 := ltI c34
                have t_c35 := neI c35
                have : (48 : Int32).toInt = 48 := (by decide)
                have : (57 : Int32).toInt = 57 := (by decide)
                have : (59 : Int32).toInt = 59 := (by decide)
                have : (97 : Int32).toInt = 97 := (by decide)
                have : (122 : Int32).toInt = 122 := (by decide)
                have t_n0 : (nI P).toInt = (P : Int) := nI_toInt (by omega)
                have t_n1 : (nI T).toInt = (T : Int) := nI_toInt (by omega)
                have t_n2 : (nI (pst f T 32 32 P)).toInt = (((pst f T 32 32 P) : Nat) : Int) := nI_toInt (by omega)
                have z0 : (0 : Int32).toInt = 0 := (by decide)
                have z1 : (1 : Int32).toInt = 1 := (by decide)
                have z2 : (2 : Int32).toInt = 2 := (by decide)
                have z3 : (3 : Int32).toInt = 3 := (by decide)
                have z5 : (5 : Int32).toInt = 5 := (by decide)
                have z9 : (9 : Int32).toInt = 9 := (by decide)
                unfold ntG
                first | rw [if_pos (by omega)] | (have er : r4 = f (pst f T 32 32 P) := (by rw [w5, if_pos (by omega), nI_clamp (by omega)]); rw [if_neg (by omega), ← er]; (try (repeat (first | rw [if_pos (by assumption)] | rw [if_neg (by assumption)] | rw [if_pos (by omega)] | rw [if_neg (by omega)] | rw [if_pos (by decide)] | rw [if_neg (by decide)]))); all_goals rfl)
              have hP9 := hP.sub (ws' := [(h0, .inr (5, [.ref tp, .ref td, .int u38, .int u39, .int x2, .int x3, .int (nI (pst f T 32 32 P)), .int (nI (pst f T 32 32 P)), .int x6, .int x7, .int x8, .int x9])), (tp, .inr (7, [.int (nI T), .ref ta])), (ta, .inl (G 0, 320, .inl f))]) [2, 0, 1] rfl
              have hD9 := hD.sub (ws' := [(h0, .inr (5, [.ref tp, .ref td, .int u38, .int u39, .int x2, .int x3, .int (nI (pst f T 32 32 P)), .int (nI (pst f T 32 32 P)), .int x6, .int x7, .int x8, .int x9])), (tp, .inr (7, [.int (nI T), .ref ta])), (ta, .inl (G 0, 320, .inl f))]) [2, 0, 1] (by decide) rfl
              refine W.widen (k := 0) (n := 0) (by omega) (by omega) ?_
              exact W.zret (v := 0) hx hb hr (by first | rfl | decide | exact rfl) (fun t ht hW => ⟨⟨0, (u38, u39, x3, (pst f T 32 32 P), (pst f T 32 32 P)), rfl, ⟨hpost, (by have t_hp3 := hp3; have t_n7 := n7; have t_c8 := nltI c8; have t_c32 := ltI c32; have t_c33 := nltI c33; have t_c34 := ltI c34; have t_c35 := neI c35; have : (48 : Int32).toInt = 48 := (by decide); have : (57 : Int32).toInt = 57 := (by decide); have : (59 : Int32).toInt = 59 := (by decide); have : (97 : Int32).toInt = 97 := (by decide); have : (122 : Int32).toInt = 122 := (by decide); have t_n0 : (nI P).toInt = (P : Int) := nI_toInt (by omega); have t_n1 : (nI T).toInt = (T : Int) := nI_toInt (by omega); have t_n2 : (nI (pst f T 32 32 P)).toInt = (((pst f T 32 32 P) : Nat) : Int) := nI_toInt (by omega); have z0 : (0 : Int32).toInt = 0 := (by decide); have z1 : (1 : Int32).toInt = 1 := (by decide); have z2 : (2 : Int32).toInt = 2 := (by decide); have z3 : (3 : Int32).toInt = 3 := (by decide); have z5 : (5 : Int32).toInt = 5 := (by decide); have z9 : (9 : Int32).toInt = 9 := (by decide); refine ⟨by omega, by omega, ?_⟩; unfold ntS1; rw [w37x.1, w37x.2]; first | (rw [if_pos (by omega)]; done) | (have er : r4 = f (pst f T 32 32 P) := (by rw [w5, if_pos (by omega), nI_clamp (by omega)]); rw [if_neg (by omega), ← er]; (try (repeat (first | rw [if_pos (by assumption)] | rw [if_neg (by assumption)] | rw [if_pos (by omega)] | rw [if_neg (by omega)] | rw [if_pos (by decide)] | rw [if_neg (by decide)]))); all_goals rfl))⟩, ⟨by rw [ht]; exact hP9, hD9⟩⟩, hS.F ht⟩) hS.2.2 dX5_nextToken_200
            · skip
              have t_hp3 := hp3
              have t_n7 := n7
              have t_c8 := nltI c8
              have t_c32 := ltI c32
              have t_c33 := nltI c33
              have t_c34 := ltI c34
              have t_c35 := eqI c35
              have : (48 : Int32).toInt = 48 := (by decide)
              have : (57 : Int32).toInt = 57 := (by decide)
              have : (59 : Int32).toInt = 59 := (by decide)
              have : (97 : Int32).toInt = 97 := (by decide)
              have : (122 : Int32).toInt = 122 := (by decide)
              have t_n0 : (nI P).toInt = (P : Int) := nI_toInt (by omega)
              have t_n1 : (nI T).toInt = (T : Int) := nI_toInt (by omega)
              have t_n2 : (nI (pst f T 32 32 P)).toInt = (((pst f T 32 32 P) : Nat) : Int) := nI_toInt (by omega)
              exfalso; omega
          · skip
            have t_hp3 := hp3
            have t_n7 := n7
            have t_c8 := nltI c8
            have t_c32 := ltI c32
            have t_c33 := nltI c33
            have t_c34 := nltI c34
            have : (48 : Int32).toInt = 48 := (by decide)
            have : (57 : Int32).toInt = 57 := (by decide)
            have : (97 : Int32).toInt = 97 := (by decide)
            have : (122 : Int32).toInt = 122 := (by decide)
            have t_n0 : (nI P).toInt = (P : Int) := nI_toInt (by omega)
            have t_n1 : (nI T).toInt = (T : Int) := nI_toInt (by omega)
            have t_n2 : (nI (pst f T 32 32 P)).toInt = (((pst f T 32 32 P) : Nat) : Int) := nI_toInt (by omega)
            exfalso; omega
      · skip
        refine lv_aload_n hx hb dX5_nextToken_73 rfl (lv_at hl 1 rfl) ?_
        refine lv_iconst (v := 1) hx hb dX5_nextToken_74 (by decide) ?_
        refine va_put (D := (dC, dI)) (ci := 5) (v := .int 1) (ty := .int) (C := RX5) (T := TX5) (N := 12) hx hb hg inG5 tyX5 tyX5_ok nmX5 hown hK.1 hP hD hS 0 rfl rfl 5 (by decide) (hg _ wt_115) (fun _ h9 => h9) rfl (by decide +kernel) rfl rfl (Nat.le_of_ble_eq_true rfl) dX5_nextToken_75 (fun H locs hP hD hS => ?_)
        have hP : va_P (dC, dI) vwCl [(h0, .inr (5, [.ref tp, .ref td, .int x0, .int x1, .int x2, .int 1, .int (nI (pst f T 32 32 P)), .int (nI (pst f T 32 32 P)), .int x6, .int x7, .int x8, .int x9])), (tp, .inr (7, [.int (nI T), .ref ta])), (ta, .inl (G 0, 320, .inl f))] H := hP
        have hD : va_D A [(h0, .inr (5, [.ref tp, .ref td, .int x0, .int x1, .int x2, .int 1, .int (nI (pst f T 32 32 P)), .int (nI (pst f T 32 32 P)), .int x6, .int x7, .int x8, .int x9])), (tp, .inr (7, [.int (nI T), .ref ta])), (ta, .inl (G 0, 320, .inl f))] := hD
        refine lv_aload_n hx hb dX5_nextToken_78 rfl (lv_at hl 1 rfl) ?_
        refine lv_aload_n hx hb dX5_nextToken_79 rfl (lv_at hl 1 rfl) ?_
        refine va_get (D := (dC, dI)) (ci := 5) (v := .ref tp) (C := RX5) (T := TX5) (N := 12) hx hb hg inG5 hown hK.1 hP 0 rfl rfl 0 (by decide) (hg _ wt_105) (fun _ h9 => h9) rfl dX5_nextToken_80 ?_
        refine lv_aload_n hx hb dX5_nextToken_83 rfl (lv_at hl 1 rfl) ?_
        refine va_get (D := (dC, dI)) (ci := 5) (v := .int (nI (pst f T 32 32 P))) (C := RX5) (T := TX5) (N := 12) hx hb hg inG5 hown hK.1 hP 0 rfl rfl 6 (by decide) (hg _ wt_116) (fun _ h9 => h9) rfl dX5_nextToken_84 ?_
        refine lv_bipush (v := 97) hx hb dX5_nextToken_87 (by decide) ?_
        refine lv_bipush (v := 122) hx hb dX5_nextToken_89 (by decide) ?_
        have hPc := hP.sub (ws' := [(tp, .inr (7, [.int (nI T), .ref ta])), (ta, .inl (G 0, 320, .inl f))]) [1, 2] rfl
        refine va_calli (va_runVN (As := [.int (nI (pst f T 32 32 P)), .int 97, .int 122]) (rest := [.ref h0]) ⟨hx, hb, hml, hown, hg⟩ (c_X7_pastAllE l dC dI G _ tp ta T (pst f T 32 32 P) 97 122 f (by have t_hp3 := hp3; have t_n7 := n7; have t_c8 := nltI c8; have t_c32 := nltI c32; have : (97 : Int32).toInt = 97 := (by decide); have : (122 : Int32).toInt = 122 := (by decide); have t_n0 : (nI P).toInt = (P : Int) := nI_toInt (by omega); have t_n1 : (nI T).toInt = (T : Int) := nI_toInt (by omega); have t_n2 : (nI (pst f T 32 32 P)).toInt = (((pst f T 32 32 P) : Nat) : Int) := nI_toInt (by omega); have : (97 : Int32).toInt = 97 := (by decide); have : (122 : Int32).toInt = 122 := (by decide); omega) (by have t_hp3 := hp3; have t_n7 := n7; have t_c8 := nltI c8; have t_c32 := nltI c32; have : (97 : Int32).toInt = 97 := (by decide); have : (122 : Int32).toInt = 122 := (by decide); have t_n0 : (nI P).toInt = (P : Int) := nI_toInt (by omega); have t_n1 : (nI T).toInt = (T : Int) := nI_toInt (by omega); have t_n2 : (nI (pst f T 32 32 P)).toInt = (((pst f T 32 32 P) : Nat) : Int) := nI_toInt (by omega); have : (97 : Int32).toInt = 97 := (by decide); have : (122 : Int32).toInt = 122 := (by decide); omega)) (kwVN hg hK mfX7_pastAll wn_378 ⟨Nat.le_of_ble_eq_true rfl, Nat.le_of_ble_eq_true rfl⟩) (preVR hK hPc (ci := 7) rfl rfl) rfl rfl hl.1 rfl (lv_room (Nat.le_of_ble_eq_true rfl)) dX5_nextToken_91 ⟨Nat.le_of_ble_eq_true rfl, Nat.le_of_ble_eq_true rfl⟩) hS (fun q h1 h2 => absurd h2 (Nat.not_le.mpr h1)) (fun q h => hA q (Nat.le_trans hS.1 h)) (fun r40 ur40 t H1 locs ht hvm w41 hB hz1 hk1 hS => ?_)
        have hP := keepR hP hk1
        obtain ⟨w41, w41x⟩ := w41
        try rw [show (97 : Int32).toInt = 97 from (by decide)] at w41
        try rw [show (122 : Int32).toInt = 122 from (by decide)] at w41
        have hp42 : (pst f T 32 32 P) ≤ (pst f T 97 122 (pst f T 32 32 P)) ∧ (pst f T 97 122 (pst f T 32 32 P)) ≤ T := (pst_b (by have t_hp3 := hp3; have t_n7 := n7; have t_c8 := nltI c8; have t_c32 := nltI c32; have : (97 : Int32).toInt = 97 := (by decide); have : (122 : Int32).toInt = 122 := (by decide); have t_n0 : (nI P).toInt = (P : Int) := nI_toInt (by omega); have t_n1 : (nI T).toInt = (T : Int) := nI_toInt (by omega); have t_n2 : (nI (pst f T 32 32 P)).toInt = (((pst f T 32 32 P) : Nat) : Int) := nI_toInt (by omega); omega))
        subst w41
        refine va_put (D := (dC, dI)) (ci := 5) (v := .int (nI (pst f T 97 122 (pst f T 32 32 P)))) (ty := .int) (C := RX5) (T := TX5) (N := 12) hx hb hg inG5 tyX5 tyX5_ok nmX5 hown hK.1 hP hD hS 0 rfl rfl 7 (by decide) (hg _ wt_117) (fun _ h9 => h9) rfl (by decide +kernel) rfl rfl (Nat.le_of_ble_eq_true rfl) dX5_nextToken_94 (fun H locs hP hD hS => ?_)
        have hP : va_P (dC, dI) vwCl [(h0, .inr (5, [.ref tp, .ref td, .int x0, .int x1, .int x2, .int 1, .int (nI (pst f T 32 32 P)), .int (nI (pst f T 97 122 (pst f T 32 32 P))), .int x6, .int x7, .int x8, .int x9])), (tp, .inr (7, [.int (nI T), .ref ta])), (ta, .inl (G 0, 320, .inl f))] H := hP
        have hD : va_D A [(h0, .inr (5, [.ref tp, .ref td, .int x0, .int x1, .int x2, .int 1, .int (nI (pst f T 32 32 P)), .int (nI (pst f T 97 122 (pst f T 32 32 P))), .int x6, .int x7, .int x8, .int x9])), (tp, .inr (7, [.int (nI T), .ref ta])), (ta, .inl (G 0, 320, .inl f))] := hD
        refine lv_goto (tgt := 201) hx hb dX5_nextToken_97 (by decide) ?_
        refine lv_iconst (v := 1) hx hb dX5_nextToken_201 (by decide) ?_
        have hpost : (1 : Int32) = ntG f T (pst f T 32 32 P) := by
          have t_hp3 := hp3
          have t_n7 := n7
          have t_c8 := nltI c8
          have t_c32 := nltI c32
          have t_hp42 := hp42
          have : (97 : Int32).toInt = 97 := (by decide)
          have : (122 : Int32).toInt = 122 := (by decide)
          have t_n0 : (nI P).toInt = (P : Int) := nI_toInt (by omega)
          have t_n1 : (nI T).toInt = (T : Int) := nI_toInt (by omega)
          have t_n2 : (nI (pst f T 32 32 P)).toInt = (((pst f T 32 32 P) : Nat) : Int) := nI_toInt (by omega)
          have t_n3 : (nI (pst f T 97 122 (pst f T 32 32 P))).toInt = (((pst f T 97 122 (pst f T 32 32 P)) : Nat) : Int) := nI_toInt (by omega)
          have z0 : (0 : Int32).toInt = 0 := (by decide)
          have z1 : (1 : Int32).toInt = 1 := (by decide)
          have z2 : (2 : Int32).toInt = 2 := (by decide)
          have z3 : (3 : Int32).toInt = 3 := (by decide)
          have z5 : (5 : Int32).toInt = 5 := (by decide)
          have z9 : (9 : Int32).toInt = 9 := (by decide)
          unfold ntG
          first | rw [if_pos (by omega)] | (have er : r4 = f (pst f T 32 32 P) := (by rw [w5, if_pos (by omega), nI_clamp (by omega)]); rw [if_neg (by omega), ← er]; (try (repeat (first | rw [if_pos (by assumption)] | rw [if_neg (by assumption)] | rw [if_pos (by omega)] | rw [if_neg (by omega)] | rw [if_pos (by decide)] | rw [if_neg (by decide)]))); all_goals rfl)
        have hP9 := hP.sub (ws' := [(h0, .inr (5, [.ref tp, .ref td, .int x0, .int x1, .int x2, .int 1, .int (nI (pst f T 32 32 P)), .int (nI (pst f T 97 122 (pst f T 32 32 P))), .int x6, .int x7, .int x8, .int x9])), (tp, .inr (7, [.int (nI T), .ref ta])), (ta, .inl (G 0, 320, .inl f))]) [0, 1, 2] rfl
        have hD9 := hD.sub (ws' := [(h0, .inr (5, [.ref tp, .ref td, .int x0, .int x1, .int x2, .int 1, .int (nI (pst f T 32 32 P)), .int (nI (pst f T 97 122 (pst f T 32 32 P))), .int x6, .int x7, .int x8, .int x9])), (tp, .inr (7, [.int (nI T), .ref ta])), (ta, .inl (G 0, 320, .inl f))]) [0, 1, 2] (by decide) rfl
        refine W.widen (k := 0) (n := 0) (by omega) (by omega) ?_
        exact W.zret (v := 1) hx hb hr (by first | rfl | decide | exact rfl) (fun t ht hW => ⟨⟨1, (x0, x1, 1, (pst f T 32 32 P), (pst f T 97 122 (pst f T 32 32 P))), rfl, ⟨hpost, (by have t_hp3 := hp3; have t_n7 := n7; have t_c8 := nltI c8; have t_c32 := nltI c32; have t_hp42 := hp42; have : (97 : Int32).toInt = 97 := (by decide); have : (122 : Int32).toInt = 122 := (by decide); have t_n0 : (nI P).toInt = (P : Int) := nI_toInt (by omega); have t_n1 : (nI T).toInt = (T : Int) := nI_toInt (by omega); have t_n2 : (nI (pst f T 32 32 P)).toInt = (((pst f T 32 32 P) : Nat) : Int) := nI_toInt (by omega); have t_n3 : (nI (pst f T 97 122 (pst f T 32 32 P))).toInt = (((pst f T 97 122 (pst f T 32 32 P)) : Nat) : Int) := nI_toInt (by omega); have z0 : (0 : Int32).toInt = 0 := (by decide); have z1 : (1 : Int32).toInt = 1 := (by decide); have z2 : (2 : Int32).toInt = 2 := (by decide); have z3 : (3 : Int32).toInt = 3 := (by decide); have z5 : (5 : Int32).toInt = 5 := (by decide); have z9 : (9 : Int32).toInt = 9 := (by decide); refine ⟨by omega, by omega, ?_⟩; unfold ntS1; first | (rw [if_pos (by omega)]; done) | (have er : r4 = f (pst f T 32 32 P) := (by rw [w5, if_pos (by omega), nI_clamp (by omega)]); rw [if_neg (by omega), ← er]; (try (repeat (first | rw [if_pos (by assumption)] | rw [if_neg (by assumption)] | rw [if_pos (by omega)] | rw [if_neg (by omega)] | rw [if_pos (by decide)] | rw [if_neg (by decide)]))); all_goals rfl))⟩, ⟨by rw [ht]; exact hP9, hD9⟩⟩, hS.F ht⟩) hS.2.2 dX5_nextToken_202
  · skip
    have n43 : T ≤ (pst f T 32 32 P) := by have t := nltI c6; rw [nI_toInt (n := (pst f T 32 32 P)) (by omega)] at t; rw [nI_toInt (n := T) (by omega)] at t; omega
    refine lv_aload_n hx hb dX5_nextToken_53 rfl (lv_at hl 1 rfl) ?_
    refine lv_iconst (v := 0) hx hb dX5_nextToken_54 (by decide) ?_
    refine va_put (D := (dC, dI)) (ci := 5) (v := .int 0) (ty := .int) (C := RX5) (T := TX5) (N := 12) hx hb hg inG5 tyX5 tyX5_ok nmX5 hown hK.1 hP hD hS 0 rfl rfl 5 (by decide) (hg _ wt_115) (fun _ h9 => h9) rfl (by decide +kernel) rfl rfl (Nat.le_of_ble_eq_true rfl) dX5_nextToken_55 (fun H locs hP hD hS => ?_)
    have hP : va_P (dC, dI) vwCl [(h0, .inr (5, [.ref tp, .ref td, .int x0, .int x1, .int x2, .int 0, .int (nI (pst f T 32 32 P)), .int (nI (pst f T 32 32 P)), .int x6, .int x7, .int x8, .int x9])), (tp, .inr (7, [.int (nI T), .ref ta])), (ta, .inl (G 0, 320, .inl f))] H := hP
    have hD : va_D A [(h0, .inr (5, [.ref tp, .ref td, .int x0, .int x1, .int x2, .int 0, .int (nI (pst f T 32 32 P)), .int (nI (pst f T 32 32 P)), .int x6, .int x7, .int x8, .int x9])), (tp, .inr (7, [.int (nI T), .ref ta])), (ta, .inl (G 0, 320, .inl f))] := hD
    refine lv_goto (tgt := 201) hx hb dX5_nextToken_58 (by decide) ?_
    refine lv_iconst (v := 1) hx hb dX5_nextToken_201 (by decide) ?_
    have hpost : (1 : Int32) = ntG f T (pst f T 32 32 P) := by
      have t_hp3 := hp3
      have t_n43 := n43
      have t_n0 : (nI P).toInt = (P : Int) := nI_toInt (by omega)
      have t_n1 : (nI T).toInt = (T : Int) := nI_toInt (by omega)
      have t_n2 : (nI (pst f T 32 32 P)).toInt = (((pst f T 32 32 P) : Nat) : Int) := nI_toInt (by omega)
      have z0 : (0 : Int32).toInt = 0 := (by decide)
      have z1 : (1 : Int32).toInt = 1 := (by decide)
      have z2 : (2 : Int32).toInt = 2 := (by decide)
      have z3 : (3 : Int32).toInt = 3 := (by decide)
      have z5 : (5 : Int32).toInt = 5 := (by decide)
      have z9 : (9 : Int32).toInt = 9 := (by decide)
      unfold ntG
      first | rw [if_pos (by omega)] | (have er : r4 = f (pst f T 32 32 P) := (by rw [w5, if_pos (by omega), nI_clamp (by omega)]); rw [if_neg (by omega), ← er]; (try (repeat (first | rw [if_pos (by assumption)] | rw [if_neg (by assumption)] | rw [if_pos (by omega)] | rw [if_neg (by omega)] | rw [if_pos (by decide)] | rw [if_neg (by decide)]))); all_goals rfl)
    have hP9 := hP.sub (ws' := [(h0, .inr (5, [.ref tp, .ref td, .int x0, .int x1, .int x2, .int 0, .int (nI (pst f T 32 32 P)), .int (nI (pst f T 32 32 P)), .int x6, .int x7, .int x8, .int x9])), (tp, .inr (7, [.int (nI T), .ref ta])), (ta, .inl (G 0, 320, .inl f))]) [0, 1, 2] rfl
    have hD9 := hD.sub (ws' := [(h0, .inr (5, [.ref tp, .ref td, .int x0, .int x1, .int x2, .int 0, .int (nI (pst f T 32 32 P)), .int (nI (pst f T 32 32 P)), .int x6, .int x7, .int x8, .int x9])), (tp, .inr (7, [.int (nI T), .ref ta])), (ta, .inl (G 0, 320, .inl f))]) [0, 1, 2] (by decide) rfl
    refine W.widen (k := 0) (n := 0) (by omega) (by omega) ?_
    exact W.zret (v := 1) hx hb hr (by first | rfl | decide | exact rfl) (fun t ht hW => ⟨⟨1, (x0, x1, 0, (pst f T 32 32 P), (pst f T 32 32 P)), rfl, ⟨hpost, (by have t_hp3 := hp3; have t_n43 := n43; have t_n0 : (nI P).toInt = (P : Int) := nI_toInt (by omega); have t_n1 : (nI T).toInt = (T : Int) := nI_toInt (by omega); have t_n2 : (nI (pst f T 32 32 P)).toInt = (((pst f T 32 32 P) : Nat) : Int) := nI_toInt (by omega); have z0 : (0 : Int32).toInt = 0 := (by decide); have z1 : (1 : Int32).toInt = 1 := (by decide); have z2 : (2 : Int32).toInt = 2 := (by decide); have z3 : (3 : Int32).toInt = 3 := (by decide); have z5 : (5 : Int32).toInt = 5 := (by decide); have z9 : (9 : Int32).toInt = 9 := (by decide); refine ⟨by omega, by omega, ?_⟩; unfold ntS1; first | (rw [if_pos (by omega)]; done) | (have er : r4 = f (pst f T 32 32 P) := (by rw [w5, if_pos (by omega), nI_clamp (by omega)]); rw [if_neg (by omega), ← er]; (try (repeat (first | rw [if_pos (by assumption)] | rw [if_neg (by assumption)] | rw [if_pos (by omega)] | rw [if_neg (by omega)] | rw [if_pos (by decide)] | rw [if_neg (by decide)]))); all_goals rfl))⟩, ⟨by rw [ht]; exact hP9, hD9⟩⟩, hS.F ht⟩) hS.2.2 dX5_nextToken_202
