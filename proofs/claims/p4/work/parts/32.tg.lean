set_option maxHeartbeats 1000000 in
set_option maxRecDepth 100000 in
theorem c_X11_nameHereE (l : Launch) (dC : Nat → ClassId) (dI : Nat → Nat → Nat) (G : Nat → ClassId) (sz : Nat) (h0 st N B rp tp T nsp nhe cu lt od th be ln S ma M ah bh ik la lg ce : Nat) (vrs vrb vhs vca vxs vxb vfa vbr vba vtk vva vto : Int32) (ftp : Nat → Int32) (fcu : Nat → Int32) (flt : Nat → Int32) (hN : N ≤ 10) (hB : B ≤ 6) (hT : T ≤ 320) (hS0 : S ≤ 8) (hM : M ≤ 6) (hsp : nsp ≤ T) (hhe : nhe ≤ nsp) (hc : ∀ q : Nat, q < 11 → fcu q = nI (cutL.getD q 0)) (hlt : ∀ q : Nat, q < 54 → flt q = letL.getD q 0) : Met l yX11_nameHere (Cond.code yX11_nameHere cX11_nameHere 4 (some .int) :: GT) ({ frames := 1, cells := 0, slots := 0, locals := 21 } : Room) (PcR [.ref h0] dC dI G [(h0, .inr (11, [.ref st, .int (nI N), .int (nI B), .ref rp, .int vrs, .int vrb, .int vhs, .int vca, .int vxs, .int vxb, .ref tp, .int (nI T), .int vfa, .int vbr, .int vba, .int (nI nsp), .int (nI nhe), .int vtk, .int vva, .ref cu, .ref lt, .ref od, .ref th, .ref be, .ref ln, .int (nI S), .ref ma, .int (nI M), .ref ah, .ref bh, .ref ik, .ref la, .ref lg, .ref ce, .int vto])), (tp, .inl (G 0, 320, .inl ftp)), (cu, .inl (G 0, 11, .inl fcu)), (lt, .inl (G 0, 54, .inl flt))] sz) (va_Qi (fun (r : Int32) (u : Unit) => match u with | _ => ((r = -4 ∨ ∃ k : Nat, r = nI k ∧ k ≤ 9) ∧ r = nmS ftp nhe nsp vtk) ∧ True) (fun _ _ => True) (fun q : Nat => sz ≤ q)) 0 0 (fun q : Nat => sz ≤ q) := by
  refine Met.ofW (cc := cX11_nameHere) (maxL := 4) (ret := (some .int)) (by decide) rfl ?_
  intro p e s m args below meth c s₁ Bd hml hv
  obtain ⟨rfl, hsz, hP, hK⟩ := hv
  have hx := Bd.exec
  have hb := Bd.bytes
  have hr := Bd.returns
  have hg : ∀ w ∈ GT, w.before ([.ref h0] : List Value).toArray s = true := fun w h => atoms_spec (ws := Cond.code yX11_nameHere cX11_nameHere 4 (some .int) :: GT) Bd.pre w (List.mem_cons_of_mem _ h)
  have hown : s.vm.findClass RX11 = some m.cls := findClass_of_methodNamed Bd.named
  have hlocks := Bd.notSynchronized
  subst hsz
  have hA : ∀ q : Nat, s.heap.size ≤ q → (fun q : Nat => s.heap.size ≤ q) q := fun _ h => h
  have hS : va_S (fun q : Nat => s.heap.size ≤ q) s.heap s.heap [] := va_S.rf
  have hl := lv_entry ([.ref h0]) (n := 4) (Nat.le_of_ble_eq_true rfl)
  rw [lg_entry_eq]
  generalize (lg_sl ([.ref h0]) ++ List.replicate (4 - (lg_sl ([.ref h0])).length) Slot.unset).toArray = ls at hl ⊢
  have hl : lv_has ls 4 [(0, .ref h0)] := hl
  refine lv_iconst (v := 0) hx hb dX11_nameHere_0 (by decide) ?_
  refine lv_istore_n (lv' := [(1, .int 0), (0, .ref h0)]) hx hb dX11_nameHere_1 rfl hl (by decide) rfl (fun ls hl => ?_)
  have loop2_2 : ∀ (nf j1 : Nat), 10 + 1 ≤ j1 + nf → j1 ≤ 10 → ∀ (H : Heap) (locs : List Loc), nmF ftp nhe nsp (10 - j1) = nmF ftp nhe nsp 10 → va_P (dC, dI) vwCl [(h0, .inr (11, [.ref st, .int (nI N), .int (nI B), .ref rp, .int vrs, .int vrb, .int vhs, .int vca, .int vxs, .int vxb, .ref tp, .int (nI T), .int vfa, .int vbr, .int vba, .int (nI nsp), .int (nI nhe), .int vtk, .int vva, .ref cu, .ref lt, .ref od, .ref th, .ref be, .ref ln, .int (nI S), .ref ma, .int (nI M), .ref ah, .ref bh, .ref ik, .ref la, .ref lg, .ref ce, .int vto])), (tp, .inl (G 0, 320, .inl ftp)), (cu, .inl (G 0, 11, .inl fcu)), (lt, .inl (G 0, 54, .inl flt))] H → va_S (fun q : Nat => s.heap.size ≤ q) s.heap H locs → ∀ (ls : Array Slot), lv_has ls 4 [(1, .int (nI j1)), (0, .ref h0)] → W p l e (headSpec (Cond.code yX11_nameHere cX11_nameHere 4 (some .int) :: GT) ({ frames := 1, cells := 0, slots := 0, locals := 21 } : Room)).room s m ([.ref h0] : List Value).toArray below meth c H locs 0 0 (MQ below (va_Qi (fun (r : Int32) (u : Unit) => match u with | _ => ((r = -4 ∨ ∃ k : Nat, r = nI k ∧ k ≤ 9) ∧ r = nmS ftp nhe nsp vtk) ∧ True) (fun _ _ => True) (fun q : Nat => s.heap.size ≤ q)) ([.ref h0] : List Value).toArray s 0 0 (fun q : Nat => s.heap.size ≤ q)) (F0 m 2 ls []) := by
    intro nf
    induction nf with
    | zero => intro j1 h1 h2; exact absurd h1 (by omega)
    | succ nf ih2_2 =>
      intro j1 hn3 hj4  H locs hinv hP hS ls hl
      refine lv_iload_n hx hb dX11_nameHere_2 rfl (lv_at hl 0 rfl) ?_
      refine lv_bipush (v := 10) hx hb dX11_nameHere_3 (by decide) ?_
      refine lv_icmp_ge (tgt := 118) hx hb dX11_nameHere_5 (by decide) (fun c5 => ?_) (fun c5 => ?_)
      · skip
        have n6 : 10 ≤ j1 := by have t := leI c5; rw [nI_toInt (n := j1) (by omega)] at t; have : (10 : Int32).toInt = 10 := (by decide); omega
        refine lv_bipush (v := (-4)) hx hb dX11_nameHere_118 (by decide) ?_
        have hpost : (((-4) : Int32) = -4 ∨ ∃ k : Nat, ((-4) : Int32) = nI k ∧ k ≤ 9) ∧ ((-4) : Int32) = nmS ftp nhe nsp vtk := by
          have t_hj4 := hj4
          have t_n6 := n6
          have t_n0 : (nI N).toInt = (N : Int) := nI_toInt (by omega)
          have t_n1 : (nI B).toInt = (B : Int) := nI_toInt (by omega)
          have t_n2 : (nI T).toInt = (T : Int) := nI_toInt (by omega)
          have t_n3 : (nI nsp).toInt = (nsp : Int) := nI_toInt (by omega)
          have t_n4 : (nI nhe).toInt = (nhe : Int) := nI_toInt (by omega)
          have t_n5 : (nI S).toInt = (S : Int) := nI_toInt (by omega)
          have t_n6 : (nI M).toInt = (M : Int) := nI_toInt (by omega)
          have t_n7 : (nI j1).toInt = (j1 : Int) := nI_toInt (by omega)
          have z0 : (0 : Int32).toInt = 0 := (by decide)
          have z1 : (1 : Int32).toInt = 1 := (by decide)
          have z2 : (2 : Int32).toInt = 2 := (by decide)
          have z3 : (3 : Int32).toInt = 3 := (by decide)
          have z5 : (5 : Int32).toInt = 5 := (by decide)
          have z9 : (9 : Int32).toInt = 9 := (by decide)
          refine ⟨Or.inl rfl, ?_⟩
          unfold nmS
          first | (rw [if_neg (by assumption)]) | (split <;> first | rfl | (rw [← hinv, show 10 - j1 = 0 by omega]; rfl))
        refine W.widen (k := 0) (n := 0) (by omega) (by omega) ?_
        exact W.iret (v := (-4)) hx hb hr (fun t ht hW => ⟨⟨(-4), (), rfl, ⟨hpost, trivial⟩, trivial⟩, hS.F ht⟩) hS.2.2 dX11_nameHere_120
      · skip
        have n7 : j1 < 10 := by have t := nleI c5; rw [nI_toInt (n := j1) (by omega)] at t; have : (10 : Int32).toInt = 10 := (by decide); omega
        refine lv_aload_n hx hb dX11_nameHere_8 rfl (lv_at hl 1 rfl) ?_
        refine va_get (D := (dC, dI)) (ci := 11) (v := .int vtk) (C := RX11) (T := TX11) (N := 35) hx hb hg inG11 hown hK.1 hP 0 rfl rfl 17 (by decide) (hg _ wt_895) (fun _ h9 => h9) rfl dX11_nameHere_9 ?_
        refine lv_iconst (v := 1) hx hb dX11_nameHere_12 (by decide) ?_
        refine lv_icmp_ne (tgt := 118) hx hb dX11_nameHere_13 (by decide) (fun c8 => ?_) (fun c8 => ?_)
        · skip
          refine lv_bipush (v := (-4)) hx hb dX11_nameHere_118 (by decide) ?_
          have hpost : (((-4) : Int32) = -4 ∨ ∃ k : Nat, ((-4) : Int32) = nI k ∧ k ≤ 9) ∧ ((-4) : Int32) = nmS ftp nhe nsp vtk := by
            have t_hj4 := hj4
            have t_n7 := n7
            have t_c8 := neI c8
            have : (1 : Int32).toInt = 1 := (by decide)
            have t_n0 : (nI N).toInt = (N : Int) := nI_toInt (by omega)
            have t_n1 : (nI B).toInt = (B : Int) := nI_toInt (by omega)
            have t_n2 : (nI T).toInt = (T : Int) := nI_toInt (by omega)
            have t_n3 : (nI nsp).toInt = (nsp : Int) := nI_toInt (by omega)
            have t_n4 : (nI nhe).toInt = (nhe : Int) := nI_toInt (by omega)
            have t_n5 : (nI S).toInt = (S : Int) := nI_toInt (by omega)
            have t_n6 : (nI M).toInt = (M : Int) := nI_toInt (by omega)
            have t_n7 : (nI j1).toInt = (j1 : Int) := nI_toInt (by omega)
            have z0 : (0 : Int32).toInt = 0 := (by decide)
            have z1 : (1 : Int32).toInt = 1 := (by decide)
            have z2 : (2 : Int32).toInt = 2 := (by decide)
            have z3 : (3 : Int32).toInt = 3 := (by decide)
            have z5 : (5 : Int32).toInt = 5 := (by decide)
            have z9 : (9 : Int32).toInt = 9 := (by decide)
            refine ⟨Or.inl rfl, ?_⟩
            unfold nmS
            first | (rw [if_neg (by assumption)]) | (split <;> first | rfl | (rw [← hinv, show 10 - j1 = 0 by omega]; rfl))
          refine W.widen (k := 0) (n := 0) (by omega) (by omega) ?_
          exact W.iret (v := (-4)) hx hb hr (fun t ht hW => ⟨⟨(-4), (), rfl, ⟨hpost, trivial⟩, trivial⟩, hS.F ht⟩) hS.2.2 dX11_nameHere_120
        · skip
          have hout := hinv
          refine lv_aload_n hx hb dX11_nameHere_16 rfl (lv_at hl 1 rfl) ?_
          refine va_get (D := (dC, dI)) (ci := 11) (v := .int (nI nsp)) (C := RX11) (T := TX11) (N := 35) hx hb hg inG11 hown hK.1 hP 0 rfl rfl 15 (by decide) (hg _ wt_893) (fun _ h9 => h9) rfl dX11_nameHere_17 ?_
          refine lv_aload_n hx hb dX11_nameHere_20 rfl (lv_at hl 1 rfl) ?_
          refine va_get (D := (dC, dI)) (ci := 11) (v := .int (nI nhe)) (C := RX11) (T := TX11) (N := 35) hx hb hg inG11 hown hK.1 hP 0 rfl rfl 16 (by decide) (hg _ wt_894) (fun _ h9 => h9) rfl dX11_nameHere_21 ?_
          refine lv_isub hx hb dX11_nameHere_24 ?_
          refine lv_cg (y := nI (nsp - nhe)) (by exact pk_sub (by have t_hj4 := hj4; have t_n7 := n7; have t_c8 := eqI c8; have : (1 : Int32).toInt = 1 := (by decide); have t_n0 : (nI N).toInt = (N : Int) := nI_toInt (by omega); have t_n1 : (nI B).toInt = (B : Int) := nI_toInt (by omega); have t_n2 : (nI T).toInt = (T : Int) := nI_toInt (by omega); have t_n3 : (nI nsp).toInt = (nsp : Int) := nI_toInt (by omega); have t_n4 : (nI nhe).toInt = (nhe : Int) := nI_toInt (by omega); have t_n5 : (nI S).toInt = (S : Int) := nI_toInt (by omega); have t_n6 : (nI M).toInt = (M : Int) := nI_toInt (by omega); have t_n7 : (nI j1).toInt = (j1 : Int) := nI_toInt (by omega); omega)) ?_
          refine lv_aload_n hx hb dX11_nameHere_25 rfl (lv_at hl 1 rfl) ?_
          refine va_get (D := (dC, dI)) (ci := 11) (v := .ref cu) (C := RX11) (T := TX11) (N := 35) hx hb hg inG11 hown hK.1 hP 0 rfl rfl 19 (by decide) (hg _ wt_897) (fun _ h9 => h9) rfl dX11_nameHere_26 ?_
          refine lv_iload_n hx hb dX11_nameHere_29 rfl (lv_at hl 0 rfl) ?_
          refine lv_iconst (v := 1) hx hb dX11_nameHere_30 (by decide) ?_
          refine lv_iadd hx hb dX11_nameHere_31 ?_
          refine lv_cg (y := nI (j1 + 1)) (by rw [show (1 : Int32) = nI 1 from rfl]; exact nI_add _ _) ?_
          refine va_iald hx hb hK.1 hP 2 0 rfl rfl (vp_in_nI (by have t_hj4 := hj4; have t_n7 := n7; have t_c8 := eqI c8; have : (1 : Int32).toInt = 1 := (by decide); have t_n0 : (nI N).toInt = (N : Int) := nI_toInt (by omega); have t_n1 : (nI B).toInt = (B : Int) := nI_toInt (by omega); have t_n2 : (nI T).toInt = (T : Int) := nI_toInt (by omega); have t_n3 : (nI nsp).toInt = (nsp : Int) := nI_toInt (by omega); have t_n4 : (nI nhe).toInt = (nhe : Int) := nI_toInt (by omega); have t_n5 : (nI S).toInt = (S : Int) := nI_toInt (by omega); have t_n6 : (nI M).toInt = (M : Int) := nI_toInt (by omega); have t_n7 : (nI j1).toInt = (j1 : Int) := nI_toInt (by omega); omega) (by decide)) dX11_nameHere_32 ?_
          refine lv_cg (y := fcu (j1 + 1)) (by rw [nI_clamp (by omega)]) ?_
          refine lv_cg (y := nI (cutL.getD (j1 + 1) 0)) (hc (j1 + 1) (by omega)) ?_
          refine lv_aload_n hx hb dX11_nameHere_33 rfl (lv_at hl 1 rfl) ?_
          refine va_get (D := (dC, dI)) (ci := 11) (v := .ref cu) (C := RX11) (T := TX11) (N := 35) hx hb hg inG11 hown hK.1 hP 0 rfl rfl 19 (by decide) (hg _ wt_897) (fun _ h9 => h9) rfl dX11_nameHere_34 ?_
          refine lv_iload_n hx hb dX11_nameHere_37 rfl (lv_at hl 0 rfl) ?_
          refine va_iald hx hb hK.1 hP 2 0 rfl rfl (vp_in_nI (by have t_hj4 := hj4; have t_n7 := n7; have t_c8 := eqI c8; have : (1 : Int32).toInt = 1 := (by decide); have t_n0 : (nI N).toInt = (N : Int) := nI_toInt (by omega); have t_n1 : (nI B).toInt = (B : Int) := nI_toInt (by omega); have t_n2 : (nI T).toInt = (T : Int) := nI_toInt (by omega); have t_n3 : (nI nsp).toInt = (nsp : Int) := nI_toInt (by omega); have t_n4 : (nI nhe).toInt = (nhe : Int) := nI_toInt (by omega); have t_n5 : (nI S).toInt = (S : Int) := nI_toInt (by omega); have t_n6 : (nI M).toInt = (M : Int) := nI_toInt (by omega); have t_n7 : (nI j1).toInt = (j1 : Int) := nI_toInt (by omega); omega) (by decide)) dX11_nameHere_38 ?_
          refine lv_cg (y := fcu j1) (by rw [nI_clamp (by omega)]) ?_
          refine lv_cg (y := nI (cutL.getD j1 0)) (hc j1 (by omega)) ?_
          have hcmj1 := cut_mono (n := j1) (by omega)
          refine lv_isub hx hb dX11_nameHere_39 ?_
          refine lv_cg (y := nI ((cutL.getD (j1 + 1) 0) - (cutL.getD j1 0))) (by exact pk_sub (by have t_hj4 := hj4; have t_n7 := n7; have t_c8 := eqI c8; have t_hcmj1 := hcmj1; have : (1 : Int32).toInt = 1 := (by decide); have t_n0 : (nI N).toInt = (N : Int) := nI_toInt (by omega); have t_n1 : (nI B).toInt = (B : Int) := nI_toInt (by omega); have t_n2 : (nI T).toInt = (T : Int) := nI_toInt (by omega); have t_n3 : (nI nsp).toInt = (nsp : Int) := nI_toInt (by omega); have t_n4 : (nI nhe).toInt = (nhe : Int) := nI_toInt (by omega); have t_n5 : (nI S).toInt = (S : Int) := nI_toInt (by omega); have t_n6 : (nI M).toInt = (M : Int) := nI_toInt (by omega); have t_n7 : (nI j1).toInt = (j1 : Int) := nI_toInt (by omega); omega)) ?_
          refine lv_icmp_ne (tgt := 47) hx hb dX11_nameHere_40 (by decide) (fun c9 => ?_) (fun c9 => ?_)
          · skip
            have n10 : (nsp - nhe) ≠ ((cutL.getD (j1 + 1) 0) - (cutL.getD j1 0)) := by have t := neI c9; rw [nI_toInt (n := (nsp - nhe)) (by omega)] at t; rw [nI_toInt (n := ((cutL.getD (j1 + 1) 0) - (cutL.getD j1 0))) (by omega)] at t; omega
            refine lv_iconst (v := 0) hx hb dX11_nameHere_47 (by decide) ?_
            refine lv_istore_n (lv' := [(2, .int 0), (1, .int (nI j1)), (0, .ref h0)]) hx hb dX11_nameHere_48 rfl hl (by decide) rfl (fun ls hl => ?_)
            refine lv_iconst (v := 0) hx hb dX11_nameHere_49 (by decide) ?_
            refine lv_istore_n (lv' := [(3, .int 0), (2, .int 0), (1, .int (nI j1)), (0, .ref h0)]) hx hb dX11_nameHere_50 rfl hl (by decide) rfl (fun ls hl => ?_)
            have loop51_12 : ∀ (nf j11 : Nat), (nsp - nhe) + 1 ≤ j11 + nf → j11 ≤ (nsp - nhe) → ∀ (H : Heap) (locs : List Loc), True → va_P (dC, dI) vwCl [(h0, .inr (11, [.ref st, .int (nI N), .int (nI B), .ref rp, .int vrs, .int vrb, .int vhs, .int vca, .int vxs, .int vxb, .ref tp, .int (nI T), .int vfa, .int vbr, .int vba, .int (nI nsp), .int (nI nhe), .int vtk, .int vva, .ref cu, .ref lt, .ref od, .ref th, .ref be, .ref ln, .int (nI S), .ref ma, .int (nI M), .ref ah, .ref bh, .ref ik, .ref la, .ref lg, .ref ce, .int vto])), (tp, .inl (G 0, 320, .inl ftp)), (cu, .inl (G 0, 11, .inl fcu)), (lt, .inl (G 0, 54, .inl flt))] H → va_S (fun q : Nat => s.heap.size ≤ q) s.heap H locs → ∀ (ls : Array Slot), lv_has ls 4 [(3, .int (nI j11)), (2, .int 0), (1, .int (nI j1)), (0, .ref h0)] → W p l e (headSpec (Cond.code yX11_nameHere cX11_nameHere 4 (some .int) :: GT) ({ frames := 1, cells := 0, slots := 0, locals := 21 } : Room)).room s m ([.ref h0] : List Value).toArray below meth c H locs 0 0 (MQ below (va_Qi (fun (r : Int32) (u : Unit) => match u with | _ => ((r = -4 ∨ ∃ k : Nat, r = nI k ∧ k ≤ 9) ∧ r = nmS ftp nhe nsp vtk) ∧ True) (fun _ _ => True) (fun q : Nat => s.heap.size ≤ q)) ([.ref h0] : List Value).toArray s 0 0 (fun q : Nat => s.heap.size ≤ q)) (F0 m 51 ls []) := by
              intro nf
              induction nf with
              | zero => intro j11 h1 h2; exact absurd h1 (by omega)
              | succ nf ih51_12 =>
                intro j11 hn13 hj14  H locs hinv hP hS ls hl
                refine lv_iload_n hx hb dX11_nameHere_51 rfl (lv_at hl 1 rfl) ?_
                refine lv_if_eq (tgt := 106) hx hb dX11_nameHere_52 (by decide) (fun c15 => ?_) (fun c15 => ?_)
                · skip
                  refine lv_iload_n hx hb dX11_nameHere_106 rfl (lv_at hl 1 rfl) ?_
                  refine lv_if_eq (tgt := 112) hx hb dX11_nameHere_107 (by decide) (fun c16 => ?_) (fun c16 => ?_)
                  · skip
                    refine lv_iinc (v := nI (j1 + 1)) (lv' := [(1, .int (nI (j1 + 1))), (3, .int (nI j11)), (2, .int 0), (0, .ref h0)]) hx hb dX11_nameHere_112 hl (k := 2) rfl (by rw [show Int32.ofInt 1 = nI 1 from by decide]; exact nI_add _ _) (by decide) rfl (fun ls hl => ?_)
                    refine lv_goto (tgt := 2) hx hb dX11_nameHere_115 (by decide) ?_
                    exact ih2_2 (j1 + 1) (by omega) (by omega)  _ _ (by have t_hj4 := hj4; have t_n7 := n7; have t_c8 := eqI c8; have t_hcmj1 := hcmj1; have t_n10 := n10; have t_hj14 := hj14; have t_c15 := eqI c15; have t_c16 := eqI c16; have : (0 : Int32).toInt = 0 := (by decide); have : (1 : Int32).toInt = 1 := (by decide); have t_n0 : (nI N).toInt = (N : Int) := nI_toInt (by omega); have t_n1 : (nI B).toInt = (B : Int) := nI_toInt (by omega); have t_n2 : (nI T).toInt = (T : Int) := nI_toInt (by omega); have t_n3 : (nI nsp).toInt = (nsp : Int) := nI_toInt (by omega); have t_n4 : (nI nhe).toInt = (nhe : Int) := nI_toInt (by omega); have t_n5 : (nI S).toInt = (S : Int) := nI_toInt (by omega); have t_n6 : (nI M).toInt = (M : Int) := nI_toInt (by omega); have t_n7 : (nI j1).toInt = (j1 : Int) := nI_toInt (by omega); have t_n8 : (nI j11).toInt = (j11 : Int) := nI_toInt (by omega); have z0 : (0 : Int32).toInt = 0 := (by decide); have z1 : (1 : Int32).toInt = 1 := (by decide); have z2 : (2 : Int32).toInt = 2 := (by decide); have z3 : (3 : Int32).toInt = 3 := (by decide); have z5 : (5 : Int32).toInt = 5 := (by decide); have z9 : (9 : Int32).toInt = 9 := (by decide); exact (nmF_n (n := j1) (by omega) (fun h9 => absurd h9.1 (by omega))).symm.trans hout) hP hS ls (lv_sub hl [0, 3] rfl)
                  · skip
                    exact absurd c16 (by decide)
                · skip
                  exact absurd c15 (by decide)
            exact loop51_12 ((nsp - nhe) + 1) 0 (by omega) (by omega)  _ _ trivial hP hS ls (lv_sub hl [0, 1, 2, 3] rfl)
          · skip
            have n17 : (nsp - nhe) = ((cutL.getD (j1 + 1) 0) - (cutL.getD j1 0)) := by have t := eqI c9; rw [nI_toInt (n := (nsp - nhe)) (by omega)] at t; rw [nI_toInt (n := ((cutL.getD (j1 + 1) 0) - (cutL.getD j1 0))) (by omega)] at t; omega
            refine lv_iconst (v := 1) hx hb dX11_nameHere_43 (by decide) ?_
            refine lv_goto (tgt := 48) hx hb dX11_nameHere_44 (by decide) ?_
            refine lv_istore_n (lv' := [(2, .int 1), (1, .int (nI j1)), (0, .ref h0)]) hx hb dX11_nameHere_48 rfl hl (by decide) rfl (fun ls hl => ?_)
            refine lv_iconst (v := 0) hx hb dX11_nameHere_49 (by decide) ?_
            refine lv_istore_n (lv' := [(3, .int 0), (2, .int 1), (1, .int (nI j1)), (0, .ref h0)]) hx hb dX11_nameHere_50 rfl hl (by decide) rfl (fun ls hl => ?_)
            have loop51_20 : ∀ (nf j18 : Nat), (nsp - nhe) + 1 ≤ j18 + nf → j18 ≤ (nsp - nhe) → ∀ (y19 : Int32) (H : Heap) (locs : List Loc), ((y19 = 1 ∧ ∀ q9 : Nat, q9 < j18 → ftp (nhe + q9) = letL.getD (cutL.getD j1 0 + q9) 0) ∨ (y19 = 0 ∧ ¬ ∀ q9 : Nat, q9 < nsp - nhe → ftp (nhe + q9) = letL.getD (cutL.getD j1 0 + q9) 0)) → va_P (dC, dI) vwCl [(h0, .inr (11, [.ref st, .int (nI N), .int (nI B), .ref rp, .int vrs, .int vrb, .int vhs, .int vca, .int vxs, .int vxb, .ref tp, .int (nI T), .int vfa, .int vbr, .int vba, .int (nI nsp), .int (nI nhe), .int vtk, .int vva, .ref cu, .ref lt, .ref od, .ref th, .ref be, .ref ln, .int (nI S), .ref ma, .int (nI M), .ref ah, .ref bh, .ref ik, .ref la, .ref lg, .ref ce, .int vto])), (tp, .inl (G 0, 320, .inl ftp)), (cu, .inl (G 0, 11, .inl fcu)), (lt, .inl (G 0, 54, .inl flt))] H → va_S (fun q : Nat => s.heap.size ≤ q) s.heap H locs → ∀ (ls : Array Slot), lv_has ls 4 [(3, .int (nI j18)), (2, .int y19), (1, .int (nI j1)), (0, .ref h0)] → W p l e (headSpec (Cond.code yX11_nameHere cX11_nameHere 4 (some .int) :: GT) ({ frames := 1, cells := 0, slots := 0, locals := 21 } : Room)).room s m ([.ref h0] : List Value).toArray below meth c H locs 0 0 (MQ below (va_Qi (fun (r : Int32) (u : Unit) => match u with | _ => ((r = -4 ∨ ∃ k : Nat, r = nI k ∧ k ≤ 9) ∧ r = nmS ftp nhe nsp vtk) ∧ True) (fun _ _ => True) (fun q : Nat => s.heap.size ≤ q)) ([.ref h0] : List Value).toArray s 0 0 (fun q : Nat => s.heap.size ≤ q)) (F0 m 51 ls []) := by
              intro nf
              induction nf with
              | zero => intro j18 h1 h2; exact absurd h1 (by omega)
              | succ nf ih51_20 =>
                intro j18 hn21 hj22 y19 H locs hinv hP hS ls hl
                refine lv_iload_n hx hb dX11_nameHere_51 rfl (lv_at hl 1 rfl) ?_
                refine lv_if_eq (tgt := 106) hx hb dX11_nameHere_52 (by decide) (fun c23 => ?_) (fun c23 => ?_)
                · skip
                  refine lv_iload_n hx hb dX11_nameHere_106 rfl (lv_at hl 1 rfl) ?_
                  refine lv_if_eq (tgt := 112) hx hb dX11_nameHere_107 (by decide) (fun c24 => ?_) (fun c24 => ?_)
                  · skip
                    refine lv_iinc (v := nI (j1 + 1)) (lv' := [(1, .int (nI (j1 + 1))), (3, .int (nI j18)), (2, .int y19), (0, .ref h0)]) hx hb dX11_nameHere_112 hl (k := 2) rfl (by rw [show Int32.ofInt 1 = nI 1 from by decide]; exact nI_add _ _) (by decide) rfl (fun ls hl => ?_)
                    refine lv_goto (tgt := 2) hx hb dX11_nameHere_115 (by decide) ?_
                    exact ih2_2 (j1 + 1) (by omega) (by omega)  _ _ (by have t_hj4 := hj4; have t_n7 := n7; have t_c8 := eqI c8; have t_hcmj1 := hcmj1; have t_n17 := n17; have t_hj22 := hj22; have t_c23 := eqI c23; have t_c24 := eqI c24; have : (0 : Int32).toInt = 0 := (by decide); have : (1 : Int32).toInt = 1 := (by decide); have t_n0 : (nI N).toInt = (N : Int) := nI_toInt (by omega); have t_n1 : (nI B).toInt = (B : Int) := nI_toInt (by omega); have t_n2 : (nI T).toInt = (T : Int) := nI_toInt (by omega); have t_n3 : (nI nsp).toInt = (nsp : Int) := nI_toInt (by omega); have t_n4 : (nI nhe).toInt = (nhe : Int) := nI_toInt (by omega); have t_n5 : (nI S).toInt = (S : Int) := nI_toInt (by omega); have t_n6 : (nI M).toInt = (M : Int) := nI_toInt (by omega); have t_n7 : (nI j1).toInt = (j1 : Int) := nI_toInt (by omega); have t_n8 : (nI j18).toInt = (j18 : Int) := nI_toInt (by omega); have z0 : (0 : Int32).toInt = 0 := (by decide); have z1 : (1 : Int32).toInt = 1 := (by decide); have z2 : (2 : Int32).toInt = 2 := (by decide); have z3 : (3 : Int32).toInt = 3 := (by decide); have z5 : (5 : Int32).toInt = 5 := (by decide); have z9 : (9 : Int32).toInt = 9 := (by decide); exact (nmF_n (n := j1) (by omega) (fun h9 => by rcases hinv with g9 | g9; exact absurd (g9.1.symm.trans (by assumption : y19 = 0)) (by decide); exact g9.2 h9.2)).symm.trans hout) hP hS ls (lv_sub hl [0, 3] rfl)
                  · skip
                    have t_hj4 := hj4
                    have t_n7 := n7
                    have t_c8 := eqI c8
                    have t_hcmj1 := hcmj1
                    have t_n17 := n17
                    have t_hj22 := hj22
                    have t_c23 := eqI c23
                    have t_c24 := neI c24
                    have : (0 : Int32).toInt = 0 := (by decide)
                    have : (1 : Int32).toInt = 1 := (by decide)
                    have t_n0 : (nI N).toInt = (N : Int) := nI_toInt (by omega)
                    have t_n1 : (nI B).toInt = (B : Int) := nI_toInt (by omega)
                    have t_n2 : (nI T).toInt = (T : Int) := nI_toInt (by omega)
                    have t_n3 : (nI nsp).toInt = (nsp : Int) := nI_toInt (by omega)
                    have t_n4 : (nI nhe).toInt = (nhe : Int) := nI_toInt (by omega)
                    have t_n5 : (nI S).toInt = (S : Int) := nI_toInt (by omega)
                    have t_n6 : (nI M).toInt = (M : Int) := nI_toInt (by omega)
                    have t_n7 : (nI j1).toInt = (j1 : Int) := nI_toInt (by omega)
                    have t_n8 : (nI j18).toInt = (j18 : Int) := nI_toInt (by omega)
                    exfalso; omega
                · skip
                  refine lv_iload_n hx hb dX11_nameHere_55 rfl (lv_at hl 0 rfl) ?_
                  refine lv_aload_n hx hb dX11_nameHere_56 rfl (lv_at hl 3 rfl) ?_
                  refine va_get (D := (dC, dI)) (ci := 11) (v := .int (nI nsp)) (C := RX11) (T := TX11) (N := 35) hx hb hg inG11 hown hK.1 hP 0 rfl rfl 15 (by decide) (hg _ wt_893) (fun _ h9 => h9) rfl dX11_nameHere_57 ?_
                  refine lv_aload_n hx hb dX11_nameHere_60 rfl (lv_at hl 3 rfl) ?_
                  refine va_get (D := (dC, dI)) (ci := 11) (v := .int (nI nhe)) (C := RX11) (T := TX11) (N := 35) hx hb hg inG11 hown hK.1 hP 0 rfl rfl 16 (by decide) (hg _ wt_894) (fun _ h9 => h9) rfl dX11_nameHere_61 ?_
                  refine lv_isub hx hb dX11_nameHere_64 ?_
                  refine lv_cg (y := nI (nsp - nhe)) (by exact pk_sub (by have t_hj4 := hj4; have t_n7 := n7; have t_c8 := eqI c8; have t_hcmj1 := hcmj1; have t_n17 := n17; have t_hj22 := hj22; have t_c23 := neI c23; have : (0 : Int32).toInt = 0 := (by decide); have : (1 : Int32).toInt = 1 := (by decide); have t_n0 : (nI N).toInt = (N : Int) := nI_toInt (by omega); have t_n1 : (nI B).toInt = (B : Int) := nI_toInt (by omega); have t_n2 : (nI T).toInt = (T : Int) := nI_toInt (by omega); have t_n3 : (nI nsp).toInt = (nsp : Int) := nI_toInt (by omega); have t_n4 : (nI nhe).toInt = (nhe : Int) := nI_toInt (by omega); have t_n5 : (nI S).toInt = (S : Int) := nI_toInt (by omega); have t_n6 : (nI M).toInt = (M : Int) := nI_toInt (by omega); have t_n7 : (nI j1).toInt = (j1 : Int) := nI_toInt (by omega); have t_n8 : (nI j18).toInt = (j18 : Int) := nI_toInt (by omega); omega)) ?_
                  refine lv_icmp_ge (tgt := 106) hx hb dX11_nameHere_65 (by decide) (fun c25 => ?_) (fun c25 => ?_)
                  · skip
                    have n26 : (nsp - nhe) ≤ j18 := by have t := leI c25; rw [nI_toInt (n := j18) (by omega)] at t; rw [nI_toInt (n := (nsp - nhe)) (by omega)] at t; omega
                    refine lv_iload_n hx hb dX11_nameHere_106 rfl (lv_at hl 1 rfl) ?_
                    refine lv_if_eq (tgt := 112) hx hb dX11_nameHere_107 (by decide) (fun c27 => ?_) (fun c27 => ?_)
                    · skip
                      have t_hj4 := hj4
                      have t_n7 := n7
                      have t_c8 := eqI c8
                      have t_hcmj1 := hcmj1
                      have t_n17 := n17
                      have t_hj22 := hj22
                      have t_c23 := neI c23
                      have t_n26 := n26
                      have t_c27 := eqI c27
                      have : (0 : Int32).toInt = 0 := (by decide)
                      have : (1 : Int32).toInt = 1 := (by decide)
                      have t_n0 : (nI N).toInt = (N : Int) := nI_toInt (by omega)
                      have t_n1 : (nI B).toInt = (B : Int) := nI_toInt (by omega)
                      have t_n2 : (nI T).toInt = (T : Int) := nI_toInt (by omega)
                      have t_n3 : (nI nsp).toInt = (nsp : Int) := nI_toInt (by omega)
                      have t_n4 : (nI nhe).toInt = (nhe : Int) := nI_toInt (by omega)
                      have t_n5 : (nI S).toInt = (S : Int) := nI_toInt (by omega)
                      have t_n6 : (nI M).toInt = (M : Int) := nI_toInt (by omega)
                      have t_n7 : (nI j1).toInt = (j1 : Int) := nI_toInt (by omega)
                      have t_n8 : (nI j18).toInt = (j18 : Int) := nI_toInt (by omega)
                      exfalso; omega
                    · skip
                      refine lv_iload_n hx hb dX11_nameHere_110 rfl (lv_at hl 2 rfl) ?_
                      have hpost : ((nI j1 : Int32) = -4 ∨ ∃ k : Nat, (nI j1 : Int32) = nI k ∧ k ≤ 9) ∧ (nI j1 : Int32) = nmS ftp nhe nsp vtk := by
                        have t_hj4 := hj4
                        have t_n7 := n7
                        have t_c8 := eqI c8
                        have t_hcmj1 := hcmj1
                        have t_n17 := n17
                        have t_hj22 := hj22
                        have t_c23 := neI c23
                        have t_n26 := n26
                        have t_c27 := neI c27
                        have : (0 : Int32).toInt = 0 := (by decide)
                        have : (1 : Int32).toInt = 1 := (by decide)
                        have t_n0 : (nI N).toInt = (N : Int) := nI_toInt (by omega)
                        have t_n1 : (nI B).toInt = (B : Int) := nI_toInt (by omega)
                        have t_n2 : (nI T).toInt = (T : Int) := nI_toInt (by omega)
                        have t_n3 : (nI nsp).toInt = (nsp : Int) := nI_toInt (by omega)
                        have t_n4 : (nI nhe).toInt = (nhe : Int) := nI_toInt (by omega)
                        have t_n5 : (nI S).toInt = (S : Int) := nI_toInt (by omega)
                        have t_n6 : (nI M).toInt = (M : Int) := nI_toInt (by omega)
                        have t_n7 : (nI j1).toInt = (j1 : Int) := nI_toInt (by omega)
                        have t_n8 : (nI j18).toInt = (j18 : Int) := nI_toInt (by omega)
                        have z0 : (0 : Int32).toInt = 0 := (by decide)
                        have z1 : (1 : Int32).toInt = 1 := (by decide)
                        have z2 : (2 : Int32).toInt = 2 := (by decide)
                        have z3 : (3 : Int32).toInt = 3 := (by decide)
                        have z5 : (5 : Int32).toInt = 5 := (by decide)
                        have z9 : (9 : Int32).toInt = 9 := (by decide)
                        refine ⟨Or.inr ⟨j1, rfl, by omega⟩, ?_⟩
                        unfold nmS
                        rw [if_pos (by assumption), ← hout]
                        refine (nmF_y (by omega) ⟨by omega, fun q9 h9 => ?_⟩).symm
                        rcases hinv with g9 | g9
                        · exact g9.2 q9 (by omega)
                        · exact absurd g9.1 (by assumption)
                      refine W.widen (k := 0) (n := 0) (by omega) (by omega) ?_
                      exact W.iret (v := nI j1) hx hb hr (fun t ht hW => ⟨⟨nI j1, (), rfl, ⟨hpost, trivial⟩, trivial⟩, hS.F ht⟩) hS.2.2 dX11_nameHere_111
                  · skip
                    have n28 : j18 < (nsp - nhe) := by have t := nleI c25; rw [nI_toInt (n := j18) (by omega)] at t; rw [nI_toInt (n := (nsp - nhe)) (by omega)] at t; omega
                    refine lv_aload_n hx hb dX11_nameHere_68 rfl (lv_at hl 3 rfl) ?_
                    refine lv_aload_n hx hb dX11_nameHere_69 rfl (lv_at hl 3 rfl) ?_
                    refine va_get (D := (dC, dI)) (ci := 11) (v := .int (nI nhe)) (C := RX11) (T := TX11) (N := 35) hx hb hg inG11 hown hK.1 hP 0 rfl rfl 16 (by decide) (hg _ wt_894) (fun _ h9 => h9) rfl dX11_nameHere_70 ?_
                    refine lv_iload_n hx hb dX11_nameHere_73 rfl (lv_at hl 0 rfl) ?_
                    refine lv_iadd hx hb dX11_nameHere_74 ?_
                    refine lv_cg (y := nI (nhe + j18)) (by exact nI_add _ _) ?_
                    have hPc := hP.sub (ws' := [(h0, .inr (11, [.ref st, .int (nI N), .int (nI B), .ref rp, .int vrs, .int vrb, .int vhs, .int vca, .int vxs, .int vxb, .ref tp, .int (nI T), .int vfa, .int vbr, .int vba, .int (nI nsp), .int (nI nhe), .int vtk, .int vva, .ref cu, .ref lt, .ref od, .ref th, .ref be, .ref ln, .int (nI S), .ref ma, .int (nI M), .ref ah, .ref bh, .ref ik, .ref la, .ref lg, .ref ce, .int vto])), (tp, .inl (G 0, 320, .inl ftp))]) [0, 1] rfl
                    refine va_calli (va_runV (As := [.int (nI (nhe + j18))]) (rest := []) ⟨hx, hb, hml, hown, hg⟩ (c_X11_byteAt l dC dI G _ h0 (nhe + j18) st N B rp tp T cu lt od th be ln S ma M ah bh ik la lg ce vrs vrb vhs vca vxs vxb vfa vbr vba (nI nsp) (nI nhe) vtk vva vto ftp (by have t_hj4 := hj4; have t_n7 := n7; have t_c8 := eqI c8; have t_hcmj1 := hcmj1; have t_n17 := n17; have t_hj22 := hj22; have t_c23 := neI c23; have t_n28 := n28; have : (0 : Int32).toInt = 0 := (by decide); have : (1 : Int32).toInt = 1 := (by decide); have t_n0 : (nI N).toInt = (N : Int) := nI_toInt (by omega); have t_n1 : (nI B).toInt = (B : Int) := nI_toInt (by omega); have t_n2 : (nI T).toInt = (T : Int) := nI_toInt (by omega); have t_n3 : (nI nsp).toInt = (nsp : Int) := nI_toInt (by omega); have t_n4 : (nI nhe).toInt = (nhe : Int) := nI_toInt (by omega); have t_n5 : (nI S).toInt = (S : Int) := nI_toInt (by omega); have t_n6 : (nI M).toInt = (M : Int) := nI_toInt (by omega); have t_n7 : (nI j1).toInt = (j1 : Int) := nI_toInt (by omega); have t_n8 : (nI j18).toInt = (j18 : Int) := nI_toInt (by omega); omega) (by have t_hj4 := hj4; have t_n7 := n7; have t_c8 := eqI c8; have t_hcmj1 := hcmj1; have t_n17 := n17; have t_hj22 := hj22; have t_c23 := neI c23; have t_n28 := n28; have : (0 : Int32).toInt = 0 := (by decide); have : (1 : Int32).toInt = 1 := (by decide); have t_n0 : (nI N).toInt = (N : Int) := nI_toInt (by omega); have t_n1 : (nI B).toInt = (B : Int) := nI_toInt (by omega); have t_n2 : (nI T).toInt = (T : Int) := nI_toInt (by omega); have t_n3 : (nI nsp).toInt = (nsp : Int) := nI_toInt (by omega); have t_n4 : (nI nhe).toInt = (nhe : Int) := nI_toInt (by omega); have t_n5 : (nI S).toInt = (S : Int) := nI_toInt (by omega); have t_n6 : (nI M).toInt = (M : Int) := nI_toInt (by omega); have t_n7 : (nI j1).toInt = (j1 : Int) := nI_toInt (by omega); have t_n8 : (nI j18).toInt = (j18 : Int) := nI_toInt (by omega); omega) (by have t_hj4 := hj4; have t_n7 := n7; have t_c8 := eqI c8; have t_hcmj1 := hcmj1; have t_n17 := n17; have t_hj22 := hj22; have t_c23 := neI c23; have t_n28 := n28; have : (0 : Int32).toInt = 0 := (by decide); have : (1 : Int32).toInt = 1 := (by decide); have t_n0 : (nI N).toInt = (N : Int) := nI_toInt (by omega); have t_n1 : (nI B).toInt = (B : Int) := nI_toInt (by omega); have t_n2 : (nI T).toInt = (T : Int) := nI_toInt (by omega); have t_n3 : (nI nsp).toInt = (nsp : Int) := nI_toInt (by omega); have t_n4 : (nI nhe).toInt = (nhe : Int) := nI_toInt (by omega); have t_n5 : (nI S).toInt = (S : Int) := nI_toInt (by omega); have t_n6 : (nI M).toInt = (M : Int) := nI_toInt (by omega); have t_n7 : (nI j1).toInt = (j1 : Int) := nI_toInt (by omega); have t_n8 : (nI j18).toInt = (j18 : Int) := nI_toInt (by omega); omega) (by have t_hj4 := hj4; have t_n7 := n7; have t_c8 := eqI c8; have t_hcmj1 := hcmj1; have t_n17 := n17; have t_hj22 := hj22; have t_c23 := neI c23; have t_n28 := n28; have : (0 : Int32).toInt = 0 := (by decide); have : (1 : Int32).toInt = 1 := (by decide); have t_n0 : (nI N).toInt = (N : Int) := nI_toInt (by omega); have t_n1 : (nI B).toInt = (B : Int) := nI_toInt (by omega); have t_n2 : (nI T).toInt = (T : Int) := nI_toInt (by omega); have t_n3 : (nI nsp).toInt = (nsp : Int) := nI_toInt (by omega); have t_n4 : (nI nhe).toInt = (nhe : Int) := nI_toInt (by omega); have t_n5 : (nI S).toInt = (S : Int) := nI_toInt (by omega); have t_n6 : (nI M).toInt = (M : Int) := nI_toInt (by omega); have t_n7 : (nI j1).toInt = (j1 : Int) := nI_toInt (by omega); have t_n8 : (nI j18).toInt = (j18 : Int) := nI_toInt (by omega); omega) (by have t_hj4 := hj4; have t_n7 := n7; have t_c8 := eqI c8; have t_hcmj1 := hcmj1; have t_n17 := n17; have t_hj22 := hj22; have t_c23 := neI c23; have t_n28 := n28; have : (0 : Int32).toInt = 0 := (by decide); have : (1 : Int32).toInt = 1 := (by decide); have t_n0 : (nI N).toInt = (N : Int) := nI_toInt (by omega); have t_n1 : (nI B).toInt = (B : Int) := nI_toInt (by omega); have t_n2 : (nI T).toInt = (T : Int) := nI_toInt (by omega); have t_n3 : (nI nsp).toInt = (nsp : Int) := nI_toInt (by omega); have t_n4 : (nI nhe).toInt = (nhe : Int) := nI_toInt (by omega); have t_n5 : (nI S).toInt = (S : Int) := nI_toInt (by omega); have t_n6 : (nI M).toInt = (M : Int) := nI_toInt (by omega); have t_n7 : (nI j1).toInt = (j1 : Int) := nI_toInt (by omega); have t_n8 : (nI j18).toInt = (j18 : Int) := nI_toInt (by omega); omega) (by have t_hj4 := hj4; have t_n7 := n7; have t_c8 := eqI c8; have t_hcmj1 := hcmj1; have t_n17 := n17; have t_hj22 := hj22; have t_c23 := neI c23; have t_n28 := n28; have : (0 : Int32).toInt = 0 := (by decide); have : (1 : Int32).toInt = 1 := (by decide); have t_n0 : (nI N).toInt = (N : Int) := nI_toInt (by omega); have t_n1 : (nI B).toInt = (B : Int) := nI_toInt (by omega); have t_n2 : (nI T).toInt = (T : Int) := nI_toInt (by omega); have t_n3 : (nI nsp).toInt = (nsp : Int) := nI_toInt (by omega); have t_n4 : (nI nhe).toInt = (nhe : Int) := nI_toInt (by omega); have t_n5 : (nI S).toInt = (S : Int) := nI_toInt (by omega); have t_n6 : (nI M).toInt = (M : Int) := nI_toInt (by omega); have t_n7 : (nI j1).toInt = (j1 : Int) := nI_toInt (by omega); have t_n8 : (nI j18).toInt = (j18 : Int) := nI_toInt (by omega); omega)) (kwV hg mfX11_byteAt wt_1003 ⟨Nat.le_of_ble_eq_true rfl, Nat.le_of_ble_eq_true rfl⟩) (preVR hK hPc (ci := 11) rfl rfl) rfl rfl hl.1 rfl (lv_room (Nat.le_of_ble_eq_true rfl)) dX11_nameHere_75 ⟨Nat.le_of_ble_eq_true rfl, Nat.le_of_ble_eq_true rfl⟩) hS (fun q h1 h2 => absurd h2 (Nat.not_le.mpr h1)) (fun q h => hA q (Nat.le_trans hS.1 h)) (fun r29 ur29 t H1 locs ht hvm w30 hB hz1 hk1 hS => ?_)
                    have hP := keepR hP hk1
                    obtain ⟨w30, w30x⟩ := w30
                    rcases w30 with ⟨w301, w302⟩ | ⟨w301, w302⟩
                    · skip
                      refine lv_cg (y := ftp (nhe + j18)) w302 ?_
                      refine lv_aload_n hx hb dX11_nameHere_78 rfl (lv_at hl 3 rfl) ?_
                      refine va_get (D := (dC, dI)) (ci := 11) (v := .ref lt) (C := RX11) (T := TX11) (N := 35) hx hb hg inG11 hown hK.1 hP 0 rfl rfl 20 (by decide) (hg _ wt_898) (fun _ h9 => h9) rfl dX11_nameHere_79 ?_
                      refine lv_aload_n hx hb dX11_nameHere_82 rfl (lv_at hl 3 rfl) ?_
                      refine va_get (D := (dC, dI)) (ci := 11) (v := .ref cu) (C := RX11) (T := TX11) (N := 35) hx hb hg inG11 hown hK.1 hP 0 rfl rfl 19 (by decide) (hg _ wt_897) (fun _ h9 => h9) rfl dX11_nameHere_83 ?_
                      refine lv_iload_n hx hb dX11_nameHere_86 rfl (lv_at hl 2 rfl) ?_
                      refine va_iald hx hb hK.1 hP 2 0 rfl rfl (vp_in_nI (by have t_hj4 := hj4; have t_n7 := n7; have t_c8 := eqI c8; have t_hcmj1 := hcmj1; have t_n17 := n17; have t_hj22 := hj22; have t_c23 := neI c23; have t_n28 := n28; have t_w301 := w301; have : (0 : Int32).toInt = 0 := (by decide); have : (1 : Int32).toInt = 1 := (by decide); have t_n0 : (nI N).toInt = (N : Int) := nI_toInt (by omega); have t_n1 : (nI B).toInt = (B : Int) := nI_toInt (by omega); have t_n2 : (nI T).toInt = (T : Int) := nI_toInt (by omega); have t_n3 : (nI nsp).toInt = (nsp : Int) := nI_toInt (by omega); have t_n4 : (nI nhe).toInt = (nhe : Int) := nI_toInt (by omega); have t_n5 : (nI S).toInt = (S : Int) := nI_toInt (by omega); have t_n6 : (nI M).toInt = (M : Int) := nI_toInt (by omega); have t_n7 : (nI j1).toInt = (j1 : Int) := nI_toInt (by omega); have t_n8 : (nI j18).toInt = (j18 : Int) := nI_toInt (by omega); omega) (by decide)) dX11_nameHere_87 ?_
                      refine lv_cg (y := fcu j1) (by rw [nI_clamp (by omega)]) ?_
                      refine lv_cg (y := nI (cutL.getD j1 0)) (hc j1 (by omega)) ?_
                      refine lv_iload_n hx hb dX11_nameHere_88 rfl (lv_at hl 0 rfl) ?_
                      refine lv_iadd hx hb dX11_nameHere_89 ?_
                      refine lv_cg (y := nI ((cutL.getD j1 0) + j18)) (by exact nI_add _ _) ?_
                      refine va_iald hx hb hK.1 hP 3 0 rfl rfl (vp_in_nI (by have t_hj4 := hj4; have t_n7 := n7; have t_c8 := eqI c8; have t_hcmj1 := hcmj1; have t_n17 := n17; have t_hj22 := hj22; have t_c23 := neI c23; have t_n28 := n28; have t_w301 := w301; have : (0 : Int32).toInt = 0 := (by decide); have : (1 : Int32).toInt = 1 := (by decide); have t_n0 : (nI N).toInt = (N : Int) := nI_toInt (by omega); have t_n1 : (nI B).toInt = (B : Int) := nI_toInt (by omega); have t_n2 : (nI T).toInt = (T : Int) := nI_toInt (by omega); have t_n3 : (nI nsp).toInt = (nsp : Int) := nI_toInt (by omega); have t_n4 : (nI nhe).toInt = (nhe : Int) := nI_toInt (by omega); have t_n5 : (nI S).toInt = (S : Int) := nI_toInt (by omega); have t_n6 : (nI M).toInt = (M : Int) := nI_toInt (by omega); have t_n7 : (nI j1).toInt = (j1 : Int) := nI_toInt (by omega); have t_n8 : (nI j18).toInt = (j18 : Int) := nI_toInt (by omega); omega) (by decide)) dX11_nameHere_90 ?_
                      refine lv_cg (y := flt ((cutL.getD j1 0) + j18)) (by rw [nI_clamp (by omega)]) ?_
                      refine lv_icmp_ne (tgt := 98) hx hb dX11_nameHere_91 (by decide) (fun c31 => ?_) (fun c31 => ?_)
                      · skip
                        refine lv_iconst (v := 0) hx hb dX11_nameHere_98 (by decide) ?_
                        refine lv_istore_n (lv' := [(2, .int 0), (3, .int (nI j18)), (1, .int (nI j1)), (0, .ref h0)]) hx hb dX11_nameHere_99 rfl hl (by decide) rfl (fun ls hl => ?_)
                        refine lv_iinc (v := nI (j18 + 1)) (lv' := [(3, .int (nI (j18 + 1))), (2, .int 0), (1, .int (nI j1)), (0, .ref h0)]) hx hb dX11_nameHere_100 hl (k := 1) rfl (by rw [show Int32.ofInt 1 = nI 1 from by decide]; exact nI_add _ _) (by decide) rfl (fun ls hl => ?_)
                        refine lv_goto (tgt := 51) hx hb dX11_nameHere_103 (by decide) ?_
                        exact ih51_20 (j18 + 1) (by omega) (by omega) 0 _ _ (by have t_hj4 := hj4; have t_n7 := n7; have t_c8 := eqI c8; have t_hcmj1 := hcmj1; have t_n17 := n17; have t_hj22 := hj22; have t_c23 := neI c23; have t_n28 := n28; have t_w301 := w301; have t_c31 := neI c31; have : (0 : Int32).toInt = 0 := (by decide); have : (1 : Int32).toInt = 1 := (by decide); have t_n0 : (nI N).toInt = (N : Int) := nI_toInt (by omega); have t_n1 : (nI B).toInt = (B : Int) := nI_toInt (by omega); have t_n2 : (nI T).toInt = (T : Int) := nI_toInt (by omega); have t_n3 : (nI nsp).toInt = (nsp : Int) := nI_toInt (by omega); have t_n4 : (nI nhe).toInt = (nhe : Int) := nI_toInt (by omega); have t_n5 : (nI S).toInt = (S : Int) := nI_toInt (by omega); have t_n6 : (nI M).toInt = (M : Int) := nI_toInt (by omega); have t_n7 : (nI j1).toInt = (j1 : Int) := nI_toInt (by omega); have t_n8 : (nI j18).toInt = (j18 : Int) := nI_toInt (by omega); have z0 : (0 : Int32).toInt = 0 := (by decide); have z1 : (1 : Int32).toInt = 1 := (by decide); have z2 : (2 : Int32).toInt = 2 := (by decide); have z3 : (3 : Int32).toInt = 3 := (by decide); have z5 : (5 : Int32).toInt = 5 := (by decide); have z9 : (9 : Int32).toInt = 9 := (by decide); first | (exfalso; omega) | (refine Or.inr ⟨rfl, fun g9 => ?_⟩; have g8 := g9 j18 (by omega); rw [← hlt _ (by omega)] at g8; exact absurd g8 (by assumption))) hP hS ls (lv_sub hl [0, 1, 2, 3] rfl)
                      · skip
                        refine lv_iconst (v := 1) hx hb dX11_nameHere_94 (by decide) ?_
                        refine lv_goto (tgt := 99) hx hb dX11_nameHere_95 (by decide) ?_
                        refine lv_istore_n (lv' := [(2, .int 1), (3, .int (nI j18)), (1, .int (nI j1)), (0, .ref h0)]) hx hb dX11_nameHere_99 rfl hl (by decide) rfl (fun ls hl => ?_)
                        refine lv_iinc (v := nI (j18 + 1)) (lv' := [(3, .int (nI (j18 + 1))), (2, .int 1), (1, .int (nI j1)), (0, .ref h0)]) hx hb dX11_nameHere_100 hl (k := 1) rfl (by rw [show Int32.ofInt 1 = nI 1 from by decide]; exact nI_add _ _) (by decide) rfl (fun ls hl => ?_)
                        refine lv_goto (tgt := 51) hx hb dX11_nameHere_103 (by decide) ?_
                        exact ih51_20 (j18 + 1) (by omega) (by omega) 1 _ _ (by have t_hj4 := hj4; have t_n7 := n7; have t_c8 := eqI c8; have t_hcmj1 := hcmj1; have t_n17 := n17; have t_hj22 := hj22; have t_c23 := neI c23; have t_n28 := n28; have t_w301 := w301; have t_c31 := eqI c31; have : (0 : Int32).toInt = 0 := (by decide); have : (1 : Int32).toInt = 1 := (by decide); have t_n0 : (nI N).toInt = (N : Int) := nI_toInt (by omega); have t_n1 : (nI B).toInt = (B : Int) := nI_toInt (by omega); have t_n2 : (nI T).toInt = (T : Int) := nI_toInt (by omega); have t_n3 : (nI nsp).toInt = (nsp : Int) := nI_toInt (by omega); have t_n4 : (nI nhe).toInt = (nhe : Int) := nI_toInt (by omega); have t_n5 : (nI S).toInt = (S : Int) := nI_toInt (by omega); have t_n6 : (nI M).toInt = (M : Int) := nI_toInt (by omega); have t_n7 : (nI j1).toInt = (j1 : Int) := nI_toInt (by omega); have t_n8 : (nI j18).toInt = (j18 : Int) := nI_toInt (by omega); have z0 : (0 : Int32).toInt = 0 := (by decide); have z1 : (1 : Int32).toInt = 1 := (by decide); have z2 : (2 : Int32).toInt = 2 := (by decide); have z3 : (3 : Int32).toInt = 3 := (by decide); have z5 : (5 : Int32).toInt = 5 := (by decide); have z9 : (9 : Int32).toInt = 9 := (by decide); first | (exfalso; omega) | (refine Or.inl ⟨rfl, fun q9 h9 => ?_⟩; by_cases e9 : q9 = j18; (subst e9; exact (by assumption : ftp (nhe + q9) = flt (cutL.getD j1 0 + q9)).trans (hlt _ (by omega))); (rcases hinv with g9 | g9; exact g9.2 q9 (by omega); exact absurd g9.1 (by assumption)))) hP hS ls (lv_sub hl [0, 1, 2, 3] rfl)
                    · skip
                      refine lv_cg (y := (-4)) w302 ?_
                      refine lv_aload_n hx hb dX11_nameHere_78 rfl (lv_at hl 3 rfl) ?_
                      refine va_get (D := (dC, dI)) (ci := 11) (v := .ref lt) (C := RX11) (T := TX11) (N := 35) hx hb hg inG11 hown hK.1 hP 0 rfl rfl 20 (by decide) (hg _ wt_898) (fun _ h9 => h9) rfl dX11_nameHere_79 ?_
                      refine lv_aload_n hx hb dX11_nameHere_82 rfl (lv_at hl 3 rfl) ?_
                      refine va_get (D := (dC, dI)) (ci := 11) (v := .ref cu) (C := RX11) (T := TX11) (N := 35) hx hb hg inG11 hown hK.1 hP 0 rfl rfl 19 (by decide) (hg _ wt_897) (fun _ h9 => h9) rfl dX11_nameHere_83 ?_
                      refine lv_iload_n hx hb dX11_nameHere_86 rfl (lv_at hl 2 rfl) ?_
                      refine va_iald hx hb hK.1 hP 2 0 rfl rfl (vp_in_nI (by have t_hj4 := hj4; have t_n7 := n7; have t_c8 := eqI c8; have t_hcmj1 := hcmj1; have t_n17 := n17; have t_hj22 := hj22; have t_c23 := neI c23; have t_n28 := n28; have t_w301 := w301; have : (0 : Int32).toInt = 0 := (by decide); have : (1 : Int32).toInt = 1 := (by decide); have t_n0 : (nI N).toInt = (N : Int) := nI_toInt (by omega); have t_n1 : (nI B).toInt = (B : Int) := nI_toInt (by omega); have t_n2 : (nI T).toInt = (T : Int) := nI_toInt (by omega); have t_n3 : (nI nsp).toInt = (nsp : Int) := nI_toInt (by omega); have t_n4 : (nI nhe).toInt = (nhe : Int) := nI_toInt (by omega); have t_n5 : (nI S).toInt = (S : Int) := nI_toInt (by omega); have t_n6 : (nI M).toInt = (M : Int) := nI_toInt (by omega); have t_n7 : (nI j1).toInt = (j1 : Int) := nI_toInt (by omega); have t_n8 : (nI j18).toInt = (j18 : Int) := nI_toInt (by omega); omega) (by decide)) dX11_nameHere_87 ?_
                      refine lv_cg (y := fcu j1) (by rw [nI_clamp (by omega)]) ?_
                      refine lv_cg (y := nI (cutL.getD j1 0)) (hc j1 (by omega)) ?_
                      refine lv_iload_n hx hb dX11_nameHere_88 rfl (lv_at hl 0 rfl) ?_
                      refine lv_iadd hx hb dX11_nameHere_89 ?_
                      refine lv_cg (y := nI ((cutL.getD j1 0) + j18)) (by exact nI_add _ _) ?_
                      refine va_iald hx hb hK.1 hP 3 0 rfl rfl (vp_in_nI (by have t_hj4 := hj4; have t_n7 := n7; have t_c8 := eqI c8; have t_hcmj1 := hcmj1; have t_n17 := n17; have t_hj22 := hj22; have t_c23 := neI c23; have t_n28 := n28; have t_w301 := w301; have : (0 : Int32).toInt = 0 := (by decide); have : (1 : Int32).toInt = 1 := (by decide); have t_n0 : (nI N).toInt = (N : Int) := nI_toInt (by omega); have t_n1 : (nI B).toInt = (B : Int) := nI_toInt (by omega); have t_n2 : (nI T).toInt = (T : Int) := nI_toInt (by omega); have t_n3 : (nI nsp).toInt = (nsp : Int) := nI_toInt (by omega); have t_n4 : (nI nhe).toInt = (nhe : Int) := nI_toInt (by omega); have t_n5 : (nI S).toInt = (S : Int) := nI_toInt (by omega); have t_n6 : (nI M).toInt = (M : Int) := nI_toInt (by omega); have t_n7 : (nI j1).toInt = (j1 : Int) := nI_toInt (by omega); have t_n8 : (nI j18).toInt = (j18 : Int) := nI_toInt (by omega); omega) (by decide)) dX11_nameHere_90 ?_
                      refine lv_cg (y := flt ((cutL.getD j1 0) + j18)) (by rw [nI_clamp (by omega)]) ?_
                      refine lv_icmp_ne (tgt := 98) hx hb dX11_nameHere_91 (by decide) (fun c32 => ?_) (fun c32 => ?_)
                      · skip
                        refine lv_iconst (v := 0) hx hb dX11_nameHere_98 (by decide) ?_
                        refine lv_istore_n (lv' := [(2, .int 0), (3, .int (nI j18)), (1, .int (nI j1)), (0, .ref h0)]) hx hb dX11_nameHere_99 rfl hl (by decide) rfl (fun ls hl => ?_)
                        refine lv_iinc (v := nI (j18 + 1)) (lv' := [(3, .int (nI (j18 + 1))), (2, .int 0), (1, .int (nI j1)), (0, .ref h0)]) hx hb dX11_nameHere_100 hl (k := 1) rfl (by rw [show Int32.ofInt 1 = nI 1 from by decide]; exact nI_add _ _) (by decide) rfl (fun ls hl => ?_)
                        refine lv_goto (tgt := 51) hx hb dX11_nameHere_103 (by decide) ?_
                        exact ih51_20 (j18 + 1) (by omega) (by omega) 0 _ _ (by have t_hj4 := hj4; have t_n7 := n7; have t_c8 := eqI c8; have t_hcmj1 := hcmj1; have t_n17 := n17; have t_hj22 := hj22; have t_c23 := neI c23; have t_n28 := n28; have t_w301 := w301; have t_c32 := neI c32; have : ((-4) : Int32).toInt = -4 := (by decide); have : (0 : Int32).toInt = 0 := (by decide); have : (1 : Int32).toInt = 1 := (by decide); have t_n0 : (nI N).toInt = (N : Int) := nI_toInt (by omega); have t_n1 : (nI B).toInt = (B : Int) := nI_toInt (by omega); have t_n2 : (nI T).toInt = (T : Int) := nI_toInt (by omega); have t_n3 : (nI nsp).toInt = (nsp : Int) := nI_toInt (by omega); have t_n4 : (nI nhe).toInt = (nhe : Int) := nI_toInt (by omega); have t_n5 : (nI S).toInt = (S : Int) := nI_toInt (by omega); have t_n6 : (nI M).toInt = (M : Int) := nI_toInt (by omega); have t_n7 : (nI j1).toInt = (j1 : Int) := nI_toInt (by omega); have t_n8 : (nI j18).toInt = (j18 : Int) := nI_toInt (by omega); have z0 : (0 : Int32).toInt = 0 := (by decide); have z1 : (1 : Int32).toInt = 1 := (by decide); have z2 : (2 : Int32).toInt = 2 := (by decide); have z3 : (3 : Int32).toInt = 3 := (by decide); have z5 : (5 : Int32).toInt = 5 := (by decide); have z9 : (9 : Int32).toInt = 9 := (by decide); first | (exfalso; omega) | (refine Or.inr ⟨rfl, fun g9 => ?_⟩; have g8 := g9 j18 (by omega); rw [← hlt _ (by omega)] at g8; exact absurd g8 (by assumption))) hP hS ls (lv_sub hl [0, 1, 2, 3] rfl)
                      · skip
                        refine lv_iconst (v := 1) hx hb dX11_nameHere_94 (by decide) ?_
                        refine lv_goto (tgt := 99) hx hb dX11_nameHere_95 (by decide) ?_
                        refine lv_istore_n (lv' := [(2, .int 1), (3, .int (nI j18)), (1, .int (nI j1)), (0, .ref h0)]) hx hb dX11_nameHere_99 rfl hl (by decide) rfl (fun ls hl => ?_)
                        refine lv_iinc (v := nI (j18 + 1)) (lv' := [(3, .int (nI (j18 + 1))), (2, .int 1), (1, .int (nI j1)), (0, .ref h0)]) hx hb dX11_nameHere_100 hl (k := 1) rfl (by rw [show Int32.ofInt 1 = nI 1 from by decide]; exact nI_add _ _) (by decide) rfl (fun ls hl => ?_)
                        refine lv_goto (tgt := 51) hx hb dX11_nameHere_103 (by decide) ?_
                        exact ih51_20 (j18 + 1) (by omega) (by omega) 1 _ _ (by have t_hj4 := hj4; have t_n7 := n7; have t_c8 := eqI c8; have t_hcmj1 := hcmj1; have t_n17 := n17; have t_hj22 := hj22; have t_c23 := neI c23; have t_n28 := n28; have t_w301 := w301; have t_c32 := eqI c32; have : ((-4) : Int32).toInt = -4 := (by decide); have : (0 : Int32).toInt = 0 := (by decide); have : (1 : Int32).toInt = 1 := (by decide); have t_n0 : (nI N).toInt = (N : Int) := nI_toInt (by omega); have t_n1 : (nI B).toInt = (B : Int) := nI_toInt (by omega); have t_n2 : (nI T).toInt = (T : Int) := nI_toInt (by omega); have t_n3 : (nI nsp).toInt = (nsp : Int) := nI_toInt (by omega); have t_n4 : (nI nhe).toInt = (nhe : Int) := nI_toInt (by omega); have t_n5 : (nI S).toInt = (S : Int) := nI_toInt (by omega); have t_n6 : (nI M).toInt = (M : Int) := nI_toInt (by omega); have t_n7 : (nI j1).toInt = (j1 : Int) := nI_toInt (by omega); have t_n8 : (nI j18).toInt = (j18 : Int) := nI_toInt (by omega); have z0 : (0 : Int32).toInt = 0 := (by decide); have z1 : (1 : Int32).toInt = 1 := (by decide); have z2 : (2 : Int32).toInt = 2 := (by decide); have z3 : (3 : Int32).toInt = 3 := (by decide); have z5 : (5 : Int32).toInt = 5 := (by decide); have z9 : (9 : Int32).toInt = 9 := (by decide); first | (exfalso; omega) | (refine Or.inl ⟨rfl, fun q9 h9 => ?_⟩; by_cases e9 : q9 = j18; (subst e9; exact (by assumption : ftp (nhe + q9) = flt (cutL.getD j1 0 + q9)).trans (hlt _ (by omega))); (rcases hinv with g9 | g9; exact g9.2 q9 (by omega); exact absurd g9.1 (by assumption)))) hP hS ls (lv_sub hl [0, 1, 2, 3] rfl)
            exact loop51_20 ((nsp - nhe) + 1) 0 (by omega) (by omega) 1 _ _ (Or.inl ⟨rfl, fun q9 h9 => absurd h9 (Nat.not_lt_zero _)⟩) hP hS ls (lv_sub hl [0, 1, 2, 3] rfl)
  exact loop2_2 (10 + 1) 0 (by omega) (by omega)  _ _ rfl hP hS ls (lv_sub hl [0, 1] rfl)
